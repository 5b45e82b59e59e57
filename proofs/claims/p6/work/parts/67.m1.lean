theorem dX12_init_594 : decode cX12_init 594 = .ok (.bipush 111, 2) := by decide +kernel
theorem dX12_init_596 : decode cX12_init 596 = .ok (.castore, 1) := by decide +kernel
theorem dX12_init_597 : decode cX12_init 597 = .ok (.dup, 1) := by decide +kernel
theorem dX12_init_598 : decode cX12_init 598 = .ok (.iconst 2, 1) := by decide +kernel
theorem dX12_init_599 : decode cX12_init 599 = .ok (.bipush 115, 2) := by decide +kernel
theorem dX12_init_601 : decode cX12_init 601 = .ok (.castore, 1) := by decide +kernel
theorem dX12_init_602 : decode cX12_init 602 = .ok (.dup, 1) := by decide +kernel
theorem dX12_init_603 : decode cX12_init 603 = .ok (.iconst 3, 1) := by decide +kernel
theorem dX12_init_604 : decode cX12_init 604 = .ok (.bipush 116, 2) := by decide +kernel
theorem dX12_init_606 : decode cX12_init 606 = .ok (.castore, 1) := by decide +kernel
theorem dX12_init_607 : decode cX12_init 607 = .ok (.putfield 126, 3) := by decide +kernel
theorem dX12_init_610 : decode cX12_init 610 = .ok (.aload_n 0, 1) := by decide +kernel
theorem dX12_init_611 : decode cX12_init 611 = .ok (.iconst 5, 1) := by decide +kernel
theorem dX12_init_612 : decode cX12_init 612 = .ok (.newarray .char, 2) := by decide +kernel
theorem dX12_init_614 : decode cX12_init 614 = .ok (.dup, 1) := by decide +kernel
theorem dX12_init_615 : decode cX12_init 615 = .ok (.iconst 0, 1) := by decide +kernel
theorem dX12_init_616 : decode cX12_init 616 = .ok (.bipush 108, 2) := by decide +kernel
theorem dX12_init_618 : decode cX12_init 618 = .ok (.castore, 1) := by decide +kernel
theorem dX12_init_619 : decode cX12_init 619 = .ok (.dup, 1) := by decide +kernel
theorem dX12_init_620 : decode cX12_init 620 = .ok (.iconst 1, 1) := by decide +kernel
theorem dX12_init_621 : decode cX12_init 621 = .ok (.bipush 101, 2) := by decide +kernel
theorem dX12_init_623 : decode cX12_init 623 = .ok (.castore, 1) := by decide +kernel
theorem dX12_init_624 : decode cX12_init 624 = .ok (.dup, 1) := by decide +kernel
theorem dX12_init_625 : decode cX12_init 625 = .ok (.iconst 2, 1) := by decide +kernel
theorem dX12_init_626 : decode cX12_init 626 = .ok (.bipush 97, 2) := by decide +kernel
theorem dX12_init_628 : decode cX12_init 628 = .ok (.castore, 1) := by decide +kernel
theorem dX12_init_629 : decode cX12_init 629 = .ok (.dup, 1) := by decide +kernel
theorem dX12_init_630 : decode cX12_init 630 = .ok (.iconst 3, 1) := by decide +kernel
theorem dX12_init_631 : decode cX12_init 631 = .ok (.bipush 115, 2) := by decide +kernel
theorem dX12_init_633 : decode cX12_init 633 = .ok (.castore, 1) := by decide +kernel
theorem dX12_init_634 : decode cX12_init 634 = .ok (.dup, 1) := by decide +kernel
theorem dX12_init_635 : decode cX12_init 635 = .ok (.iconst 4, 1) := by decide +kernel
theorem dX12_init_636 : decode cX12_init 636 = .ok (.bipush 116, 2) := by decide +kernel
theorem dX12_init_638 : decode cX12_init 638 = .ok (.castore, 1) := by decide +kernel
theorem dX12_init_639 : decode cX12_init 639 = .ok (.putfield 129, 3) := by decide +kernel
theorem dX12_init_642 : decode cX12_init 642 = .ok (.aload_n 0, 1) := by decide +kernel
theorem dX12_init_643 : decode cX12_init 643 = .ok (.iconst 3, 1) := by decide +kernel
theorem dX12_init_644 : decode cX12_init 644 = .ok (.newarray .char, 2) := by decide +kernel
theorem dX12_init_646 : decode cX12_init 646 = .ok (.dup, 1) := by decide +kernel
theorem dX12_init_647 : decode cX12_init 647 = .ok (.iconst 0, 1) := by decide +kernel
theorem dX12_init_648 : decode cX12_init 648 = .ok (.bipush 110, 2) := by decide +kernel
theorem dX12_init_650 : decode cX12_init 650 = .ok (.castore, 1) := by decide +kernel
theorem dX12_init_651 : decode cX12_init 651 = .ok (.dup, 1) := by decide +kernel
theorem dX12_init_652 : decode cX12_init 652 = .ok (.iconst 1, 1) := by decide +kernel
theorem dX12_init_653 : decode cX12_init 653 = .ok (.bipush 111, 2) := by decide +kernel
theorem dX12_init_655 : decode cX12_init 655 = .ok (.castore, 1) := by decide +kernel
theorem dX12_init_656 : decode cX12_init 656 = .ok (.dup, 1) := by decide +kernel
theorem dX12_init_657 : decode cX12_init 657 = .ok (.iconst 2, 1) := by decide +kernel
theorem dX12_init_658 : decode cX12_init 658 = .ok (.bipush 116, 2) := by decide +kernel
theorem dX12_init_660 : decode cX12_init 660 = .ok (.castore, 1) := by decide +kernel
theorem dX12_init_661 : decode cX12_init 661 = .ok (.putfield 132, 3) := by decide +kernel
theorem dX12_init_664 : decode cX12_init 664 = .ok (.aload_n 0, 1) := by decide +kernel
theorem dX12_init_665 : decode cX12_init 665 = .ok (.iconst 3, 1) := by decide +kernel
theorem dX12_init_666 : decode cX12_init 666 = .ok (.newarray .char, 2) := by decide +kernel
theorem dX12_init_668 : decode cX12_init 668 = .ok (.dup, 1) := by decide +kernel
theorem dX12_init_669 : decode cX12_init 669 = .ok (.iconst 0, 1) := by decide +kernel
theorem dX12_init_670 : decode cX12_init 670 = .ok (.bipush 97, 2) := by decide +kernel
theorem dX12_init_672 : decode cX12_init 672 = .ok (.castore, 1) := by decide +kernel
theorem dX12_init_673 : decode cX12_init 673 = .ok (.dup, 1) := by decide +kernel
theorem dX12_init_674 : decode cX12_init 674 = .ok (.iconst 1, 1) := by decide +kernel
theorem dX12_init_675 : decode cX12_init 675 = .ok (.bipush 110, 2) := by decide +kernel
theorem dX12_init_677 : decode cX12_init 677 = .ok (.castore, 1) := by decide +kernel
theorem dX12_init_678 : decode cX12_init 678 = .ok (.dup, 1) := by decide +kernel
theorem dX12_init_679 : decode cX12_init 679 = .ok (.iconst 2, 1) := by decide +kernel
theorem dX12_init_680 : decode cX12_init 680 = .ok (.bipush 100, 2) := by decide +kernel
theorem dX12_init_682 : decode cX12_init 682 = .ok (.castore, 1) := by decide +kernel
theorem dX12_init_683 : decode cX12_init 683 = .ok (.putfield 135, 3) := by decide +kernel
theorem dX12_init_686 : decode cX12_init 686 = .ok (.aload_n 0, 1) := by decide +kernel
theorem dX12_init_687 : decode cX12_init 687 = .ok (.iconst 2, 1) := by decide +kernel
theorem dX12_init_688 : decode cX12_init 688 = .ok (.newarray .char, 2) := by decide +kernel
theorem dX12_init_690 : decode cX12_init 690 = .ok (.dup, 1) := by decide +kernel
theorem dX12_init_691 : decode cX12_init 691 = .ok (.iconst 0, 1) := by decide +kernel
theorem dX12_init_692 : decode cX12_init 692 = .ok (.bipush 111, 2) := by decide +kernel
theorem dX12_init_694 : decode cX12_init 694 = .ok (.castore, 1) := by decide +kernel
theorem dX12_init_695 : decode cX12_init 695 = .ok (.dup, 1) := by decide +kernel
theorem dX12_init_696 : decode cX12_init 696 = .ok (.iconst 1, 1) := by decide +kernel
theorem dX12_init_697 : decode cX12_init 697 = .ok (.bipush 114, 2) := by decide +kernel
theorem dX12_init_699 : decode cX12_init 699 = .ok (.castore, 1) := by decide +kernel
theorem dX12_init_700 : decode cX12_init 700 = .ok (.putfield 138, 3) := by decide +kernel
theorem dX12_init_703 : decode cX12_init 703 = .ok (.aload_n 0, 1) := by decide +kernel
theorem dX12_init_704 : decode cX12_init 704 = .ok (.iconst 3, 1) := by decide +kernel
theorem dX12_init_705 : decode cX12_init 705 = .ok (.newarray .char, 2) := by decide +kernel
theorem dX12_init_707 : decode cX12_init 707 = .ok (.dup, 1) := by decide +kernel
theorem dX12_init_708 : decode cX12_init 708 = .ok (.iconst 0, 1) := by decide +kernel
theorem dX12_init_709 : decode cX12_init 709 = .ok (.bipush 97, 2) := by decide +kernel
theorem dX12_init_711 : decode cX12_init 711 = .ok (.castore, 1) := by decide +kernel
theorem dX12_init_712 : decode cX12_init 712 = .ok (.dup, 1) := by decide +kernel
theorem dX12_init_713 : decode cX12_init 713 = .ok (.iconst 1, 1) := by decide +kernel
theorem dX12_init_714 : decode cX12_init 714 = .ok (.bipush 108, 2) := by decide +kernel
theorem dX12_init_716 : decode cX12_init 716 = .ok (.castore, 1) := by decide +kernel
theorem dX12_init_717 : decode cX12_init 717 = .ok (.dup, 1) := by decide +kernel
theorem dX12_init_718 : decode cX12_init 718 = .ok (.iconst 2, 1) := by decide +kernel
theorem dX12_init_719 : decode cX12_init 719 = .ok (.bipush 108, 2) := by decide +kernel
theorem dX12_init_721 : decode cX12_init 721 = .ok (.castore, 1) := by decide +kernel
theorem dX12_init_722 : decode cX12_init 722 = .ok (.putfield 141, 3) := by decide +kernel
theorem dX12_init_725 : decode cX12_init 725 = .ok (.aload_n 0, 1) := by decide +kernel
theorem dX12_init_726 : decode cX12_init 726 = .ok (.iconst 3, 1) := by decide +kernel
theorem dX12_init_727 : decode cX12_init 727 = .ok (.newarray .char, 2) := by decide +kernel
theorem dX12_init_729 : decode cX12_init 729 = .ok (.dup, 1) := by decide +kernel
theorem dX12_init_730 : decode cX12_init 730 = .ok (.iconst 0, 1) := by decide +kernel
theorem dX12_init_731 : decode cX12_init 731 = .ok (.bipush 109, 2) := by decide +kernel
theorem dX12_init_733 : decode cX12_init 733 = .ok (.castore, 1) := by decide +kernel
theorem dX12_init_734 : decode cX12_init 734 = .ok (.dup, 1) := by decide +kernel
theorem dX12_init_735 : decode cX12_init 735 = .ok (.iconst 1, 1) := by decide +kernel
theorem dX12_init_736 : decode cX12_init 736 = .ok (.bipush 105, 2) := by decide +kernel
theorem dX12_init_738 : decode cX12_init 738 = .ok (.castore, 1) := by decide +kernel
theorem dX12_init_739 : decode cX12_init 739 = .ok (.dup, 1) := by decide +kernel
theorem dX12_init_740 : decode cX12_init 740 = .ok (.iconst 2, 1) := by decide +kernel
theorem dX12_init_741 : decode cX12_init 741 = .ok (.bipush 110, 2) := by decide +kernel
theorem dX12_init_743 : decode cX12_init 743 = .ok (.castore, 1) := by decide +kernel
theorem dX12_init_744 : decode cX12_init 744 = .ok (.putfield 144, 3) := by decide +kernel
theorem dX12_init_747 : decode cX12_init 747 = .ok (.aload_n 0, 1) := by decide +kernel
theorem dX12_init_748 : decode cX12_init 748 = .ok (.iconst 3, 1) := by decide +kernel
theorem dX12_init_749 : decode cX12_init 749 = .ok (.newarray .char, 2) := by decide +kernel
theorem dX12_init_751 : decode cX12_init 751 = .ok (.dup, 1) := by decide +kernel
theorem dX12_init_752 : decode cX12_init 752 = .ok (.iconst 0, 1) := by decide +kernel
theorem dX12_init_753 : decode cX12_init 753 = .ok (.bipush 109, 2) := by decide +kernel
theorem dX12_init_755 : decode cX12_init 755 = .ok (.castore, 1) := by decide +kernel
theorem dX12_init_756 : decode cX12_init 756 = .ok (.dup, 1) := by decide +kernel
theorem dX12_init_757 : decode cX12_init 757 = .ok (.iconst 1, 1) := by decide +kernel
theorem dX12_init_758 : decode cX12_init 758 = .ok (.bipush 97, 2) := by decide +kernel
theorem dX12_init_760 : decode cX12_init 760 = .ok (.castore, 1) := by decide +kernel
theorem dX12_init_761 : decode cX12_init 761 = .ok (.dup, 1) := by decide +kernel
theorem dX12_init_762 : decode cX12_init 762 = .ok (.iconst 2, 1) := by decide +kernel
theorem dX12_init_763 : decode cX12_init 763 = .ok (.bipush 120, 2) := by decide +kernel
theorem dX12_init_765 : decode cX12_init 765 = .ok (.castore, 1) := by decide +kernel
theorem dX12_init_766 : decode cX12_init 766 = .ok (.putfield 147, 3) := by decide +kernel
theorem dX12_init_769 : decode cX12_init 769 = .ok (.aload_n 0, 1) := by decide +kernel
theorem dX12_init_770 : decode cX12_init 770 = .ok (.iconst 4, 1) := by decide +kernel
theorem dX12_init_771 : decode cX12_init 771 = .ok (.newarray .char, 2) := by decide +kernel
theorem dX12_init_773 : decode cX12_init 773 = .ok (.dup, 1) := by decide +kernel
theorem dX12_init_774 : decode cX12_init 774 = .ok (.iconst 0, 1) := by decide +kernel
theorem dX12_init_775 : decode cX12_init 775 = .ok (.bipush 109, 2) := by decide +kernel
theorem dX12_init_777 : decode cX12_init 777 = .ok (.castore, 1) := by decide +kernel
theorem dX12_init_778 : decode cX12_init 778 = .ok (.dup, 1) := by decide +kernel
theorem dX12_init_779 : decode cX12_init 779 = .ok (.iconst 1, 1) := by decide +kernel
theorem dX12_init_780 : decode cX12_init 780 = .ok (.bipush 111, 2) := by decide +kernel
theorem dX12_init_782 : decode cX12_init 782 = .ok (.castore, 1) := by decide +kernel
theorem dX12_init_783 : decode cX12_init 783 = .ok (.dup, 1) := by decide +kernel
theorem dX12_init_784 : decode cX12_init 784 = .ok (.iconst 2, 1) := by decide +kernel
theorem dX12_init_785 : decode cX12_init 785 = .ok (.bipush 111, 2) := by decide +kernel
theorem dX12_init_787 : decode cX12_init 787 = .ok (.castore, 1) := by decide +kernel
theorem dX12_init_788 : decode cX12_init 788 = .ok (.dup, 1) := by decide +kernel
theorem dX12_init_789 : decode cX12_init 789 = .ok (.iconst 3, 1) := by decide +kernel
theorem dX12_init_790 : decode cX12_init 790 = .ok (.bipush 100, 2) := by decide +kernel
theorem dX12_init_792 : decode cX12_init 792 = .ok (.castore, 1) := by decide +kernel
theorem dX12_init_793 : decode cX12_init 793 = .ok (.putfield 150, 3) := by decide +kernel
theorem dX12_init_796 : decode cX12_init 796 = .ok (.aload_n 0, 1) := by decide +kernel
theorem dX12_init_797 : decode cX12_init 797 = .ok (.iconst 5, 1) := by decide +kernel
theorem dX12_init_798 : decode cX12_init 798 = .ok (.newarray .char, 2) := by decide +kernel
theorem dX12_init_800 : decode cX12_init 800 = .ok (.dup, 1) := by decide +kernel
theorem dX12_init_801 : decode cX12_init 801 = .ok (.iconst 0, 1) := by decide +kernel
theorem dX12_init_802 : decode cX12_init 802 = .ok (.bipush 98, 2) := by decide +kernel
theorem dX12_init_804 : decode cX12_init 804 = .ok (.castore, 1) := by decide +kernel
theorem dX12_init_805 : decode cX12_init 805 = .ok (.dup, 1) := by decide +kernel
theorem dX12_init_806 : decode cX12_init 806 = .ok (.iconst 1, 1) := by decide +kernel
theorem dX12_init_807 : decode cX12_init 807 = .ok (.bipush 97, 2) := by decide +kernel
theorem dX12_init_809 : decode cX12_init 809 = .ok (.castore, 1) := by decide +kernel
theorem dX12_init_810 : decode cX12_init 810 = .ok (.dup, 1) := by decide +kernel
theorem dX12_init_811 : decode cX12_init 811 = .ok (.iconst 2, 1) := by decide +kernel
theorem dX12_init_812 : decode cX12_init 812 = .ok (.bipush 114, 2) := by decide +kernel
theorem dX12_init_814 : decode cX12_init 814 = .ok (.castore, 1) := by decide +kernel
theorem dX12_init_815 : decode cX12_init 815 = .ok (.dup, 1) := by decide +kernel
theorem dX12_init_816 : decode cX12_init 816 = .ok (.iconst 3, 1) := by decide +kernel
theorem dX12_init_817 : decode cX12_init 817 = .ok (.bipush 103, 2) := by decide +kernel
theorem dX12_init_819 : decode cX12_init 819 = .ok (.castore, 1) := by decide +kernel
theorem dX12_init_820 : decode cX12_init 820 = .ok (.dup, 1) := by decide +kernel
theorem dX12_init_821 : decode cX12_init 821 = .ok (.iconst 4, 1) := by decide +kernel
theorem dX12_init_822 : decode cX12_init 822 = .ok (.bipush 101, 2) := by decide +kernel
theorem dX12_init_824 : decode cX12_init 824 = .ok (.castore, 1) := by decide +kernel
theorem dX12_init_825 : decode cX12_init 825 = .ok (.putfield 153, 3) := by decide +kernel
theorem dX12_init_828 : decode cX12_init 828 = .ok (.aload_n 0, 1) := by decide +kernel
theorem dX12_init_829 : decode cX12_init 829 = .ok (.iconst 3, 1) := by decide +kernel
theorem dX12_init_830 : decode cX12_init 830 = .ok (.newarray .char, 2) := by decide +kernel
theorem dX12_init_832 : decode cX12_init 832 = .ok (.dup, 1) := by decide +kernel
theorem dX12_init_833 : decode cX12_init 833 = .ok (.iconst 0, 1) := by decide +kernel
theorem dX12_init_834 : decode cX12_init 834 = .ok (.bipush 119, 2) := by decide +kernel
theorem dX12_init_836 : decode cX12_init 836 = .ok (.castore, 1) := by decide +kernel
theorem dX12_init_837 : decode cX12_init 837 = .ok (.dup, 1) := by decide +kernel
theorem dX12_init_838 : decode cX12_init 838 = .ok (.iconst 1, 1) := by decide +kernel
theorem dX12_init_839 : decode cX12_init 839 = .ok (.bipush 101, 2) := by decide +kernel
theorem dX12_init_841 : decode cX12_init 841 = .ok (.castore, 1) := by decide +kernel
theorem dX12_init_842 : decode cX12_init 842 = .ok (.dup, 1) := by decide +kernel
theorem dX12_init_843 : decode cX12_init 843 = .ok (.iconst 2, 1) := by decide +kernel
theorem dX12_init_844 : decode cX12_init 844 = .ok (.bipush 116, 2) := by decide +kernel
theorem dX12_init_846 : decode cX12_init 846 = .ok (.castore, 1) := by decide +kernel
theorem dX12_init_847 : decode cX12_init 847 = .ok (.putfield 156, 3) := by decide +kernel
theorem dX12_init_850 : decode cX12_init 850 = .ok (.aload_n 0, 1) := by decide +kernel
theorem dX12_init_851 : decode cX12_init 851 = .ok (.iconst 3, 1) := by decide +kernel
theorem dX12_init_852 : decode cX12_init 852 = .ok (.newarray .char, 2) := by decide +kernel
theorem dX12_init_854 : decode cX12_init 854 = .ok (.dup, 1) := by decide +kernel
theorem dX12_init_855 : decode cX12_init 855 = .ok (.iconst 0, 1) := by decide +kernel
theorem dX12_init_856 : decode cX12_init 856 = .ok (.bipush 100, 2) := by decide +kernel
theorem dX12_init_858 : decode cX12_init 858 = .ok (.castore, 1) := by decide +kernel
theorem dX12_init_859 : decode cX12_init 859 = .ok (.dup, 1) := by decide +kernel
theorem dX12_init_860 : decode cX12_init 860 = .ok (.iconst 1, 1) := by decide +kernel
theorem dX12_init_861 : decode cX12_init 861 = .ok (.bipush 97, 2) := by decide +kernel
theorem dX12_init_863 : decode cX12_init 863 = .ok (.castore, 1) := by decide +kernel
theorem dX12_init_864 : decode cX12_init 864 = .ok (.dup, 1) := by decide +kernel
theorem dX12_init_865 : decode cX12_init 865 = .ok (.iconst 2, 1) := by decide +kernel
theorem dX12_init_866 : decode cX12_init 866 = .ok (.bipush 121, 2) := by decide +kernel
theorem dX12_init_868 : decode cX12_init 868 = .ok (.castore, 1) := by decide +kernel
theorem dX12_init_869 : decode cX12_init 869 = .ok (.putfield 159, 3) := by decide +kernel
theorem dX12_init_872 : decode cX12_init 872 = .ok (.aload_n 0, 1) := by decide +kernel
theorem dX12_init_873 : decode cX12_init 873 = .ok (.iconst 4, 1) := by decide +kernel
theorem dX12_init_874 : decode cX12_init 874 = .ok (.newarray .char, 2) := by decide +kernel
theorem dX12_init_876 : decode cX12_init 876 = .ok (.dup, 1) := by decide +kernel
theorem dX12_init_877 : decode cX12_init 877 = .ok (.iconst 0, 1) := by decide +kernel
theorem dX12_init_878 : decode cX12_init 878 = .ok (.bipush 119, 2) := by decide +kernel
theorem dX12_init_880 : decode cX12_init 880 = .ok (.castore, 1) := by decide +kernel
theorem dX12_init_881 : decode cX12_init 881 = .ok (.dup, 1) := by decide +kernel
theorem dX12_init_882 : decode cX12_init 882 = .ok (.iconst 1, 1) := by decide +kernel
theorem dX12_init_883 : decode cX12_init 883 = .ok (.bipush 101, 2) := by decide +kernel
theorem dX12_init_885 : decode cX12_init 885 = .ok (.castore, 1) := by decide +kernel
theorem dX12_init_886 : decode cX12_init 886 = .ok (.dup, 1) := by decide +kernel
theorem dX12_init_887 : decode cX12_init 887 = .ok (.iconst 2, 1) := by decide +kernel
theorem dX12_init_888 : decode cX12_init 888 = .ok (.bipush 101, 2) := by decide +kernel
theorem dX12_init_890 : decode cX12_init 890 = .ok (.castore, 1) := by decide +kernel
theorem dX12_init_891 : decode cX12_init 891 = .ok (.dup, 1) := by decide +kernel
theorem dX12_init_892 : decode cX12_init 892 = .ok (.iconst 3, 1) := by decide +kernel
theorem dX12_init_893 : decode cX12_init 893 = .ok (.bipush 107, 2) := by decide +kernel
theorem dX12_init_895 : decode cX12_init 895 = .ok (.castore, 1) := by decide +kernel
theorem dX12_init_896 : decode cX12_init 896 = .ok (.putfield 162, 3) := by decide +kernel
theorem dX12_init_899 : decode cX12_init 899 = .ok (.aload_n 0, 1) := by decide +kernel
theorem dX12_init_900 : decode cX12_init 900 = .ok (.iconst 4, 1) := by decide +kernel
theorem dX12_init_901 : decode cX12_init 901 = .ok (.newarray .char, 2) := by decide +kernel
theorem dX12_init_903 : decode cX12_init 903 = .ok (.dup, 1) := by decide +kernel
theorem dX12_init_904 : decode cX12_init 904 = .ok (.iconst 0, 1) := by decide +kernel
theorem dX12_init_905 : decode cX12_init 905 = .ok (.bipush 116, 2) := by decide +kernel
theorem dX12_init_907 : decode cX12_init 907 = .ok (.castore, 1) := by decide +kernel
theorem dX12_init_908 : decode cX12_init 908 = .ok (.dup, 1) := by decide +kernel
theorem dX12_init_909 : decode cX12_init 909 = .ok (.iconst 1, 1) := by decide +kernel
theorem dX12_init_910 : decode cX12_init 910 = .ok (.bipush 111, 2) := by decide +kernel
theorem dX12_init_912 : decode cX12_init 912 = .ok (.castore, 1) := by decide +kernel
theorem dX12_init_913 : decode cX12_init 913 = .ok (.dup, 1) := by decide +kernel
theorem dX12_init_914 : decode cX12_init 914 = .ok (.iconst 2, 1) := by decide +kernel
theorem dX12_init_915 : decode cX12_init 915 = .ok (.bipush 108, 2) := by decide +kernel
theorem dX12_init_917 : decode cX12_init 917 = .ok (.castore, 1) := by decide +kernel
theorem dX12_init_918 : decode cX12_init 918 = .ok (.dup, 1) := by decide +kernel
theorem dX12_init_919 : decode cX12_init 919 = .ok (.iconst 3, 1) := by decide +kernel
theorem dX12_init_920 : decode cX12_init 920 = .ok (.bipush 100, 2) := by decide +kernel
theorem dX12_init_922 : decode cX12_init 922 = .ok (.castore, 1) := by decide +kernel
theorem dX12_init_923 : decode cX12_init 923 = .ok (.putfield 165, 3) := by decide +kernel
theorem dX12_init_926 : decode cX12_init 926 = .ok (.aload_n 0, 1) := by decide +kernel
theorem dX12_init_927 : decode cX12_init 927 = .ok (.iconst 5, 1) := by decide +kernel
theorem dX12_init_928 : decode cX12_init 928 = .ok (.newarray .char, 2) := by decide +kernel
theorem dX12_init_930 : decode cX12_init 930 = .ok (.dup, 1) := by decide +kernel
theorem dX12_init_931 : decode cX12_init 931 = .ok (.iconst 0, 1) := by decide +kernel
theorem dX12_init_932 : decode cX12_init 932 = .ok (.bipush 97, 2) := by decide +kernel
theorem dX12_init_934 : decode cX12_init 934 = .ok (.castore, 1) := by decide +kernel
theorem dX12_init_935 : decode cX12_init 935 = .ok (.dup, 1) := by decide +kernel
theorem dX12_init_936 : decode cX12_init 936 = .ok (.iconst 1, 1) := by decide +kernel
theorem dX12_init_937 : decode cX12_init 937 = .ok (.bipush 108, 2) := by decide +kernel
theorem dX12_init_939 : decode cX12_init 939 = .ok (.castore, 1) := by decide +kernel
theorem dX12_init_940 : decode cX12_init 940 = .ok (.dup, 1) := by decide +kernel
theorem dX12_init_941 : decode cX12_init 941 = .ok (.iconst 2, 1) := by decide +kernel
theorem dX12_init_942 : decode cX12_init 942 = .ok (.bipush 111, 2) := by decide +kernel
theorem dX12_init_944 : decode cX12_init 944 = .ok (.castore, 1) := by decide +kernel
theorem dX12_init_945 : decode cX12_init 945 = .ok (.dup, 1) := by decide +kernel
theorem dX12_init_946 : decode cX12_init 946 = .ok (.iconst 3, 1) := by decide +kernel
theorem dX12_init_947 : decode cX12_init 947 = .ok (.bipush 110, 2) := by decide +kernel
theorem dX12_init_949 : decode cX12_init 949 = .ok (.castore, 1) := by decide +kernel
theorem dX12_init_950 : decode cX12_init 950 = .ok (.dup, 1) := by decide +kernel
theorem dX12_init_951 : decode cX12_init 951 = .ok (.iconst 4, 1) := by decide +kernel
theorem dX12_init_952 : decode cX12_init 952 = .ok (.bipush 101, 2) := by decide +kernel
theorem dX12_init_954 : decode cX12_init 954 = .ok (.castore, 1) := by decide +kernel
theorem dX12_init_955 : decode cX12_init 955 = .ok (.putfield 168, 3) := by decide +kernel
theorem dX12_init_958 : decode cX12_init 958 = .ok (.aload_n 0, 1) := by decide +kernel
theorem dX12_init_959 : decode cX12_init 959 = .ok (.bipush 6, 2) := by decide +kernel
theorem dX12_init_961 : decode cX12_init 961 = .ok (.newarray .char, 2) := by decide +kernel
theorem dX12_init_963 : decode cX12_init 963 = .ok (.dup, 1) := by decide +kernel
theorem dX12_init_964 : decode cX12_init 964 = .ok (.iconst 0, 1) := by decide +kernel
theorem dX12_init_965 : decode cX12_init 965 = .ok (.bipush 110, 2) := by decide +kernel
theorem dX12_init_967 : decode cX12_init 967 = .ok (.castore, 1) := by decide +kernel
theorem dX12_init_968 : decode cX12_init 968 = .ok (.dup, 1) := by decide +kernel
theorem dX12_init_969 : decode cX12_init 969 = .ok (.iconst 1, 1) := by decide +kernel
theorem dX12_init_970 : decode cX12_init 970 = .ok (.bipush 117, 2) := by decide +kernel
theorem dX12_init_972 : decode cX12_init 972 = .ok (.castore, 1) := by decide +kernel
theorem dX12_init_973 : decode cX12_init 973 = .ok (.dup, 1) := by decide +kernel
theorem dX12_init_974 : decode cX12_init 974 = .ok (.iconst 2, 1) := by decide +kernel
theorem dX12_init_975 : decode cX12_init 975 = .ok (.bipush 109, 2) := by decide +kernel
theorem dX12_init_977 : decode cX12_init 977 = .ok (.castore, 1) := by decide +kernel
theorem dX12_init_978 : decode cX12_init 978 = .ok (.dup, 1) := by decide +kernel
theorem dX12_init_979 : decode cX12_init 979 = .ok (.iconst 3, 1) := by decide +kernel
theorem dX12_init_980 : decode cX12_init 980 = .ok (.bipush 98, 2) := by decide +kernel
theorem dX12_init_982 : decode cX12_init 982 = .ok (.castore, 1) := by decide +kernel
theorem dX12_init_983 : decode cX12_init 983 = .ok (.dup, 1) := by decide +kernel
theorem dX12_init_984 : decode cX12_init 984 = .ok (.iconst 4, 1) := by decide +kernel
theorem dX12_init_985 : decode cX12_init 985 = .ok (.bipush 101, 2) := by decide +kernel
theorem dX12_init_987 : decode cX12_init 987 = .ok (.castore, 1) := by decide +kernel
theorem dX12_init_988 : decode cX12_init 988 = .ok (.dup, 1) := by decide +kernel
theorem dX12_init_989 : decode cX12_init 989 = .ok (.iconst 5, 1) := by decide +kernel
theorem dX12_init_990 : decode cX12_init 990 = .ok (.bipush 114, 2) := by decide +kernel
theorem dX12_init_992 : decode cX12_init 992 = .ok (.castore, 1) := by decide +kernel
theorem dX12_init_993 : decode cX12_init 993 = .ok (.putfield 171, 3) := by decide +kernel
theorem dX12_init_996 : decode cX12_init 996 = .ok (.aload_n 0, 1) := by decide +kernel
theorem dX12_init_997 : decode cX12_init 997 = .ok (.iconst 4, 1) := by decide +kernel
theorem dX12_init_998 : decode cX12_init 998 = .ok (.newarray .char, 2) := by decide +kernel
theorem dX12_init_1000 : decode cX12_init 1000 = .ok (.dup, 1) := by decide +kernel
theorem dX12_init_1001 : decode cX12_init 1001 = .ok (.iconst 0, 1) := by decide +kernel
theorem dX12_init_1002 : decode cX12_init 1002 = .ok (.bipush 109, 2) := by decide +kernel
theorem dX12_init_1004 : decode cX12_init 1004 = .ok (.castore, 1) := by decide +kernel
theorem dX12_init_1005 : decode cX12_init 1005 = .ok (.dup, 1) := by decide +kernel
theorem dX12_init_1006 : decode cX12_init 1006 = .ok (.iconst 1, 1) := by decide +kernel
theorem dX12_init_1007 : decode cX12_init 1007 = .ok (.bipush 117, 2) := by decide +kernel
theorem dX12_init_1009 : decode cX12_init 1009 = .ok (.castore, 1) := by decide +kernel
theorem dX12_init_1010 : decode cX12_init 1010 = .ok (.dup, 1) := by decide +kernel
theorem dX12_init_1011 : decode cX12_init 1011 = .ok (.iconst 2, 1) := by decide +kernel
theorem dX12_init_1012 : decode cX12_init 1012 = .ok (.bipush 116, 2) := by decide +kernel
theorem dX12_init_1014 : decode cX12_init 1014 = .ok (.castore, 1) := by decide +kernel
theorem dX12_init_1015 : decode cX12_init 1015 = .ok (.dup, 1) := by decide +kernel
theorem dX12_init_1016 : decode cX12_init 1016 = .ok (.iconst 3, 1) := by decide +kernel
theorem dX12_init_1017 : decode cX12_init 1017 = .ok (.bipush 101, 2) := by decide +kernel
theorem dX12_init_1019 : decode cX12_init 1019 = .ok (.castore, 1) := by decide +kernel
theorem dX12_init_1020 : decode cX12_init 1020 = .ok (.putfield 174, 3) := by decide +kernel
theorem dX12_init_1023 : decode cX12_init 1023 = .ok (.aload_n 0, 1) := by decide +kernel
theorem dX12_init_1024 : decode cX12_init 1024 = .ok (.iconst 5, 1) := by decide +kernel
theorem dX12_init_1025 : decode cX12_init 1025 = .ok (.newarray .char, 2) := by decide +kernel
theorem dX12_init_1027 : decode cX12_init 1027 = .ok (.dup, 1) := by decide +kernel
theorem dX12_init_1028 : decode cX12_init 1028 = .ok (.iconst 0, 1) := by decide +kernel
theorem dX12_init_1029 : decode cX12_init 1029 = .ok (.bipush 119, 2) := by decide +kernel
theorem dX12_init_1031 : decode cX12_init 1031 = .ok (.castore, 1) := by decide +kernel
theorem dX12_init_1032 : decode cX12_init 1032 = .ok (.dup, 1) := by decide +kernel
theorem dX12_init_1033 : decode cX12_init 1033 = .ok (.iconst 1, 1) := by decide +kernel
theorem dX12_init_1034 : decode cX12_init 1034 = .ok (.bipush 101, 2) := by decide +kernel
theorem dX12_init_1036 : decode cX12_init 1036 = .ok (.castore, 1) := by decide +kernel
theorem dX12_init_1037 : decode cX12_init 1037 = .ok (.dup, 1) := by decide +kernel
theorem dX12_init_1038 : decode cX12_init 1038 = .ok (.iconst 2, 1) := by decide +kernel
theorem dX12_init_1039 : decode cX12_init 1039 = .ok (.bipush 101, 2) := by decide +kernel
theorem dX12_init_1041 : decode cX12_init 1041 = .ok (.castore, 1) := by decide +kernel
theorem dX12_init_1042 : decode cX12_init 1042 = .ok (.dup, 1) := by decide +kernel
theorem dX12_init_1043 : decode cX12_init 1043 = .ok (.iconst 3, 1) := by decide +kernel
theorem dX12_init_1044 : decode cX12_init 1044 = .ok (.bipush 107, 2) := by decide +kernel
theorem dX12_init_1046 : decode cX12_init 1046 = .ok (.castore, 1) := by decide +kernel
theorem dX12_init_1047 : decode cX12_init 1047 = .ok (.dup, 1) := by decide +kernel
theorem dX12_init_1048 : decode cX12_init 1048 = .ok (.iconst 4, 1) := by decide +kernel
theorem dX12_init_1049 : decode cX12_init 1049 = .ok (.bipush 115, 2) := by decide +kernel
theorem dX12_init_1051 : decode cX12_init 1051 = .ok (.castore, 1) := by decide +kernel
theorem dX12_init_1052 : decode cX12_init 1052 = .ok (.putfield 177, 3) := by decide +kernel
theorem dX12_init_1055 : decode cX12_init 1055 = .ok (.aload_n 0, 1) := by decide +kernel
theorem dX12_init_1056 : decode cX12_init 1056 = .ok (.sipush 1700, 3) := by decide +kernel
theorem dX12_init_1059 : decode cX12_init 1059 = .ok (.newarray .int, 2) := by decide +kernel
theorem dX12_init_1061 : decode cX12_init 1061 = .ok (.putfield 180, 3) := by decide +kernel
theorem dX12_init_1064 : decode cX12_init 1064 = .ok (.aload_n 0, 1) := by decide +kernel
theorem dX12_init_1065 : decode cX12_init 1065 = .ok (.sipush 1700, 3) := by decide +kernel
theorem dX12_init_1068 : decode cX12_init 1068 = .ok (.newarray .int, 2) := by decide +kernel
theorem dX12_init_1070 : decode cX12_init 1070 = .ok (.putfield 183, 3) := by decide +kernel
theorem dX12_init_1073 : decode cX12_init 1073 = .ok (.aload_n 0, 1) := by decide +kernel
theorem dX12_init_1074 : decode cX12_init 1074 = .ok (.sipush 1700, 3) := by decide +kernel
theorem dX12_init_1077 : decode cX12_init 1077 = .ok (.newarray .long, 2) := by decide +kernel
theorem dX12_init_1079 : decode cX12_init 1079 = .ok (.putfield 186, 3) := by decide +kernel
theorem dX12_init_1082 : decode cX12_init 1082 = .ok (.aload_n 0, 1) := by decide +kernel
theorem dX12_init_1083 : decode cX12_init 1083 = .ok (.bipush 31, 2) := by decide +kernel
theorem dX12_init_1085 : decode cX12_init 1085 = .ok (.newarray .int, 2) := by decide +kernel
theorem dX12_init_1087 : decode cX12_init 1087 = .ok (.putfield 189, 3) := by decide +kernel
theorem dX12_init_1090 : decode cX12_init 1090 = .ok (.return_, 1) := by decide +kernel
theorem w_5_154 : (Cond.methodLink RX12 1 objectInit) ∈ wsL_law := sk_mem (ck_5 _ (List.mem_of_getElem? (i := 154) rfl)) rfl
theorem w_6_192 : (Cond.arrayClass .char) ∈ wsL_law := sk_mem (ck_6 _ (List.mem_of_getElem? (i := 192) rfl)) rfl
theorem w_6_193 : (Cond.arrayClass .boolean) ∈ wsL_law := sk_mem (ck_6 _ (List.mem_of_getElem? (i := 193) rfl)) rfl
theorem w_5_153 : (Cond.code yX12_init cX12_init 1 none) ∈ wsL_law := sk_mem (ck_5 _ (List.mem_of_getElem? (i := 153) rfl)) rfl
