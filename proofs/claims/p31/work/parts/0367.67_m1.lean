theorem dg_X12_init_594_594 : bqL cX12_init 594 [(0, [16, 111]), (2, [85]), (3, [89]), (4, [5]), (5, [16, 115]), (7, [85]), (8, [89]), (9, [6]), (10, [16, 116]), (12, [85]), (13, [181, 0, 126]), (16, [42]), (17, [8]), (18, [188, 5]), (20, [89]), (21, [3]), (22, [16, 108]), (24, [85]), (25, [89]), (26, [4]), (27, [16, 101]), (29, [85]), (30, [89]), (31, [5]), (32, [16, 97]), (34, [85]), (35, [89]), (36, [6]), (37, [16, 115]), (39, [85]), (40, [89]), (41, [7]), (42, [16, 116]), (44, [85]), (45, [181, 0, 129]), (48, [42]), (49, [6]), (50, [188, 5]), (52, [89]), (53, [3])] = true := by decide +kernel
theorem dX12_init_594 : decode cX12_init 594 = .ok (.bipush 111, 2) := q_bipush (bat_get dg_X12_init_594_594 0 rfl rfl) rfl
theorem dX12_init_596 : decode cX12_init 596 = .ok (.castore, 1) := q_castore (bat_get dg_X12_init_594_594 1 rfl rfl)
theorem dX12_init_597 : decode cX12_init 597 = .ok (.dup, 1) := q_dup (bat_get dg_X12_init_594_594 2 rfl rfl)
theorem dX12_init_598 : decode cX12_init 598 = .ok (.iconst 2, 1) := q_iconst2 (bat_get dg_X12_init_594_594 3 rfl rfl)
theorem dX12_init_599 : decode cX12_init 599 = .ok (.bipush 115, 2) := q_bipush (bat_get dg_X12_init_594_594 4 rfl rfl) rfl
theorem dX12_init_601 : decode cX12_init 601 = .ok (.castore, 1) := q_castore (bat_get dg_X12_init_594_594 5 rfl rfl)
theorem dX12_init_602 : decode cX12_init 602 = .ok (.dup, 1) := q_dup (bat_get dg_X12_init_594_594 6 rfl rfl)
theorem dX12_init_603 : decode cX12_init 603 = .ok (.iconst 3, 1) := q_iconst3 (bat_get dg_X12_init_594_594 7 rfl rfl)
theorem dX12_init_604 : decode cX12_init 604 = .ok (.bipush 116, 2) := q_bipush (bat_get dg_X12_init_594_594 8 rfl rfl) rfl
theorem dX12_init_606 : decode cX12_init 606 = .ok (.castore, 1) := q_castore (bat_get dg_X12_init_594_594 9 rfl rfl)
theorem dX12_init_607 : decode cX12_init 607 = .ok (.putfield 126, 3) := q_putfield (bat_get dg_X12_init_594_594 10 rfl rfl) rfl
theorem dX12_init_610 : decode cX12_init 610 = .ok (.aload_n 0, 1) := q_aload_n0 (bat_get dg_X12_init_594_594 11 rfl rfl)
theorem dX12_init_611 : decode cX12_init 611 = .ok (.iconst 5, 1) := q_iconst5 (bat_get dg_X12_init_594_594 12 rfl rfl)
theorem dX12_init_612 : decode cX12_init 612 = .ok (.newarray .char, 2) := q_newarray_char (bat_get dg_X12_init_594_594 13 rfl rfl)
theorem dX12_init_614 : decode cX12_init 614 = .ok (.dup, 1) := q_dup (bat_get dg_X12_init_594_594 14 rfl rfl)
theorem dX12_init_615 : decode cX12_init 615 = .ok (.iconst 0, 1) := q_iconst0 (bat_get dg_X12_init_594_594 15 rfl rfl)
theorem dX12_init_616 : decode cX12_init 616 = .ok (.bipush 108, 2) := q_bipush (bat_get dg_X12_init_594_594 16 rfl rfl) rfl
theorem dX12_init_618 : decode cX12_init 618 = .ok (.castore, 1) := q_castore (bat_get dg_X12_init_594_594 17 rfl rfl)
theorem dX12_init_619 : decode cX12_init 619 = .ok (.dup, 1) := q_dup (bat_get dg_X12_init_594_594 18 rfl rfl)
theorem dX12_init_620 : decode cX12_init 620 = .ok (.iconst 1, 1) := q_iconst1 (bat_get dg_X12_init_594_594 19 rfl rfl)
theorem dX12_init_621 : decode cX12_init 621 = .ok (.bipush 101, 2) := q_bipush (bat_get dg_X12_init_594_594 20 rfl rfl) rfl
theorem dX12_init_623 : decode cX12_init 623 = .ok (.castore, 1) := q_castore (bat_get dg_X12_init_594_594 21 rfl rfl)
theorem dX12_init_624 : decode cX12_init 624 = .ok (.dup, 1) := q_dup (bat_get dg_X12_init_594_594 22 rfl rfl)
theorem dX12_init_625 : decode cX12_init 625 = .ok (.iconst 2, 1) := q_iconst2 (bat_get dg_X12_init_594_594 23 rfl rfl)
theorem dX12_init_626 : decode cX12_init 626 = .ok (.bipush 97, 2) := q_bipush (bat_get dg_X12_init_594_594 24 rfl rfl) rfl
theorem dX12_init_628 : decode cX12_init 628 = .ok (.castore, 1) := q_castore (bat_get dg_X12_init_594_594 25 rfl rfl)
theorem dX12_init_629 : decode cX12_init 629 = .ok (.dup, 1) := q_dup (bat_get dg_X12_init_594_594 26 rfl rfl)
theorem dX12_init_630 : decode cX12_init 630 = .ok (.iconst 3, 1) := q_iconst3 (bat_get dg_X12_init_594_594 27 rfl rfl)
theorem dX12_init_631 : decode cX12_init 631 = .ok (.bipush 115, 2) := q_bipush (bat_get dg_X12_init_594_594 28 rfl rfl) rfl
theorem dX12_init_633 : decode cX12_init 633 = .ok (.castore, 1) := q_castore (bat_get dg_X12_init_594_594 29 rfl rfl)
theorem dX12_init_634 : decode cX12_init 634 = .ok (.dup, 1) := q_dup (bat_get dg_X12_init_594_594 30 rfl rfl)
theorem dX12_init_635 : decode cX12_init 635 = .ok (.iconst 4, 1) := q_iconst4 (bat_get dg_X12_init_594_594 31 rfl rfl)
theorem dX12_init_636 : decode cX12_init 636 = .ok (.bipush 116, 2) := q_bipush (bat_get dg_X12_init_594_594 32 rfl rfl) rfl
theorem dX12_init_638 : decode cX12_init 638 = .ok (.castore, 1) := q_castore (bat_get dg_X12_init_594_594 33 rfl rfl)
theorem dX12_init_639 : decode cX12_init 639 = .ok (.putfield 129, 3) := q_putfield (bat_get dg_X12_init_594_594 34 rfl rfl) rfl
theorem dX12_init_642 : decode cX12_init 642 = .ok (.aload_n 0, 1) := q_aload_n0 (bat_get dg_X12_init_594_594 35 rfl rfl)
theorem dX12_init_643 : decode cX12_init 643 = .ok (.iconst 3, 1) := q_iconst3 (bat_get dg_X12_init_594_594 36 rfl rfl)
theorem dX12_init_644 : decode cX12_init 644 = .ok (.newarray .char, 2) := q_newarray_char (bat_get dg_X12_init_594_594 37 rfl rfl)
theorem dX12_init_646 : decode cX12_init 646 = .ok (.dup, 1) := q_dup (bat_get dg_X12_init_594_594 38 rfl rfl)
theorem dX12_init_647 : decode cX12_init 647 = .ok (.iconst 0, 1) := q_iconst0 (bat_get dg_X12_init_594_594 39 rfl rfl)
theorem dg_X12_init_648_648 : bqL cX12_init 648 [(0, [16, 110]), (2, [85]), (3, [89]), (4, [4]), (5, [16, 111]), (7, [85]), (8, [89]), (9, [5]), (10, [16, 116]), (12, [85]), (13, [181, 0, 132]), (16, [42]), (17, [6]), (18, [188, 5]), (20, [89]), (21, [3]), (22, [16, 97]), (24, [85]), (25, [89]), (26, [4]), (27, [16, 110]), (29, [85]), (30, [89]), (31, [5]), (32, [16, 100]), (34, [85]), (35, [181, 0, 135]), (38, [42]), (39, [5]), (40, [188, 5]), (42, [89]), (43, [3]), (44, [16, 111]), (46, [85]), (47, [89]), (48, [4]), (49, [16, 114]), (51, [85]), (52, [181, 0, 138]), (55, [42])] = true := by decide +kernel
theorem dX12_init_648 : decode cX12_init 648 = .ok (.bipush 110, 2) := q_bipush (bat_get dg_X12_init_648_648 0 rfl rfl) rfl
theorem dX12_init_650 : decode cX12_init 650 = .ok (.castore, 1) := q_castore (bat_get dg_X12_init_648_648 1 rfl rfl)
theorem dX12_init_651 : decode cX12_init 651 = .ok (.dup, 1) := q_dup (bat_get dg_X12_init_648_648 2 rfl rfl)
theorem dX12_init_652 : decode cX12_init 652 = .ok (.iconst 1, 1) := q_iconst1 (bat_get dg_X12_init_648_648 3 rfl rfl)
theorem dX12_init_653 : decode cX12_init 653 = .ok (.bipush 111, 2) := q_bipush (bat_get dg_X12_init_648_648 4 rfl rfl) rfl
theorem dX12_init_655 : decode cX12_init 655 = .ok (.castore, 1) := q_castore (bat_get dg_X12_init_648_648 5 rfl rfl)
theorem dX12_init_656 : decode cX12_init 656 = .ok (.dup, 1) := q_dup (bat_get dg_X12_init_648_648 6 rfl rfl)
theorem dX12_init_657 : decode cX12_init 657 = .ok (.iconst 2, 1) := q_iconst2 (bat_get dg_X12_init_648_648 7 rfl rfl)
theorem dX12_init_658 : decode cX12_init 658 = .ok (.bipush 116, 2) := q_bipush (bat_get dg_X12_init_648_648 8 rfl rfl) rfl
theorem dX12_init_660 : decode cX12_init 660 = .ok (.castore, 1) := q_castore (bat_get dg_X12_init_648_648 9 rfl rfl)
theorem dX12_init_661 : decode cX12_init 661 = .ok (.putfield 132, 3) := q_putfield (bat_get dg_X12_init_648_648 10 rfl rfl) rfl
theorem dX12_init_664 : decode cX12_init 664 = .ok (.aload_n 0, 1) := q_aload_n0 (bat_get dg_X12_init_648_648 11 rfl rfl)
theorem dX12_init_665 : decode cX12_init 665 = .ok (.iconst 3, 1) := q_iconst3 (bat_get dg_X12_init_648_648 12 rfl rfl)
theorem dX12_init_666 : decode cX12_init 666 = .ok (.newarray .char, 2) := q_newarray_char (bat_get dg_X12_init_648_648 13 rfl rfl)
theorem dX12_init_668 : decode cX12_init 668 = .ok (.dup, 1) := q_dup (bat_get dg_X12_init_648_648 14 rfl rfl)
theorem dX12_init_669 : decode cX12_init 669 = .ok (.iconst 0, 1) := q_iconst0 (bat_get dg_X12_init_648_648 15 rfl rfl)
theorem dX12_init_670 : decode cX12_init 670 = .ok (.bipush 97, 2) := q_bipush (bat_get dg_X12_init_648_648 16 rfl rfl) rfl
theorem dX12_init_672 : decode cX12_init 672 = .ok (.castore, 1) := q_castore (bat_get dg_X12_init_648_648 17 rfl rfl)
theorem dX12_init_673 : decode cX12_init 673 = .ok (.dup, 1) := q_dup (bat_get dg_X12_init_648_648 18 rfl rfl)
theorem dX12_init_674 : decode cX12_init 674 = .ok (.iconst 1, 1) := q_iconst1 (bat_get dg_X12_init_648_648 19 rfl rfl)
theorem dX12_init_675 : decode cX12_init 675 = .ok (.bipush 110, 2) := q_bipush (bat_get dg_X12_init_648_648 20 rfl rfl) rfl
theorem dX12_init_677 : decode cX12_init 677 = .ok (.castore, 1) := q_castore (bat_get dg_X12_init_648_648 21 rfl rfl)
theorem dX12_init_678 : decode cX12_init 678 = .ok (.dup, 1) := q_dup (bat_get dg_X12_init_648_648 22 rfl rfl)
theorem dX12_init_679 : decode cX12_init 679 = .ok (.iconst 2, 1) := q_iconst2 (bat_get dg_X12_init_648_648 23 rfl rfl)
theorem dX12_init_680 : decode cX12_init 680 = .ok (.bipush 100, 2) := q_bipush (bat_get dg_X12_init_648_648 24 rfl rfl) rfl
theorem dX12_init_682 : decode cX12_init 682 = .ok (.castore, 1) := q_castore (bat_get dg_X12_init_648_648 25 rfl rfl)
theorem dX12_init_683 : decode cX12_init 683 = .ok (.putfield 135, 3) := q_putfield (bat_get dg_X12_init_648_648 26 rfl rfl) rfl
theorem dX12_init_686 : decode cX12_init 686 = .ok (.aload_n 0, 1) := q_aload_n0 (bat_get dg_X12_init_648_648 27 rfl rfl)
theorem dX12_init_687 : decode cX12_init 687 = .ok (.iconst 2, 1) := q_iconst2 (bat_get dg_X12_init_648_648 28 rfl rfl)
theorem dX12_init_688 : decode cX12_init 688 = .ok (.newarray .char, 2) := q_newarray_char (bat_get dg_X12_init_648_648 29 rfl rfl)
theorem dX12_init_690 : decode cX12_init 690 = .ok (.dup, 1) := q_dup (bat_get dg_X12_init_648_648 30 rfl rfl)
theorem dX12_init_691 : decode cX12_init 691 = .ok (.iconst 0, 1) := q_iconst0 (bat_get dg_X12_init_648_648 31 rfl rfl)
theorem dX12_init_692 : decode cX12_init 692 = .ok (.bipush 111, 2) := q_bipush (bat_get dg_X12_init_648_648 32 rfl rfl) rfl
theorem dX12_init_694 : decode cX12_init 694 = .ok (.castore, 1) := q_castore (bat_get dg_X12_init_648_648 33 rfl rfl)
theorem dX12_init_695 : decode cX12_init 695 = .ok (.dup, 1) := q_dup (bat_get dg_X12_init_648_648 34 rfl rfl)
theorem dX12_init_696 : decode cX12_init 696 = .ok (.iconst 1, 1) := q_iconst1 (bat_get dg_X12_init_648_648 35 rfl rfl)
theorem dX12_init_697 : decode cX12_init 697 = .ok (.bipush 114, 2) := q_bipush (bat_get dg_X12_init_648_648 36 rfl rfl) rfl
theorem dX12_init_699 : decode cX12_init 699 = .ok (.castore, 1) := q_castore (bat_get dg_X12_init_648_648 37 rfl rfl)
theorem dX12_init_700 : decode cX12_init 700 = .ok (.putfield 138, 3) := q_putfield (bat_get dg_X12_init_648_648 38 rfl rfl) rfl
theorem dX12_init_703 : decode cX12_init 703 = .ok (.aload_n 0, 1) := q_aload_n0 (bat_get dg_X12_init_648_648 39 rfl rfl)
theorem dg_X12_init_704_704 : bqL cX12_init 704 [(0, [6]), (1, [188, 5]), (3, [89]), (4, [3]), (5, [16, 97]), (7, [85]), (8, [89]), (9, [4]), (10, [16, 108]), (12, [85]), (13, [89]), (14, [5]), (15, [16, 108]), (17, [85]), (18, [181, 0, 141]), (21, [42]), (22, [6]), (23, [188, 5]), (25, [89]), (26, [3]), (27, [16, 109]), (29, [85]), (30, [89]), (31, [4]), (32, [16, 105]), (34, [85]), (35, [89]), (36, [5]), (37, [16, 110]), (39, [85]), (40, [181, 0, 144]), (43, [42]), (44, [6]), (45, [188, 5]), (47, [89]), (48, [3]), (49, [16, 109]), (51, [85]), (52, [89]), (53, [4])] = true := by decide +kernel
theorem dX12_init_704 : decode cX12_init 704 = .ok (.iconst 3, 1) := q_iconst3 (bat_get dg_X12_init_704_704 0 rfl rfl)
theorem dX12_init_705 : decode cX12_init 705 = .ok (.newarray .char, 2) := q_newarray_char (bat_get dg_X12_init_704_704 1 rfl rfl)
theorem dX12_init_707 : decode cX12_init 707 = .ok (.dup, 1) := q_dup (bat_get dg_X12_init_704_704 2 rfl rfl)
theorem dX12_init_708 : decode cX12_init 708 = .ok (.iconst 0, 1) := q_iconst0 (bat_get dg_X12_init_704_704 3 rfl rfl)
theorem dX12_init_709 : decode cX12_init 709 = .ok (.bipush 97, 2) := q_bipush (bat_get dg_X12_init_704_704 4 rfl rfl) rfl
theorem dX12_init_711 : decode cX12_init 711 = .ok (.castore, 1) := q_castore (bat_get dg_X12_init_704_704 5 rfl rfl)
theorem dX12_init_712 : decode cX12_init 712 = .ok (.dup, 1) := q_dup (bat_get dg_X12_init_704_704 6 rfl rfl)
theorem dX12_init_713 : decode cX12_init 713 = .ok (.iconst 1, 1) := q_iconst1 (bat_get dg_X12_init_704_704 7 rfl rfl)
theorem dX12_init_714 : decode cX12_init 714 = .ok (.bipush 108, 2) := q_bipush (bat_get dg_X12_init_704_704 8 rfl rfl) rfl
theorem dX12_init_716 : decode cX12_init 716 = .ok (.castore, 1) := q_castore (bat_get dg_X12_init_704_704 9 rfl rfl)
theorem dX12_init_717 : decode cX12_init 717 = .ok (.dup, 1) := q_dup (bat_get dg_X12_init_704_704 10 rfl rfl)
theorem dX12_init_718 : decode cX12_init 718 = .ok (.iconst 2, 1) := q_iconst2 (bat_get dg_X12_init_704_704 11 rfl rfl)
theorem dX12_init_719 : decode cX12_init 719 = .ok (.bipush 108, 2) := q_bipush (bat_get dg_X12_init_704_704 12 rfl rfl) rfl
theorem dX12_init_721 : decode cX12_init 721 = .ok (.castore, 1) := q_castore (bat_get dg_X12_init_704_704 13 rfl rfl)
theorem dX12_init_722 : decode cX12_init 722 = .ok (.putfield 141, 3) := q_putfield (bat_get dg_X12_init_704_704 14 rfl rfl) rfl
theorem dX12_init_725 : decode cX12_init 725 = .ok (.aload_n 0, 1) := q_aload_n0 (bat_get dg_X12_init_704_704 15 rfl rfl)
theorem dX12_init_726 : decode cX12_init 726 = .ok (.iconst 3, 1) := q_iconst3 (bat_get dg_X12_init_704_704 16 rfl rfl)
theorem dX12_init_727 : decode cX12_init 727 = .ok (.newarray .char, 2) := q_newarray_char (bat_get dg_X12_init_704_704 17 rfl rfl)
theorem dX12_init_729 : decode cX12_init 729 = .ok (.dup, 1) := q_dup (bat_get dg_X12_init_704_704 18 rfl rfl)
theorem dX12_init_730 : decode cX12_init 730 = .ok (.iconst 0, 1) := q_iconst0 (bat_get dg_X12_init_704_704 19 rfl rfl)
theorem dX12_init_731 : decode cX12_init 731 = .ok (.bipush 109, 2) := q_bipush (bat_get dg_X12_init_704_704 20 rfl rfl) rfl
theorem dX12_init_733 : decode cX12_init 733 = .ok (.castore, 1) := q_castore (bat_get dg_X12_init_704_704 21 rfl rfl)
theorem dX12_init_734 : decode cX12_init 734 = .ok (.dup, 1) := q_dup (bat_get dg_X12_init_704_704 22 rfl rfl)
theorem dX12_init_735 : decode cX12_init 735 = .ok (.iconst 1, 1) := q_iconst1 (bat_get dg_X12_init_704_704 23 rfl rfl)
theorem dX12_init_736 : decode cX12_init 736 = .ok (.bipush 105, 2) := q_bipush (bat_get dg_X12_init_704_704 24 rfl rfl) rfl
theorem dX12_init_738 : decode cX12_init 738 = .ok (.castore, 1) := q_castore (bat_get dg_X12_init_704_704 25 rfl rfl)
theorem dX12_init_739 : decode cX12_init 739 = .ok (.dup, 1) := q_dup (bat_get dg_X12_init_704_704 26 rfl rfl)
theorem dX12_init_740 : decode cX12_init 740 = .ok (.iconst 2, 1) := q_iconst2 (bat_get dg_X12_init_704_704 27 rfl rfl)
theorem dX12_init_741 : decode cX12_init 741 = .ok (.bipush 110, 2) := q_bipush (bat_get dg_X12_init_704_704 28 rfl rfl) rfl
theorem dX12_init_743 : decode cX12_init 743 = .ok (.castore, 1) := q_castore (bat_get dg_X12_init_704_704 29 rfl rfl)
theorem dX12_init_744 : decode cX12_init 744 = .ok (.putfield 144, 3) := q_putfield (bat_get dg_X12_init_704_704 30 rfl rfl) rfl
theorem dX12_init_747 : decode cX12_init 747 = .ok (.aload_n 0, 1) := q_aload_n0 (bat_get dg_X12_init_704_704 31 rfl rfl)
theorem dX12_init_748 : decode cX12_init 748 = .ok (.iconst 3, 1) := q_iconst3 (bat_get dg_X12_init_704_704 32 rfl rfl)
theorem dX12_init_749 : decode cX12_init 749 = .ok (.newarray .char, 2) := q_newarray_char (bat_get dg_X12_init_704_704 33 rfl rfl)
theorem dX12_init_751 : decode cX12_init 751 = .ok (.dup, 1) := q_dup (bat_get dg_X12_init_704_704 34 rfl rfl)
theorem dX12_init_752 : decode cX12_init 752 = .ok (.iconst 0, 1) := q_iconst0 (bat_get dg_X12_init_704_704 35 rfl rfl)
theorem dX12_init_753 : decode cX12_init 753 = .ok (.bipush 109, 2) := q_bipush (bat_get dg_X12_init_704_704 36 rfl rfl) rfl
theorem dX12_init_755 : decode cX12_init 755 = .ok (.castore, 1) := q_castore (bat_get dg_X12_init_704_704 37 rfl rfl)
theorem dX12_init_756 : decode cX12_init 756 = .ok (.dup, 1) := q_dup (bat_get dg_X12_init_704_704 38 rfl rfl)
theorem dX12_init_757 : decode cX12_init 757 = .ok (.iconst 1, 1) := q_iconst1 (bat_get dg_X12_init_704_704 39 rfl rfl)
