theorem dg_X12_init_758_758 : bqL cX12_init 758 [(0, [16, 97]), (2, [85]), (3, [89]), (4, [5]), (5, [16, 120]), (7, [85]), (8, [181, 0, 147]), (11, [42]), (12, [7]), (13, [188, 5]), (15, [89]), (16, [3]), (17, [16, 109]), (19, [85]), (20, [89]), (21, [4]), (22, [16, 111]), (24, [85]), (25, [89]), (26, [5]), (27, [16, 111]), (29, [85]), (30, [89]), (31, [6]), (32, [16, 100]), (34, [85]), (35, [181, 0, 150]), (38, [42]), (39, [8]), (40, [188, 5]), (42, [89]), (43, [3]), (44, [16, 98]), (46, [85]), (47, [89]), (48, [4]), (49, [16, 97]), (51, [85]), (52, [89]), (53, [5])] = true := by decide +kernel
theorem dX12_init_758 : decode cX12_init 758 = .ok (.bipush 97, 2) := q_bipush (bat_get dg_X12_init_758_758 0 rfl rfl) rfl
theorem dX12_init_760 : decode cX12_init 760 = .ok (.castore, 1) := q_castore (bat_get dg_X12_init_758_758 1 rfl rfl)
theorem dX12_init_761 : decode cX12_init 761 = .ok (.dup, 1) := q_dup (bat_get dg_X12_init_758_758 2 rfl rfl)
theorem dX12_init_762 : decode cX12_init 762 = .ok (.iconst 2, 1) := q_iconst2 (bat_get dg_X12_init_758_758 3 rfl rfl)
theorem dX12_init_763 : decode cX12_init 763 = .ok (.bipush 120, 2) := q_bipush (bat_get dg_X12_init_758_758 4 rfl rfl) rfl
theorem dX12_init_765 : decode cX12_init 765 = .ok (.castore, 1) := q_castore (bat_get dg_X12_init_758_758 5 rfl rfl)
theorem dX12_init_766 : decode cX12_init 766 = .ok (.putfield 147, 3) := q_putfield (bat_get dg_X12_init_758_758 6 rfl rfl) rfl
theorem dX12_init_769 : decode cX12_init 769 = .ok (.aload_n 0, 1) := q_aload_n0 (bat_get dg_X12_init_758_758 7 rfl rfl)
theorem dX12_init_770 : decode cX12_init 770 = .ok (.iconst 4, 1) := q_iconst4 (bat_get dg_X12_init_758_758 8 rfl rfl)
theorem dX12_init_771 : decode cX12_init 771 = .ok (.newarray .char, 2) := q_newarray_char (bat_get dg_X12_init_758_758 9 rfl rfl)
theorem dX12_init_773 : decode cX12_init 773 = .ok (.dup, 1) := q_dup (bat_get dg_X12_init_758_758 10 rfl rfl)
theorem dX12_init_774 : decode cX12_init 774 = .ok (.iconst 0, 1) := q_iconst0 (bat_get dg_X12_init_758_758 11 rfl rfl)
theorem dX12_init_775 : decode cX12_init 775 = .ok (.bipush 109, 2) := q_bipush (bat_get dg_X12_init_758_758 12 rfl rfl) rfl
theorem dX12_init_777 : decode cX12_init 777 = .ok (.castore, 1) := q_castore (bat_get dg_X12_init_758_758 13 rfl rfl)
theorem dX12_init_778 : decode cX12_init 778 = .ok (.dup, 1) := q_dup (bat_get dg_X12_init_758_758 14 rfl rfl)
theorem dX12_init_779 : decode cX12_init 779 = .ok (.iconst 1, 1) := q_iconst1 (bat_get dg_X12_init_758_758 15 rfl rfl)
theorem dX12_init_780 : decode cX12_init 780 = .ok (.bipush 111, 2) := q_bipush (bat_get dg_X12_init_758_758 16 rfl rfl) rfl
theorem dX12_init_782 : decode cX12_init 782 = .ok (.castore, 1) := q_castore (bat_get dg_X12_init_758_758 17 rfl rfl)
theorem dX12_init_783 : decode cX12_init 783 = .ok (.dup, 1) := q_dup (bat_get dg_X12_init_758_758 18 rfl rfl)
theorem dX12_init_784 : decode cX12_init 784 = .ok (.iconst 2, 1) := q_iconst2 (bat_get dg_X12_init_758_758 19 rfl rfl)
theorem dX12_init_785 : decode cX12_init 785 = .ok (.bipush 111, 2) := q_bipush (bat_get dg_X12_init_758_758 20 rfl rfl) rfl
theorem dX12_init_787 : decode cX12_init 787 = .ok (.castore, 1) := q_castore (bat_get dg_X12_init_758_758 21 rfl rfl)
theorem dX12_init_788 : decode cX12_init 788 = .ok (.dup, 1) := q_dup (bat_get dg_X12_init_758_758 22 rfl rfl)
theorem dX12_init_789 : decode cX12_init 789 = .ok (.iconst 3, 1) := q_iconst3 (bat_get dg_X12_init_758_758 23 rfl rfl)
theorem dX12_init_790 : decode cX12_init 790 = .ok (.bipush 100, 2) := q_bipush (bat_get dg_X12_init_758_758 24 rfl rfl) rfl
theorem dX12_init_792 : decode cX12_init 792 = .ok (.castore, 1) := q_castore (bat_get dg_X12_init_758_758 25 rfl rfl)
theorem dX12_init_793 : decode cX12_init 793 = .ok (.putfield 150, 3) := q_putfield (bat_get dg_X12_init_758_758 26 rfl rfl) rfl
theorem dX12_init_796 : decode cX12_init 796 = .ok (.aload_n 0, 1) := q_aload_n0 (bat_get dg_X12_init_758_758 27 rfl rfl)
theorem dX12_init_797 : decode cX12_init 797 = .ok (.iconst 5, 1) := q_iconst5 (bat_get dg_X12_init_758_758 28 rfl rfl)
theorem dX12_init_798 : decode cX12_init 798 = .ok (.newarray .char, 2) := q_newarray_char (bat_get dg_X12_init_758_758 29 rfl rfl)
theorem dX12_init_800 : decode cX12_init 800 = .ok (.dup, 1) := q_dup (bat_get dg_X12_init_758_758 30 rfl rfl)
theorem dX12_init_801 : decode cX12_init 801 = .ok (.iconst 0, 1) := q_iconst0 (bat_get dg_X12_init_758_758 31 rfl rfl)
theorem dX12_init_802 : decode cX12_init 802 = .ok (.bipush 98, 2) := q_bipush (bat_get dg_X12_init_758_758 32 rfl rfl) rfl
theorem dX12_init_804 : decode cX12_init 804 = .ok (.castore, 1) := q_castore (bat_get dg_X12_init_758_758 33 rfl rfl)
theorem dX12_init_805 : decode cX12_init 805 = .ok (.dup, 1) := q_dup (bat_get dg_X12_init_758_758 34 rfl rfl)
theorem dX12_init_806 : decode cX12_init 806 = .ok (.iconst 1, 1) := q_iconst1 (bat_get dg_X12_init_758_758 35 rfl rfl)
theorem dX12_init_807 : decode cX12_init 807 = .ok (.bipush 97, 2) := q_bipush (bat_get dg_X12_init_758_758 36 rfl rfl) rfl
theorem dX12_init_809 : decode cX12_init 809 = .ok (.castore, 1) := q_castore (bat_get dg_X12_init_758_758 37 rfl rfl)
theorem dX12_init_810 : decode cX12_init 810 = .ok (.dup, 1) := q_dup (bat_get dg_X12_init_758_758 38 rfl rfl)
theorem dX12_init_811 : decode cX12_init 811 = .ok (.iconst 2, 1) := q_iconst2 (bat_get dg_X12_init_758_758 39 rfl rfl)
theorem dg_X12_init_812_812 : bqL cX12_init 812 [(0, [16, 114]), (2, [85]), (3, [89]), (4, [6]), (5, [16, 103]), (7, [85]), (8, [89]), (9, [7]), (10, [16, 101]), (12, [85]), (13, [181, 0, 153]), (16, [42]), (17, [6]), (18, [188, 5]), (20, [89]), (21, [3]), (22, [16, 119]), (24, [85]), (25, [89]), (26, [4]), (27, [16, 101]), (29, [85]), (30, [89]), (31, [5]), (32, [16, 116]), (34, [85]), (35, [181, 0, 156]), (38, [42]), (39, [6]), (40, [188, 5]), (42, [89]), (43, [3]), (44, [16, 100]), (46, [85]), (47, [89]), (48, [4]), (49, [16, 97]), (51, [85]), (52, [89]), (53, [5])] = true := by decide +kernel
theorem dX12_init_812 : decode cX12_init 812 = .ok (.bipush 114, 2) := q_bipush (bat_get dg_X12_init_812_812 0 rfl rfl) rfl
theorem dX12_init_814 : decode cX12_init 814 = .ok (.castore, 1) := q_castore (bat_get dg_X12_init_812_812 1 rfl rfl)
theorem dX12_init_815 : decode cX12_init 815 = .ok (.dup, 1) := q_dup (bat_get dg_X12_init_812_812 2 rfl rfl)
theorem dX12_init_816 : decode cX12_init 816 = .ok (.iconst 3, 1) := q_iconst3 (bat_get dg_X12_init_812_812 3 rfl rfl)
theorem dX12_init_817 : decode cX12_init 817 = .ok (.bipush 103, 2) := q_bipush (bat_get dg_X12_init_812_812 4 rfl rfl) rfl
theorem dX12_init_819 : decode cX12_init 819 = .ok (.castore, 1) := q_castore (bat_get dg_X12_init_812_812 5 rfl rfl)
theorem dX12_init_820 : decode cX12_init 820 = .ok (.dup, 1) := q_dup (bat_get dg_X12_init_812_812 6 rfl rfl)
theorem dX12_init_821 : decode cX12_init 821 = .ok (.iconst 4, 1) := q_iconst4 (bat_get dg_X12_init_812_812 7 rfl rfl)
theorem dX12_init_822 : decode cX12_init 822 = .ok (.bipush 101, 2) := q_bipush (bat_get dg_X12_init_812_812 8 rfl rfl) rfl
theorem dX12_init_824 : decode cX12_init 824 = .ok (.castore, 1) := q_castore (bat_get dg_X12_init_812_812 9 rfl rfl)
theorem dX12_init_825 : decode cX12_init 825 = .ok (.putfield 153, 3) := q_putfield (bat_get dg_X12_init_812_812 10 rfl rfl) rfl
theorem dX12_init_828 : decode cX12_init 828 = .ok (.aload_n 0, 1) := q_aload_n0 (bat_get dg_X12_init_812_812 11 rfl rfl)
theorem dX12_init_829 : decode cX12_init 829 = .ok (.iconst 3, 1) := q_iconst3 (bat_get dg_X12_init_812_812 12 rfl rfl)
theorem dX12_init_830 : decode cX12_init 830 = .ok (.newarray .char, 2) := q_newarray_char (bat_get dg_X12_init_812_812 13 rfl rfl)
theorem dX12_init_832 : decode cX12_init 832 = .ok (.dup, 1) := q_dup (bat_get dg_X12_init_812_812 14 rfl rfl)
theorem dX12_init_833 : decode cX12_init 833 = .ok (.iconst 0, 1) := q_iconst0 (bat_get dg_X12_init_812_812 15 rfl rfl)
theorem dX12_init_834 : decode cX12_init 834 = .ok (.bipush 119, 2) := q_bipush (bat_get dg_X12_init_812_812 16 rfl rfl) rfl
theorem dX12_init_836 : decode cX12_init 836 = .ok (.castore, 1) := q_castore (bat_get dg_X12_init_812_812 17 rfl rfl)
theorem dX12_init_837 : decode cX12_init 837 = .ok (.dup, 1) := q_dup (bat_get dg_X12_init_812_812 18 rfl rfl)
theorem dX12_init_838 : decode cX12_init 838 = .ok (.iconst 1, 1) := q_iconst1 (bat_get dg_X12_init_812_812 19 rfl rfl)
theorem dX12_init_839 : decode cX12_init 839 = .ok (.bipush 101, 2) := q_bipush (bat_get dg_X12_init_812_812 20 rfl rfl) rfl
theorem dX12_init_841 : decode cX12_init 841 = .ok (.castore, 1) := q_castore (bat_get dg_X12_init_812_812 21 rfl rfl)
theorem dX12_init_842 : decode cX12_init 842 = .ok (.dup, 1) := q_dup (bat_get dg_X12_init_812_812 22 rfl rfl)
theorem dX12_init_843 : decode cX12_init 843 = .ok (.iconst 2, 1) := q_iconst2 (bat_get dg_X12_init_812_812 23 rfl rfl)
theorem dX12_init_844 : decode cX12_init 844 = .ok (.bipush 116, 2) := q_bipush (bat_get dg_X12_init_812_812 24 rfl rfl) rfl
theorem dX12_init_846 : decode cX12_init 846 = .ok (.castore, 1) := q_castore (bat_get dg_X12_init_812_812 25 rfl rfl)
theorem dX12_init_847 : decode cX12_init 847 = .ok (.putfield 156, 3) := q_putfield (bat_get dg_X12_init_812_812 26 rfl rfl) rfl
theorem dX12_init_850 : decode cX12_init 850 = .ok (.aload_n 0, 1) := q_aload_n0 (bat_get dg_X12_init_812_812 27 rfl rfl)
theorem dX12_init_851 : decode cX12_init 851 = .ok (.iconst 3, 1) := q_iconst3 (bat_get dg_X12_init_812_812 28 rfl rfl)
theorem dX12_init_852 : decode cX12_init 852 = .ok (.newarray .char, 2) := q_newarray_char (bat_get dg_X12_init_812_812 29 rfl rfl)
theorem dX12_init_854 : decode cX12_init 854 = .ok (.dup, 1) := q_dup (bat_get dg_X12_init_812_812 30 rfl rfl)
theorem dX12_init_855 : decode cX12_init 855 = .ok (.iconst 0, 1) := q_iconst0 (bat_get dg_X12_init_812_812 31 rfl rfl)
theorem dX12_init_856 : decode cX12_init 856 = .ok (.bipush 100, 2) := q_bipush (bat_get dg_X12_init_812_812 32 rfl rfl) rfl
theorem dX12_init_858 : decode cX12_init 858 = .ok (.castore, 1) := q_castore (bat_get dg_X12_init_812_812 33 rfl rfl)
theorem dX12_init_859 : decode cX12_init 859 = .ok (.dup, 1) := q_dup (bat_get dg_X12_init_812_812 34 rfl rfl)
theorem dX12_init_860 : decode cX12_init 860 = .ok (.iconst 1, 1) := q_iconst1 (bat_get dg_X12_init_812_812 35 rfl rfl)
theorem dX12_init_861 : decode cX12_init 861 = .ok (.bipush 97, 2) := q_bipush (bat_get dg_X12_init_812_812 36 rfl rfl) rfl
theorem dX12_init_863 : decode cX12_init 863 = .ok (.castore, 1) := q_castore (bat_get dg_X12_init_812_812 37 rfl rfl)
theorem dX12_init_864 : decode cX12_init 864 = .ok (.dup, 1) := q_dup (bat_get dg_X12_init_812_812 38 rfl rfl)
theorem dX12_init_865 : decode cX12_init 865 = .ok (.iconst 2, 1) := q_iconst2 (bat_get dg_X12_init_812_812 39 rfl rfl)
theorem dg_X12_init_866_866 : bqL cX12_init 866 [(0, [16, 121]), (2, [85]), (3, [181, 0, 159]), (6, [42]), (7, [7]), (8, [188, 5]), (10, [89]), (11, [3]), (12, [16, 119]), (14, [85]), (15, [89]), (16, [4]), (17, [16, 101]), (19, [85]), (20, [89]), (21, [5]), (22, [16, 101]), (24, [85]), (25, [89]), (26, [6]), (27, [16, 107]), (29, [85]), (30, [181, 0, 162]), (33, [42]), (34, [7]), (35, [188, 5]), (37, [89]), (38, [3]), (39, [16, 116]), (41, [85]), (42, [89]), (43, [4]), (44, [16, 111]), (46, [85]), (47, [89]), (48, [5]), (49, [16, 108]), (51, [85]), (52, [89]), (53, [6])] = true := by decide +kernel
theorem dX12_init_866 : decode cX12_init 866 = .ok (.bipush 121, 2) := q_bipush (bat_get dg_X12_init_866_866 0 rfl rfl) rfl
theorem dX12_init_868 : decode cX12_init 868 = .ok (.castore, 1) := q_castore (bat_get dg_X12_init_866_866 1 rfl rfl)
theorem dX12_init_869 : decode cX12_init 869 = .ok (.putfield 159, 3) := q_putfield (bat_get dg_X12_init_866_866 2 rfl rfl) rfl
theorem dX12_init_872 : decode cX12_init 872 = .ok (.aload_n 0, 1) := q_aload_n0 (bat_get dg_X12_init_866_866 3 rfl rfl)
theorem dX12_init_873 : decode cX12_init 873 = .ok (.iconst 4, 1) := q_iconst4 (bat_get dg_X12_init_866_866 4 rfl rfl)
theorem dX12_init_874 : decode cX12_init 874 = .ok (.newarray .char, 2) := q_newarray_char (bat_get dg_X12_init_866_866 5 rfl rfl)
theorem dX12_init_876 : decode cX12_init 876 = .ok (.dup, 1) := q_dup (bat_get dg_X12_init_866_866 6 rfl rfl)
theorem dX12_init_877 : decode cX12_init 877 = .ok (.iconst 0, 1) := q_iconst0 (bat_get dg_X12_init_866_866 7 rfl rfl)
theorem dX12_init_878 : decode cX12_init 878 = .ok (.bipush 119, 2) := q_bipush (bat_get dg_X12_init_866_866 8 rfl rfl) rfl
theorem dX12_init_880 : decode cX12_init 880 = .ok (.castore, 1) := q_castore (bat_get dg_X12_init_866_866 9 rfl rfl)
theorem dX12_init_881 : decode cX12_init 881 = .ok (.dup, 1) := q_dup (bat_get dg_X12_init_866_866 10 rfl rfl)
theorem dX12_init_882 : decode cX12_init 882 = .ok (.iconst 1, 1) := q_iconst1 (bat_get dg_X12_init_866_866 11 rfl rfl)
theorem dX12_init_883 : decode cX12_init 883 = .ok (.bipush 101, 2) := q_bipush (bat_get dg_X12_init_866_866 12 rfl rfl) rfl
theorem dX12_init_885 : decode cX12_init 885 = .ok (.castore, 1) := q_castore (bat_get dg_X12_init_866_866 13 rfl rfl)
theorem dX12_init_886 : decode cX12_init 886 = .ok (.dup, 1) := q_dup (bat_get dg_X12_init_866_866 14 rfl rfl)
theorem dX12_init_887 : decode cX12_init 887 = .ok (.iconst 2, 1) := q_iconst2 (bat_get dg_X12_init_866_866 15 rfl rfl)
theorem dX12_init_888 : decode cX12_init 888 = .ok (.bipush 101, 2) := q_bipush (bat_get dg_X12_init_866_866 16 rfl rfl) rfl
theorem dX12_init_890 : decode cX12_init 890 = .ok (.castore, 1) := q_castore (bat_get dg_X12_init_866_866 17 rfl rfl)
theorem dX12_init_891 : decode cX12_init 891 = .ok (.dup, 1) := q_dup (bat_get dg_X12_init_866_866 18 rfl rfl)
theorem dX12_init_892 : decode cX12_init 892 = .ok (.iconst 3, 1) := q_iconst3 (bat_get dg_X12_init_866_866 19 rfl rfl)
theorem dX12_init_893 : decode cX12_init 893 = .ok (.bipush 107, 2) := q_bipush (bat_get dg_X12_init_866_866 20 rfl rfl) rfl
theorem dX12_init_895 : decode cX12_init 895 = .ok (.castore, 1) := q_castore (bat_get dg_X12_init_866_866 21 rfl rfl)
theorem dX12_init_896 : decode cX12_init 896 = .ok (.putfield 162, 3) := q_putfield (bat_get dg_X12_init_866_866 22 rfl rfl) rfl
theorem dX12_init_899 : decode cX12_init 899 = .ok (.aload_n 0, 1) := q_aload_n0 (bat_get dg_X12_init_866_866 23 rfl rfl)
theorem dX12_init_900 : decode cX12_init 900 = .ok (.iconst 4, 1) := q_iconst4 (bat_get dg_X12_init_866_866 24 rfl rfl)
theorem dX12_init_901 : decode cX12_init 901 = .ok (.newarray .char, 2) := q_newarray_char (bat_get dg_X12_init_866_866 25 rfl rfl)
theorem dX12_init_903 : decode cX12_init 903 = .ok (.dup, 1) := q_dup (bat_get dg_X12_init_866_866 26 rfl rfl)
theorem dX12_init_904 : decode cX12_init 904 = .ok (.iconst 0, 1) := q_iconst0 (bat_get dg_X12_init_866_866 27 rfl rfl)
theorem dX12_init_905 : decode cX12_init 905 = .ok (.bipush 116, 2) := q_bipush (bat_get dg_X12_init_866_866 28 rfl rfl) rfl
theorem dX12_init_907 : decode cX12_init 907 = .ok (.castore, 1) := q_castore (bat_get dg_X12_init_866_866 29 rfl rfl)
theorem dX12_init_908 : decode cX12_init 908 = .ok (.dup, 1) := q_dup (bat_get dg_X12_init_866_866 30 rfl rfl)
theorem dX12_init_909 : decode cX12_init 909 = .ok (.iconst 1, 1) := q_iconst1 (bat_get dg_X12_init_866_866 31 rfl rfl)
theorem dX12_init_910 : decode cX12_init 910 = .ok (.bipush 111, 2) := q_bipush (bat_get dg_X12_init_866_866 32 rfl rfl) rfl
theorem dX12_init_912 : decode cX12_init 912 = .ok (.castore, 1) := q_castore (bat_get dg_X12_init_866_866 33 rfl rfl)
theorem dX12_init_913 : decode cX12_init 913 = .ok (.dup, 1) := q_dup (bat_get dg_X12_init_866_866 34 rfl rfl)
theorem dX12_init_914 : decode cX12_init 914 = .ok (.iconst 2, 1) := q_iconst2 (bat_get dg_X12_init_866_866 35 rfl rfl)
theorem dX12_init_915 : decode cX12_init 915 = .ok (.bipush 108, 2) := q_bipush (bat_get dg_X12_init_866_866 36 rfl rfl) rfl
theorem dX12_init_917 : decode cX12_init 917 = .ok (.castore, 1) := q_castore (bat_get dg_X12_init_866_866 37 rfl rfl)
theorem dX12_init_918 : decode cX12_init 918 = .ok (.dup, 1) := q_dup (bat_get dg_X12_init_866_866 38 rfl rfl)
theorem dX12_init_919 : decode cX12_init 919 = .ok (.iconst 3, 1) := q_iconst3 (bat_get dg_X12_init_866_866 39 rfl rfl)
