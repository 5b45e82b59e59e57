theorem dg_X12_init_920_920 : bqL cX12_init 920 [(0, [16, 100]), (2, [85]), (3, [181, 0, 165]), (6, [42]), (7, [8]), (8, [188, 5]), (10, [89]), (11, [3]), (12, [16, 97]), (14, [85]), (15, [89]), (16, [4]), (17, [16, 108]), (19, [85]), (20, [89]), (21, [5]), (22, [16, 111]), (24, [85]), (25, [89]), (26, [6]), (27, [16, 110]), (29, [85]), (30, [89]), (31, [7]), (32, [16, 101]), (34, [85]), (35, [181, 0, 168]), (38, [42]), (39, [16, 6]), (41, [188, 5]), (43, [89]), (44, [3]), (45, [16, 110]), (47, [85]), (48, [89]), (49, [4]), (50, [16, 117]), (52, [85]), (53, [89]), (54, [5])] = true := by decide +kernel
theorem dX12_init_920 : decode cX12_init 920 = .ok (.bipush 100, 2) := q_bipush (bat_get dg_X12_init_920_920 0 rfl rfl) rfl
theorem dX12_init_922 : decode cX12_init 922 = .ok (.castore, 1) := q_castore (bat_get dg_X12_init_920_920 1 rfl rfl)
theorem dX12_init_923 : decode cX12_init 923 = .ok (.putfield 165, 3) := q_putfield (bat_get dg_X12_init_920_920 2 rfl rfl) rfl
theorem dX12_init_926 : decode cX12_init 926 = .ok (.aload_n 0, 1) := q_aload_n0 (bat_get dg_X12_init_920_920 3 rfl rfl)
theorem dX12_init_927 : decode cX12_init 927 = .ok (.iconst 5, 1) := q_iconst5 (bat_get dg_X12_init_920_920 4 rfl rfl)
theorem dX12_init_928 : decode cX12_init 928 = .ok (.newarray .char, 2) := q_newarray_char (bat_get dg_X12_init_920_920 5 rfl rfl)
theorem dX12_init_930 : decode cX12_init 930 = .ok (.dup, 1) := q_dup (bat_get dg_X12_init_920_920 6 rfl rfl)
theorem dX12_init_931 : decode cX12_init 931 = .ok (.iconst 0, 1) := q_iconst0 (bat_get dg_X12_init_920_920 7 rfl rfl)
theorem dX12_init_932 : decode cX12_init 932 = .ok (.bipush 97, 2) := q_bipush (bat_get dg_X12_init_920_920 8 rfl rfl) rfl
theorem dX12_init_934 : decode cX12_init 934 = .ok (.castore, 1) := q_castore (bat_get dg_X12_init_920_920 9 rfl rfl)
theorem dX12_init_935 : decode cX12_init 935 = .ok (.dup, 1) := q_dup (bat_get dg_X12_init_920_920 10 rfl rfl)
theorem dX12_init_936 : decode cX12_init 936 = .ok (.iconst 1, 1) := q_iconst1 (bat_get dg_X12_init_920_920 11 rfl rfl)
theorem dX12_init_937 : decode cX12_init 937 = .ok (.bipush 108, 2) := q_bipush (bat_get dg_X12_init_920_920 12 rfl rfl) rfl
theorem dX12_init_939 : decode cX12_init 939 = .ok (.castore, 1) := q_castore (bat_get dg_X12_init_920_920 13 rfl rfl)
theorem dX12_init_940 : decode cX12_init 940 = .ok (.dup, 1) := q_dup (bat_get dg_X12_init_920_920 14 rfl rfl)
theorem dX12_init_941 : decode cX12_init 941 = .ok (.iconst 2, 1) := q_iconst2 (bat_get dg_X12_init_920_920 15 rfl rfl)
theorem dX12_init_942 : decode cX12_init 942 = .ok (.bipush 111, 2) := q_bipush (bat_get dg_X12_init_920_920 16 rfl rfl) rfl
theorem dX12_init_944 : decode cX12_init 944 = .ok (.castore, 1) := q_castore (bat_get dg_X12_init_920_920 17 rfl rfl)
theorem dX12_init_945 : decode cX12_init 945 = .ok (.dup, 1) := q_dup (bat_get dg_X12_init_920_920 18 rfl rfl)
theorem dX12_init_946 : decode cX12_init 946 = .ok (.iconst 3, 1) := q_iconst3 (bat_get dg_X12_init_920_920 19 rfl rfl)
theorem dX12_init_947 : decode cX12_init 947 = .ok (.bipush 110, 2) := q_bipush (bat_get dg_X12_init_920_920 20 rfl rfl) rfl
theorem dX12_init_949 : decode cX12_init 949 = .ok (.castore, 1) := q_castore (bat_get dg_X12_init_920_920 21 rfl rfl)
theorem dX12_init_950 : decode cX12_init 950 = .ok (.dup, 1) := q_dup (bat_get dg_X12_init_920_920 22 rfl rfl)
theorem dX12_init_951 : decode cX12_init 951 = .ok (.iconst 4, 1) := q_iconst4 (bat_get dg_X12_init_920_920 23 rfl rfl)
theorem dX12_init_952 : decode cX12_init 952 = .ok (.bipush 101, 2) := q_bipush (bat_get dg_X12_init_920_920 24 rfl rfl) rfl
theorem dX12_init_954 : decode cX12_init 954 = .ok (.castore, 1) := q_castore (bat_get dg_X12_init_920_920 25 rfl rfl)
theorem dX12_init_955 : decode cX12_init 955 = .ok (.putfield 168, 3) := q_putfield (bat_get dg_X12_init_920_920 26 rfl rfl) rfl
theorem dX12_init_958 : decode cX12_init 958 = .ok (.aload_n 0, 1) := q_aload_n0 (bat_get dg_X12_init_920_920 27 rfl rfl)
theorem dX12_init_959 : decode cX12_init 959 = .ok (.bipush 6, 2) := q_bipush (bat_get dg_X12_init_920_920 28 rfl rfl) rfl
theorem dX12_init_961 : decode cX12_init 961 = .ok (.newarray .char, 2) := q_newarray_char (bat_get dg_X12_init_920_920 29 rfl rfl)
theorem dX12_init_963 : decode cX12_init 963 = .ok (.dup, 1) := q_dup (bat_get dg_X12_init_920_920 30 rfl rfl)
theorem dX12_init_964 : decode cX12_init 964 = .ok (.iconst 0, 1) := q_iconst0 (bat_get dg_X12_init_920_920 31 rfl rfl)
theorem dX12_init_965 : decode cX12_init 965 = .ok (.bipush 110, 2) := q_bipush (bat_get dg_X12_init_920_920 32 rfl rfl) rfl
theorem dX12_init_967 : decode cX12_init 967 = .ok (.castore, 1) := q_castore (bat_get dg_X12_init_920_920 33 rfl rfl)
theorem dX12_init_968 : decode cX12_init 968 = .ok (.dup, 1) := q_dup (bat_get dg_X12_init_920_920 34 rfl rfl)
theorem dX12_init_969 : decode cX12_init 969 = .ok (.iconst 1, 1) := q_iconst1 (bat_get dg_X12_init_920_920 35 rfl rfl)
theorem dX12_init_970 : decode cX12_init 970 = .ok (.bipush 117, 2) := q_bipush (bat_get dg_X12_init_920_920 36 rfl rfl) rfl
theorem dX12_init_972 : decode cX12_init 972 = .ok (.castore, 1) := q_castore (bat_get dg_X12_init_920_920 37 rfl rfl)
theorem dX12_init_973 : decode cX12_init 973 = .ok (.dup, 1) := q_dup (bat_get dg_X12_init_920_920 38 rfl rfl)
theorem dX12_init_974 : decode cX12_init 974 = .ok (.iconst 2, 1) := q_iconst2 (bat_get dg_X12_init_920_920 39 rfl rfl)
theorem dg_X12_init_975_975 : bqL cX12_init 975 [(0, [16, 109]), (2, [85]), (3, [89]), (4, [6]), (5, [16, 98]), (7, [85]), (8, [89]), (9, [7]), (10, [16, 101]), (12, [85]), (13, [89]), (14, [8]), (15, [16, 114]), (17, [85]), (18, [181, 0, 171]), (21, [42]), (22, [7]), (23, [188, 5]), (25, [89]), (26, [3]), (27, [16, 109]), (29, [85]), (30, [89]), (31, [4]), (32, [16, 117]), (34, [85]), (35, [89]), (36, [5]), (37, [16, 116]), (39, [85]), (40, [89]), (41, [6]), (42, [16, 101]), (44, [85]), (45, [181, 0, 174]), (48, [42]), (49, [8]), (50, [188, 5]), (52, [89]), (53, [3])] = true := by decide +kernel
theorem dX12_init_975 : decode cX12_init 975 = .ok (.bipush 109, 2) := q_bipush (bat_get dg_X12_init_975_975 0 rfl rfl) rfl
theorem dX12_init_977 : decode cX12_init 977 = .ok (.castore, 1) := q_castore (bat_get dg_X12_init_975_975 1 rfl rfl)
theorem dX12_init_978 : decode cX12_init 978 = .ok (.dup, 1) := q_dup (bat_get dg_X12_init_975_975 2 rfl rfl)
theorem dX12_init_979 : decode cX12_init 979 = .ok (.iconst 3, 1) := q_iconst3 (bat_get dg_X12_init_975_975 3 rfl rfl)
theorem dX12_init_980 : decode cX12_init 980 = .ok (.bipush 98, 2) := q_bipush (bat_get dg_X12_init_975_975 4 rfl rfl) rfl
theorem dX12_init_982 : decode cX12_init 982 = .ok (.castore, 1) := q_castore (bat_get dg_X12_init_975_975 5 rfl rfl)
theorem dX12_init_983 : decode cX12_init 983 = .ok (.dup, 1) := q_dup (bat_get dg_X12_init_975_975 6 rfl rfl)
theorem dX12_init_984 : decode cX12_init 984 = .ok (.iconst 4, 1) := q_iconst4 (bat_get dg_X12_init_975_975 7 rfl rfl)
theorem dX12_init_985 : decode cX12_init 985 = .ok (.bipush 101, 2) := q_bipush (bat_get dg_X12_init_975_975 8 rfl rfl) rfl
theorem dX12_init_987 : decode cX12_init 987 = .ok (.castore, 1) := q_castore (bat_get dg_X12_init_975_975 9 rfl rfl)
theorem dX12_init_988 : decode cX12_init 988 = .ok (.dup, 1) := q_dup (bat_get dg_X12_init_975_975 10 rfl rfl)
theorem dX12_init_989 : decode cX12_init 989 = .ok (.iconst 5, 1) := q_iconst5 (bat_get dg_X12_init_975_975 11 rfl rfl)
theorem dX12_init_990 : decode cX12_init 990 = .ok (.bipush 114, 2) := q_bipush (bat_get dg_X12_init_975_975 12 rfl rfl) rfl
theorem dX12_init_992 : decode cX12_init 992 = .ok (.castore, 1) := q_castore (bat_get dg_X12_init_975_975 13 rfl rfl)
theorem dX12_init_993 : decode cX12_init 993 = .ok (.putfield 171, 3) := q_putfield (bat_get dg_X12_init_975_975 14 rfl rfl) rfl
theorem dX12_init_996 : decode cX12_init 996 = .ok (.aload_n 0, 1) := q_aload_n0 (bat_get dg_X12_init_975_975 15 rfl rfl)
theorem dX12_init_997 : decode cX12_init 997 = .ok (.iconst 4, 1) := q_iconst4 (bat_get dg_X12_init_975_975 16 rfl rfl)
theorem dX12_init_998 : decode cX12_init 998 = .ok (.newarray .char, 2) := q_newarray_char (bat_get dg_X12_init_975_975 17 rfl rfl)
theorem dX12_init_1000 : decode cX12_init 1000 = .ok (.dup, 1) := q_dup (bat_get dg_X12_init_975_975 18 rfl rfl)
theorem dX12_init_1001 : decode cX12_init 1001 = .ok (.iconst 0, 1) := q_iconst0 (bat_get dg_X12_init_975_975 19 rfl rfl)
theorem dX12_init_1002 : decode cX12_init 1002 = .ok (.bipush 109, 2) := q_bipush (bat_get dg_X12_init_975_975 20 rfl rfl) rfl
theorem dX12_init_1004 : decode cX12_init 1004 = .ok (.castore, 1) := q_castore (bat_get dg_X12_init_975_975 21 rfl rfl)
theorem dX12_init_1005 : decode cX12_init 1005 = .ok (.dup, 1) := q_dup (bat_get dg_X12_init_975_975 22 rfl rfl)
theorem dX12_init_1006 : decode cX12_init 1006 = .ok (.iconst 1, 1) := q_iconst1 (bat_get dg_X12_init_975_975 23 rfl rfl)
theorem dX12_init_1007 : decode cX12_init 1007 = .ok (.bipush 117, 2) := q_bipush (bat_get dg_X12_init_975_975 24 rfl rfl) rfl
theorem dX12_init_1009 : decode cX12_init 1009 = .ok (.castore, 1) := q_castore (bat_get dg_X12_init_975_975 25 rfl rfl)
theorem dX12_init_1010 : decode cX12_init 1010 = .ok (.dup, 1) := q_dup (bat_get dg_X12_init_975_975 26 rfl rfl)
theorem dX12_init_1011 : decode cX12_init 1011 = .ok (.iconst 2, 1) := q_iconst2 (bat_get dg_X12_init_975_975 27 rfl rfl)
theorem dX12_init_1012 : decode cX12_init 1012 = .ok (.bipush 116, 2) := q_bipush (bat_get dg_X12_init_975_975 28 rfl rfl) rfl
theorem dX12_init_1014 : decode cX12_init 1014 = .ok (.castore, 1) := q_castore (bat_get dg_X12_init_975_975 29 rfl rfl)
theorem dX12_init_1015 : decode cX12_init 1015 = .ok (.dup, 1) := q_dup (bat_get dg_X12_init_975_975 30 rfl rfl)
theorem dX12_init_1016 : decode cX12_init 1016 = .ok (.iconst 3, 1) := q_iconst3 (bat_get dg_X12_init_975_975 31 rfl rfl)
theorem dX12_init_1017 : decode cX12_init 1017 = .ok (.bipush 101, 2) := q_bipush (bat_get dg_X12_init_975_975 32 rfl rfl) rfl
theorem dX12_init_1019 : decode cX12_init 1019 = .ok (.castore, 1) := q_castore (bat_get dg_X12_init_975_975 33 rfl rfl)
theorem dX12_init_1020 : decode cX12_init 1020 = .ok (.putfield 174, 3) := q_putfield (bat_get dg_X12_init_975_975 34 rfl rfl) rfl
theorem dX12_init_1023 : decode cX12_init 1023 = .ok (.aload_n 0, 1) := q_aload_n0 (bat_get dg_X12_init_975_975 35 rfl rfl)
theorem dX12_init_1024 : decode cX12_init 1024 = .ok (.iconst 5, 1) := q_iconst5 (bat_get dg_X12_init_975_975 36 rfl rfl)
theorem dX12_init_1025 : decode cX12_init 1025 = .ok (.newarray .char, 2) := q_newarray_char (bat_get dg_X12_init_975_975 37 rfl rfl)
theorem dX12_init_1027 : decode cX12_init 1027 = .ok (.dup, 1) := q_dup (bat_get dg_X12_init_975_975 38 rfl rfl)
theorem dX12_init_1028 : decode cX12_init 1028 = .ok (.iconst 0, 1) := q_iconst0 (bat_get dg_X12_init_975_975 39 rfl rfl)
theorem dg_X12_init_1029_1029 : bqL cX12_init 1029 [(0, [16, 119]), (2, [85]), (3, [89]), (4, [4]), (5, [16, 101]), (7, [85]), (8, [89]), (9, [5]), (10, [16, 101]), (12, [85]), (13, [89]), (14, [6]), (15, [16, 107]), (17, [85]), (18, [89]), (19, [7]), (20, [16, 115]), (22, [85]), (23, [181, 0, 177]), (26, [42]), (27, [17, 6, 164]), (30, [188, 10]), (32, [181, 0, 180]), (35, [42]), (36, [17, 6, 164]), (39, [188, 10]), (41, [181, 0, 183]), (44, [42]), (45, [17, 6, 164]), (48, [188, 11]), (50, [181, 0, 186]), (53, [42]), (54, [16, 31]), (56, [188, 10]), (58, [181, 0, 189]), (61, [177])] = true := by decide +kernel
theorem dX12_init_1029 : decode cX12_init 1029 = .ok (.bipush 119, 2) := q_bipush (bat_get dg_X12_init_1029_1029 0 rfl rfl) rfl
theorem dX12_init_1031 : decode cX12_init 1031 = .ok (.castore, 1) := q_castore (bat_get dg_X12_init_1029_1029 1 rfl rfl)
theorem dX12_init_1032 : decode cX12_init 1032 = .ok (.dup, 1) := q_dup (bat_get dg_X12_init_1029_1029 2 rfl rfl)
theorem dX12_init_1033 : decode cX12_init 1033 = .ok (.iconst 1, 1) := q_iconst1 (bat_get dg_X12_init_1029_1029 3 rfl rfl)
theorem dX12_init_1034 : decode cX12_init 1034 = .ok (.bipush 101, 2) := q_bipush (bat_get dg_X12_init_1029_1029 4 rfl rfl) rfl
theorem dX12_init_1036 : decode cX12_init 1036 = .ok (.castore, 1) := q_castore (bat_get dg_X12_init_1029_1029 5 rfl rfl)
theorem dX12_init_1037 : decode cX12_init 1037 = .ok (.dup, 1) := q_dup (bat_get dg_X12_init_1029_1029 6 rfl rfl)
theorem dX12_init_1038 : decode cX12_init 1038 = .ok (.iconst 2, 1) := q_iconst2 (bat_get dg_X12_init_1029_1029 7 rfl rfl)
theorem dX12_init_1039 : decode cX12_init 1039 = .ok (.bipush 101, 2) := q_bipush (bat_get dg_X12_init_1029_1029 8 rfl rfl) rfl
theorem dX12_init_1041 : decode cX12_init 1041 = .ok (.castore, 1) := q_castore (bat_get dg_X12_init_1029_1029 9 rfl rfl)
theorem dX12_init_1042 : decode cX12_init 1042 = .ok (.dup, 1) := q_dup (bat_get dg_X12_init_1029_1029 10 rfl rfl)
theorem dX12_init_1043 : decode cX12_init 1043 = .ok (.iconst 3, 1) := q_iconst3 (bat_get dg_X12_init_1029_1029 11 rfl rfl)
theorem dX12_init_1044 : decode cX12_init 1044 = .ok (.bipush 107, 2) := q_bipush (bat_get dg_X12_init_1029_1029 12 rfl rfl) rfl
theorem dX12_init_1046 : decode cX12_init 1046 = .ok (.castore, 1) := q_castore (bat_get dg_X12_init_1029_1029 13 rfl rfl)
theorem dX12_init_1047 : decode cX12_init 1047 = .ok (.dup, 1) := q_dup (bat_get dg_X12_init_1029_1029 14 rfl rfl)
theorem dX12_init_1048 : decode cX12_init 1048 = .ok (.iconst 4, 1) := q_iconst4 (bat_get dg_X12_init_1029_1029 15 rfl rfl)
theorem dX12_init_1049 : decode cX12_init 1049 = .ok (.bipush 115, 2) := q_bipush (bat_get dg_X12_init_1029_1029 16 rfl rfl) rfl
theorem dX12_init_1051 : decode cX12_init 1051 = .ok (.castore, 1) := q_castore (bat_get dg_X12_init_1029_1029 17 rfl rfl)
theorem dX12_init_1052 : decode cX12_init 1052 = .ok (.putfield 177, 3) := q_putfield (bat_get dg_X12_init_1029_1029 18 rfl rfl) rfl
theorem dX12_init_1055 : decode cX12_init 1055 = .ok (.aload_n 0, 1) := q_aload_n0 (bat_get dg_X12_init_1029_1029 19 rfl rfl)
theorem dX12_init_1056 : decode cX12_init 1056 = .ok (.sipush 1700, 3) := q_sipush (bat_get dg_X12_init_1029_1029 20 rfl rfl) rfl
theorem dX12_init_1059 : decode cX12_init 1059 = .ok (.newarray .int, 2) := q_newarray_int (bat_get dg_X12_init_1029_1029 21 rfl rfl)
theorem dX12_init_1061 : decode cX12_init 1061 = .ok (.putfield 180, 3) := q_putfield (bat_get dg_X12_init_1029_1029 22 rfl rfl) rfl
theorem dX12_init_1064 : decode cX12_init 1064 = .ok (.aload_n 0, 1) := q_aload_n0 (bat_get dg_X12_init_1029_1029 23 rfl rfl)
theorem dX12_init_1065 : decode cX12_init 1065 = .ok (.sipush 1700, 3) := q_sipush (bat_get dg_X12_init_1029_1029 24 rfl rfl) rfl
theorem dX12_init_1068 : decode cX12_init 1068 = .ok (.newarray .int, 2) := q_newarray_int (bat_get dg_X12_init_1029_1029 25 rfl rfl)
theorem dX12_init_1070 : decode cX12_init 1070 = .ok (.putfield 183, 3) := q_putfield (bat_get dg_X12_init_1029_1029 26 rfl rfl) rfl
theorem dX12_init_1073 : decode cX12_init 1073 = .ok (.aload_n 0, 1) := q_aload_n0 (bat_get dg_X12_init_1029_1029 27 rfl rfl)
theorem dX12_init_1074 : decode cX12_init 1074 = .ok (.sipush 1700, 3) := q_sipush (bat_get dg_X12_init_1029_1029 28 rfl rfl) rfl
theorem dX12_init_1077 : decode cX12_init 1077 = .ok (.newarray .long, 2) := q_newarray_long (bat_get dg_X12_init_1029_1029 29 rfl rfl)
theorem dX12_init_1079 : decode cX12_init 1079 = .ok (.putfield 186, 3) := q_putfield (bat_get dg_X12_init_1029_1029 30 rfl rfl) rfl
theorem dX12_init_1082 : decode cX12_init 1082 = .ok (.aload_n 0, 1) := q_aload_n0 (bat_get dg_X12_init_1029_1029 31 rfl rfl)
theorem dX12_init_1083 : decode cX12_init 1083 = .ok (.bipush 31, 2) := q_bipush (bat_get dg_X12_init_1029_1029 32 rfl rfl) rfl
theorem dX12_init_1085 : decode cX12_init 1085 = .ok (.newarray .int, 2) := q_newarray_int (bat_get dg_X12_init_1029_1029 33 rfl rfl)
theorem dX12_init_1087 : decode cX12_init 1087 = .ok (.putfield 189, 3) := q_putfield (bat_get dg_X12_init_1029_1029 34 rfl rfl) rfl
theorem dX12_init_1090 : decode cX12_init 1090 = .ok (.return_, 1) := q_return_ (bat_get dg_X12_init_1029_1029 35 rfl rfl)
theorem w_5_154 : (Cond.methodLink RX12 1 objectInit) ∈ wsL_law := sk_mem (ck_5 _ (List.mem_of_getElem? (i := 154) rfl)) rfl
