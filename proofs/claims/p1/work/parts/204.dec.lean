theorem dX11_isWord_8 : decode cX11_isWord 8 = .ok (.istore 5, 2) := by decide +kernel
theorem dX11_isWord_10 : decode cX11_isWord 10 = .ok (.aload_n 0, 1) := by decide +kernel
theorem dX11_isWord_11 : decode cX11_isWord 11 = .ok (.aload_n 0, 1) := by decide +kernel
theorem dX11_isWord_12 : decode cX11_isWord 12 = .ok (.getfield 97, 3) := by decide +kernel
theorem dX11_isWord_15 : decode cX11_isWord 15 = .ok (.iload 5, 2) := by decide +kernel
theorem dX11_isWord_17 : decode cX11_isWord 17 = .ok (.iadd, 1) := by decide +kernel
theorem dX11_isWord_18 : decode cX11_isWord 18 = .ok (.invokevirtual 104, 3) := by decide +kernel
theorem dX11_isWord_21 : decode cX11_isWord 21 = .ok (.ifCond .eq 35, 3) := by decide +kernel
theorem dX11_isWord_56 : decode cX11_isWord 56 = .ok (.iload 5, 2) := by decide +kernel
theorem dX11_isWord_58 : decode cX11_isWord 58 = .ok (.ifCond .le 20, 3) := by decide +kernel
theorem dX11_isWord_78 : decode cX11_isWord 78 = .ok (.iconst 0, 1) := by decide +kernel
theorem dX11_isWord_79 : decode cX11_isWord 79 = .ok (.ireturn, 1) := by decide +kernel
theorem dX11_keeps_0 : decode cX11_keeps 0 = .ok (.iconst 0, 1) := by decide +kernel
theorem dX11_keeps_1 : decode cX11_keeps 1 = .ok (.istore_n 1, 1) := by decide +kernel
theorem dX11_keeps_2 : decode cX11_keeps 2 = .ok (.iload_n 1, 1) := by decide +kernel
theorem dX11_keeps_3 : decode cX11_keeps 3 = .ok (.sipush 202, 3) := by decide +kernel
theorem dX11_keeps_6 : decode cX11_keeps 6 = .ok (.if_icmp .ge 21, 3) := by decide +kernel
theorem dX11_keeps_9 : decode cX11_keeps 9 = .ok (.aload_n 0, 1) := by decide +kernel
theorem dX11_keeps_10 : decode cX11_keeps 10 = .ok (.getfield 45, 3) := by decide +kernel
theorem dX11_keeps_13 : decode cX11_keeps 13 = .ok (.iload_n 1, 1) := by decide +kernel
theorem dX11_keeps_14 : decode cX11_keeps 14 = .ok (.aload_n 0, 1) := by decide +kernel
theorem dX11_keeps_15 : decode cX11_keeps 15 = .ok (.getfield 42, 3) := by decide +kernel
theorem dX11_keeps_18 : decode cX11_keeps 18 = .ok (.iload_n 1, 1) := by decide +kernel
theorem dX11_keeps_19 : decode cX11_keeps 19 = .ok (.iaload, 1) := by decide +kernel
theorem dX11_keeps_20 : decode cX11_keeps 20 = .ok (.iastore, 1) := by decide +kernel
theorem dX11_keeps_21 : decode cX11_keeps 21 = .ok (.iinc 1 1, 3) := by decide +kernel
theorem dX11_keeps_24 : decode cX11_keeps 24 = .ok (.goto (-22), 3) := by decide +kernel
theorem dX11_keeps_27 : decode cX11_keeps 27 = .ok (.return_, 1) := by decide +kernel
theorem dX11_land_0 : decode cX11_land 0 = .ok (.aload_n 0, 1) := by decide +kernel
theorem dX11_land_1 : decode cX11_land 1 = .ok (.bipush 6, 2) := by decide +kernel
theorem dX11_land_3 : decode cX11_land 3 = .ok (.putfield 153, 3) := by decide +kernel
theorem dX11_land_6 : decode cX11_land 6 = .ok (.aload_n 0, 1) := by decide +kernel
theorem dX11_land_7 : decode cX11_land 7 = .ok (.iconst 0, 1) := by decide +kernel
theorem dX11_land_8 : decode cX11_land 8 = .ok (.putfield 225, 3) := by decide +kernel
theorem dX11_land_11 : decode cX11_land 11 = .ok (.aload_n 0, 1) := by decide +kernel
theorem dX11_land_12 : decode cX11_land 12 = .ok (.iconst 0, 1) := by decide +kernel
theorem dX11_land_13 : decode cX11_land 13 = .ok (.putfield 228, 3) := by decide +kernel
theorem dX11_land_16 : decode cX11_land 16 = .ok (.aload_n 0, 1) := by decide +kernel
theorem dX11_land_17 : decode cX11_land 17 = .ok (.invokevirtual 253, 3) := by decide +kernel
theorem dX11_land_20 : decode cX11_land 20 = .ok (.ifCond .ne 11, 3) := by decide +kernel
theorem dX11_land_23 : decode cX11_land 23 = .ok (.bipush (-2), 2) := by decide +kernel
theorem dX11_land_25 : decode cX11_land 25 = .ok (.aload_n 0, 1) := by decide +kernel
theorem dX11_land_26 : decode cX11_land 26 = .ok (.getfield 94, 3) := by decide +kernel
theorem dX11_land_29 : decode cX11_land 29 = .ok (.isub, 1) := by decide +kernel
theorem dX11_land_30 : decode cX11_land 30 = .ok (.ireturn, 1) := by decide +kernel
theorem dX11_leading_0 : decode cX11_leading 0 = .ok (.iconst 0, 1) := by decide +kernel
theorem dX11_leading_1 : decode cX11_leading 1 = .ok (.istore 4, 2) := by decide +kernel
theorem dX11_leading_3 : decode cX11_leading 3 = .ok (.iconst 0, 1) := by decide +kernel
theorem dX11_leading_4 : decode cX11_leading 4 = .ok (.istore 5, 2) := by decide +kernel
theorem dX11_leading_6 : decode cX11_leading 6 = .ok (.iload 5, 2) := by decide +kernel
theorem dX11_leading_8 : decode cX11_leading 8 = .ok (.aload_n 0, 1) := by decide +kernel
theorem dX11_leading_9 : decode cX11_leading 9 = .ok (.getfield 42, 3) := by decide +kernel
theorem dX11_leading_12 : decode cX11_leading 12 = .ok (.iconst 0, 1) := by decide +kernel
theorem dX11_leading_13 : decode cX11_leading 13 = .ok (.iaload, 1) := by decide +kernel
theorem dX11_leading_14 : decode cX11_leading 14 = .ok (.if_icmp .ge 31, 3) := by decide +kernel
theorem dX11_leading_45 : decode cX11_leading 45 = .ok (.iload 4, 2) := by decide +kernel
theorem dX11_leading_47 : decode cX11_leading 47 = .ok (.ireturn, 1) := by decide +kernel
theorem dX11_longest_0 : decode cX11_longest 0 = .ok (.aload_n 0, 1) := by decide +kernel
theorem dX11_longest_1 : decode cX11_longest 1 = .ok (.iload_n 1, 1) := by decide +kernel
theorem dX11_longest_2 : decode cX11_longest 2 = .ok (.invokevirtual 379, 3) := by decide +kernel
theorem dX11_longest_5 : decode cX11_longest 5 = .ok (.ifCond .eq 27, 3) := by decide +kernel
theorem dX11_longest_32 : decode cX11_longest 32 = .ok (.iconst (-1), 1) := by decide +kernel
theorem dX11_longest_33 : decode cX11_longest 33 = .ok (.ireturn, 1) := by decide +kernel
theorem dX11_place_0 : decode cX11_place 0 = .ok (.iload_n 1, 1) := by decide +kernel
theorem dX11_place_1 : decode cX11_place 1 = .ok (.invokestatic 299, 3) := by decide +kernel
theorem dX11_place_4 : decode cX11_place 4 = .ok (.ifCond .eq 15, 3) := by decide +kernel
theorem dX11_place_7 : decode cX11_place 7 = .ok (.iload_n 2, 1) := by decide +kernel
theorem dX11_place_8 : decode cX11_place 8 = .ok (.i2l, 1) := by decide +kernel
theorem dX11_place_9 : decode cX11_place 9 = .ok (.lconst 0, 1) := by decide +kernel
theorem dX11_place_10 : decode cX11_place 10 = .ok (.ldc2_w 302, 3) := by decide +kernel
theorem dX11_place_13 : decode cX11_place 13 = .ok (.invokestatic 125, 3) := by decide +kernel
theorem dX11_place_16 : decode cX11_place 16 = .ok (.ifCond .ne 6, 3) := by decide +kernel
theorem dX11_place_19 : decode cX11_place 19 = .ok (.bipush (-100), 2) := by decide +kernel
theorem dX11_place_21 : decode cX11_place 21 = .ok (.ireturn, 1) := by decide +kernel
theorem dX11_place_22 : decode cX11_place 22 = .ok (.iload_n 2, 1) := by decide +kernel
theorem dX11_place_23 : decode cX11_place 23 = .ok (.iconst 2, 1) := by decide +kernel
theorem dX11_place_24 : decode cX11_place 24 = .ok (.if_icmp .ge 16, 3) := by decide +kernel
theorem dX11_place_27 : decode cX11_place 27 = .ok (.aload_n 0, 1) := by decide +kernel
theorem dX11_place_28 : decode cX11_place 28 = .ok (.aload_n 0, 1) := by decide +kernel
theorem dX11_place_29 : decode cX11_place 29 = .ok (.getfield 42, 3) := by decide +kernel
theorem dX11_place_32 : decode cX11_place 32 = .ok (.iconst 2, 1) := by decide +kernel
theorem dX11_place_33 : decode cX11_place 33 = .ok (.iaload, 1) := by decide +kernel
theorem dX11_place_34 : decode cX11_place 34 = .ok (.iload_n 1, 1) := by decide +kernel
theorem dX11_place_35 : decode cX11_place 35 = .ok (.iload_n 2, 1) := by decide +kernel
theorem dX11_place_36 : decode cX11_place 36 = .ok (.invokevirtual 304, 3) := by decide +kernel
theorem dX11_place_39 : decode cX11_place 39 = .ok (.ireturn, 1) := by decide +kernel
theorem dX11_place_40 : decode cX11_place 40 = .ok (.iload_n 2, 1) := by decide +kernel
theorem dX11_place_41 : decode cX11_place 41 = .ok (.iconst 2, 1) := by decide +kernel
theorem dX11_place_42 : decode cX11_place 42 = .ok (.if_icmp .ne 9, 3) := by decide +kernel
theorem dX11_place_45 : decode cX11_place 45 = .ok (.aload_n 0, 1) := by decide +kernel
theorem dX11_place_46 : decode cX11_place 46 = .ok (.iload_n 1, 1) := by decide +kernel
theorem dX11_place_47 : decode cX11_place 47 = .ok (.invokevirtual 307, 3) := by decide +kernel
theorem dX11_place_50 : decode cX11_place 50 = .ok (.ireturn, 1) := by decide +kernel
theorem dX11_place_51 : decode cX11_place 51 = .ok (.iload_n 2, 1) := by decide +kernel
theorem dX11_place_52 : decode cX11_place 52 = .ok (.iconst 3, 1) := by decide +kernel
theorem dX11_place_53 : decode cX11_place 53 = .ok (.if_icmp .ne 22, 3) := by decide +kernel
theorem dX11_place_56 : decode cX11_place 56 = .ok (.aload_n 0, 1) := by decide +kernel
theorem dX11_place_57 : decode cX11_place 57 = .ok (.aload_n 0, 1) := by decide +kernel
theorem dX11_place_58 : decode cX11_place 58 = .ok (.getfield 42, 3) := by decide +kernel
theorem dX11_place_61 : decode cX11_place 61 = .ok (.iconst 2, 1) := by decide +kernel
theorem dX11_place_62 : decode cX11_place 62 = .ok (.iaload, 1) := by decide +kernel
theorem dX11_place_63 : decode cX11_place 63 = .ok (.iload_n 1, 1) := by decide +kernel
theorem dX11_place_64 : decode cX11_place 64 = .ok (.iconst 0, 1) := by decide +kernel
theorem dX11_place_65 : decode cX11_place 65 = .ok (.invokevirtual 304, 3) := by decide +kernel
theorem dX11_place_68 : decode cX11_place 68 = .ok (.aload_n 0, 1) := by decide +kernel
theorem dX11_place_69 : decode cX11_place 69 = .ok (.iload_n 1, 1) := by decide +kernel
theorem dX11_place_70 : decode cX11_place 70 = .ok (.invokevirtual 307, 3) := by decide +kernel
theorem dX11_place_73 : decode cX11_place 73 = .ok (.isub, 1) := by decide +kernel
theorem dX11_place_74 : decode cX11_place 74 = .ok (.ireturn, 1) := by decide +kernel
theorem dX11_place_75 : decode cX11_place 75 = .ok (.aload_n 0, 1) := by decide +kernel
theorem dX11_place_76 : decode cX11_place 76 = .ok (.iload_n 1, 1) := by decide +kernel
theorem dX11_place_77 : decode cX11_place 77 = .ok (.invokevirtual 310, 3) := by decide +kernel
theorem dX11_place_80 : decode cX11_place 80 = .ok (.iconst 0, 1) := by decide +kernel
theorem dX11_place_81 : decode cX11_place 81 = .ok (.istore_n 3, 1) := by decide +kernel
theorem dX11_place_82 : decode cX11_place 82 = .ok (.iconst 0, 1) := by decide +kernel
theorem dX11_place_83 : decode cX11_place 83 = .ok (.istore 4, 2) := by decide +kernel
theorem dX11_place_85 : decode cX11_place 85 = .ok (.iload 4, 2) := by decide +kernel
theorem dX11_place_87 : decode cX11_place 87 = .ok (.bipush 8, 2) := by decide +kernel
theorem dX11_place_89 : decode cX11_place 89 = .ok (.if_icmp .ge 30, 3) := by decide +kernel
theorem dX11_place_92 : decode cX11_place 92 = .ok (.iload_n 3, 1) := by decide +kernel
theorem dX11_place_93 : decode cX11_place 93 = .ok (.aload_n 0, 1) := by decide +kernel
theorem dX11_place_94 : decode cX11_place 94 = .ok (.getfield 48, 3) := by decide +kernel
theorem dX11_place_97 : decode cX11_place 97 = .ok (.iload 4, 2) := by decide +kernel
theorem dX11_place_99 : decode cX11_place 99 = .ok (.iaload, 1) := by decide +kernel
theorem dX11_place_100 : decode cX11_place 100 = .ok (.ifCond .lt 10, 3) := by decide +kernel
theorem dX11_place_103 : decode cX11_place 103 = .ok (.iconst 1, 1) := by decide +kernel
theorem dX11_place_104 : decode cX11_place 104 = .ok (.iload 4, 2) := by decide +kernel
theorem dX11_place_106 : decode cX11_place 106 = .ok (.ishl, 1) := by decide +kernel
theorem dX11_place_107 : decode cX11_place 107 = .ok (.goto 4, 3) := by decide +kernel
theorem dX11_place_110 : decode cX11_place 110 = .ok (.iconst 0, 1) := by decide +kernel
theorem dX11_place_111 : decode cX11_place 111 = .ok (.ior, 1) := by decide +kernel
theorem dX11_place_112 : decode cX11_place 112 = .ok (.istore_n 3, 1) := by decide +kernel
theorem dX11_place_113 : decode cX11_place 113 = .ok (.iinc 4 1, 3) := by decide +kernel
theorem dX11_place_116 : decode cX11_place 116 = .ok (.goto (-31), 3) := by decide +kernel
theorem dX11_place_119 : decode cX11_place 119 = .ok (.iload_n 3, 1) := by decide +kernel
theorem dX11_place_120 : decode cX11_place 120 = .ok (.ireturn, 1) := by decide +kernel
theorem dX11_post_0 : decode cX11_post 0 = .ok (.aload_n 0, 1) := by decide +kernel
theorem dX11_post_1 : decode cX11_post 1 = .ok (.iload_n 1, 1) := by decide +kernel
theorem dX11_post_2 : decode cX11_post 2 = .ok (.invokevirtual 313, 3) := by decide +kernel
theorem dX11_post_5 : decode cX11_post 5 = .ok (.ifCond .eq 26, 3) := by decide +kernel
theorem dX11_post_31 : decode cX11_post 31 = .ok (.iconst (-1), 1) := by decide +kernel
theorem dX11_post_32 : decode cX11_post 32 = .ok (.ireturn, 1) := by decide +kernel
theorem dX11_readsAll_0 : decode cX11_readsAll 0 = .ok (.aload_n 0, 1) := by decide +kernel
theorem dX11_readsAll_1 : decode cX11_readsAll 1 = .ok (.getfield 17, 3) := by decide +kernel
theorem dX11_readsAll_4 : decode cX11_readsAll 4 = .ok (.aload_n 0, 1) := by decide +kernel
theorem dX11_readsAll_5 : decode cX11_readsAll 5 = .ok (.getfield 153, 3) := by decide +kernel
theorem dX11_readsAll_8 : decode cX11_readsAll 8 = .ok (.iconst 0, 1) := by decide +kernel
theorem dX11_readsAll_9 : decode cX11_readsAll 9 = .ok (.iastore, 1) := by decide +kernel
theorem dX11_readsAll_10 : decode cX11_readsAll 10 = .ok (.aload_n 0, 1) := by decide +kernel
theorem dX11_readsAll_11 : decode cX11_readsAll 11 = .ok (.iconst 0, 1) := by decide +kernel
theorem dX11_readsAll_12 : decode cX11_readsAll 12 = .ok (.putfield 235, 3) := by decide +kernel
theorem dX11_readsAll_15 : decode cX11_readsAll 15 = .ok (.aload_n 0, 1) := by decide +kernel
theorem dX11_readsAll_16 : decode cX11_readsAll 16 = .ok (.iconst 0, 1) := by decide +kernel
theorem dX11_readsAll_17 : decode cX11_readsAll 17 = .ok (.putfield 97, 3) := by decide +kernel
theorem dX11_readsAll_20 : decode cX11_readsAll 20 = .ok (.aload_n 0, 1) := by decide +kernel
theorem dX11_readsAll_21 : decode cX11_readsAll 21 = .ok (.iconst 0, 1) := by decide +kernel
theorem dX11_readsAll_22 : decode cX11_readsAll 22 = .ok (.putfield 94, 3) := by decide +kernel
theorem dX11_readsAll_25 : decode cX11_readsAll 25 = .ok (.aload_n 0, 1) := by decide +kernel
theorem dX11_readsAll_26 : decode cX11_readsAll 26 = .ok (.iconst 0, 1) := by decide +kernel
theorem dX11_readsAll_27 : decode cX11_readsAll 27 = .ok (.putfield 156, 3) := by decide +kernel
theorem dX11_readsAll_30 : decode cX11_readsAll 30 = .ok (.aload_n 0, 1) := by decide +kernel
theorem dX11_readsAll_31 : decode cX11_readsAll 31 = .ok (.invokevirtual 247, 3) := by decide +kernel
theorem dX11_readsAll_34 : decode cX11_readsAll 34 = .ok (.istore_n 1, 1) := by decide +kernel
theorem dX11_readsAll_35 : decode cX11_readsAll 35 = .ok (.iload_n 1, 1) := by decide +kernel
theorem dX11_readsAll_36 : decode cX11_readsAll 36 = .ok (.ifCond .eq 30, 3) := by decide +kernel
theorem dX11_readsAll_66 : decode cX11_readsAll 66 = .ok (.iload_n 1, 1) := by decide +kernel
theorem dX11_readsAll_67 : decode cX11_readsAll 67 = .ok (.ifCond .eq 21, 3) := by decide +kernel
theorem dX11_readsAll_88 : decode cX11_readsAll 88 = .ok (.aload_n 0, 1) := by decide +kernel
theorem dX11_readsAll_89 : decode cX11_readsAll 89 = .ok (.iconst 0, 1) := by decide +kernel
theorem dX11_readsAll_90 : decode cX11_readsAll 90 = .ok (.putfield 86, 3) := by decide +kernel
theorem dX11_readsAll_93 : decode cX11_readsAll 93 = .ok (.aload_n 0, 1) := by decide +kernel
theorem dX11_readsAll_94 : decode cX11_readsAll 94 = .ok (.getfield 94, 3) := by decide +kernel
theorem dX11_readsAll_97 : decode cX11_readsAll 97 = .ok (.ifCond .ne 7, 3) := by decide +kernel
theorem dX11_readsAll_104 : decode cX11_readsAll 104 = .ok (.iconst 0, 1) := by decide +kernel
theorem dX11_readsAll_105 : decode cX11_readsAll 105 = .ok (.ireturn, 1) := by decide +kernel
theorem dX11_row_0 : decode cX11_row 0 = .ok (.iload_n 1, 1) := by decide +kernel
theorem dX11_row_1 : decode cX11_row 1 = .ok (.iconst (-1), 1) := by decide +kernel
theorem dX11_row_2 : decode cX11_row 2 = .ok (.if_icmp .ne 13, 3) := by decide +kernel
theorem dX11_row_5 : decode cX11_row 5 = .ok (.aload_n 0, 1) := by decide +kernel
theorem dX11_row_6 : decode cX11_row 6 = .ok (.getfield 42, 3) := by decide +kernel
theorem dX11_row_9 : decode cX11_row 9 = .ok (.bipush 6, 2) := by decide +kernel
theorem dX11_row_11 : decode cX11_row 11 = .ok (.iconst 0, 1) := by decide +kernel
theorem dX11_row_12 : decode cX11_row 12 = .ok (.iastore, 1) := by decide +kernel
theorem dX11_row_13 : decode cX11_row 13 = .ok (.iconst 0, 1) := by decide +kernel
theorem dX11_row_14 : decode cX11_row 14 = .ok (.ireturn, 1) := by decide +kernel
theorem dX11_row_15 : decode cX11_row 15 = .ok (.aload_n 0, 1) := by decide +kernel
theorem dX11_row_16 : decode cX11_row 16 = .ok (.iload_n 1, 1) := by decide +kernel
theorem dX11_row_17 : decode cX11_row 17 = .ok (.invokevirtual 282, 3) := by decide +kernel
theorem dX11_row_20 : decode cX11_row 20 = .ok (.ifCond .eq 23, 3) := by decide +kernel
theorem dX11_row_43 : decode cX11_row 43 = .ok (.bipush (-2), 2) := by decide +kernel
theorem dX11_row_45 : decode cX11_row 45 = .ok (.ireturn, 1) := by decide +kernel
theorem dX11_rowBegins_0 : decode cX11_rowBegins 0 = .ok (.aload_n 0, 1) := by decide +kernel
theorem dX11_rowBegins_1 : decode cX11_rowBegins 1 = .ok (.aload_n 0, 1) := by decide +kernel
theorem dX11_rowBegins_2 : decode cX11_rowBegins 2 = .ok (.getfield 42, 3) := by decide +kernel
theorem dX11_rowBegins_5 : decode cX11_rowBegins 5 = .ok (.iconst 2, 1) := by decide +kernel
theorem dX11_rowBegins_6 : decode cX11_rowBegins 6 = .ok (.iaload, 1) := by decide +kernel
theorem dX11_rowBegins_7 : decode cX11_rowBegins 7 = .ok (.putfield 400, 3) := by decide +kernel
theorem dX11_rowBegins_10 : decode cX11_rowBegins 10 = .ok (.iconst 0, 1) := by decide +kernel
theorem dX11_rowBegins_11 : decode cX11_rowBegins 11 = .ok (.istore_n 1, 1) := by decide +kernel
theorem dX11_rowBegins_12 : decode cX11_rowBegins 12 = .ok (.iload_n 1, 1) := by decide +kernel
theorem dX11_rowBegins_13 : decode cX11_rowBegins 13 = .ok (.aload_n 0, 1) := by decide +kernel
theorem dX11_rowBegins_14 : decode cX11_rowBegins 14 = .ok (.getfield 42, 3) := by decide +kernel
theorem dX11_rowBegins_17 : decode cX11_rowBegins 17 = .ok (.iconst 1, 1) := by decide +kernel
theorem dX11_rowBegins_18 : decode cX11_rowBegins 18 = .ok (.iaload, 1) := by decide +kernel
theorem dX11_rowBegins_19 : decode cX11_rowBegins 19 = .ok (.if_icmp .ge 21, 3) := by decide +kernel
theorem dX11_rowBegins_40 : decode cX11_rowBegins 40 = .ok (.return_, 1) := by decide +kernel
theorem dX11_rule_0 : decode cX11_rule 0 = .ok (.aload_n 0, 1) := by decide +kernel
theorem dX11_rule_1 : decode cX11_rule 1 = .ok (.getfield 250, 3) := by decide +kernel
theorem dX11_rule_4 : decode cX11_rule 4 = .ok (.bipush 6, 2) := by decide +kernel
theorem dX11_rule_6 : decode cX11_rule 6 = .ok (.if_icmp .ne 5, 3) := by decide +kernel
theorem dX11_rule_11 : decode cX11_rule 11 = .ok (.aload_n 0, 1) := by decide +kernel
theorem dX11_rule_12 : decode cX11_rule 12 = .ok (.aload_n 0, 1) := by decide +kernel
theorem dX11_rule_13 : decode cX11_rule 13 = .ok (.getfield 250, 3) := by decide +kernel
theorem dX11_rule_16 : decode cX11_rule 16 = .ok (.putfield 153, 3) := by decide +kernel
theorem dX11_rule_19 : decode cX11_rule 19 = .ok (.aload_n 0, 1) := by decide +kernel
theorem dX11_rule_20 : decode cX11_rule 20 = .ok (.getfield 23, 3) := by decide +kernel
theorem dX11_rule_23 : decode cX11_rule 23 = .ok (.aload_n 0, 1) := by decide +kernel
theorem dX11_rule_24 : decode cX11_rule 24 = .ok (.getfield 153, 3) := by decide +kernel
theorem dX11_rule_27 : decode cX11_rule 27 = .ok (.iconst 0, 1) := by decide +kernel
theorem dX11_rule_28 : decode cX11_rule 28 = .ok (.iastore, 1) := by decide +kernel
theorem dX11_rule_29 : decode cX11_rule 29 = .ok (.aload_n 0, 1) := by decide +kernel
theorem dX11_rule_30 : decode cX11_rule 30 = .ok (.invokevirtual 253, 3) := by decide +kernel
theorem dX11_rule_33 : decode cX11_rule 33 = .ok (.ifCond .ne 11, 3) := by decide +kernel
theorem dX11_rule_36 : decode cX11_rule 36 = .ok (.bipush (-2), 2) := by decide +kernel
theorem dX11_rule_38 : decode cX11_rule 38 = .ok (.aload_n 0, 1) := by decide +kernel
theorem dX11_rule_39 : decode cX11_rule 39 = .ok (.getfield 94, 3) := by decide +kernel
theorem dX11_rule_42 : decode cX11_rule 42 = .ok (.isub, 1) := by decide +kernel
theorem dX11_rule_43 : decode cX11_rule 43 = .ok (.ireturn, 1) := by decide +kernel
theorem dX11_see_0 : decode cX11_see 0 = .ok (.aload_n 0, 1) := by decide +kernel
theorem dX11_see_1 : decode cX11_see 1 = .ok (.getfield 97, 3) := by decide +kernel
theorem dX11_see_4 : decode cX11_see 4 = .ok (.aload_n 0, 1) := by decide +kernel
theorem dX11_see_5 : decode cX11_see 5 = .ok (.getfield 86, 3) := by decide +kernel
theorem dX11_see_8 : decode cX11_see 8 = .ok (.if_icmp .ge 30, 3) := by decide +kernel
theorem dX11_see_38 : decode cX11_see 38 = .ok (.aload_n 0, 1) := by decide +kernel
theorem dX11_see_39 : decode cX11_see 39 = .ok (.getfield 97, 3) := by decide +kernel
theorem dX11_see_42 : decode cX11_see 42 = .ok (.aload_n 0, 1) := by decide +kernel
theorem dX11_see_43 : decode cX11_see 43 = .ok (.getfield 86, 3) := by decide +kernel
theorem dX11_see_46 : decode cX11_see 46 = .ok (.if_icmp .ge 19, 3) := by decide +kernel
theorem dX11_see_65 : decode cX11_see 65 = .ok (.iconst (-1), 1) := by decide +kernel
theorem dX11_see_66 : decode cX11_see 66 = .ok (.ireturn, 1) := by decide +kernel
theorem dX11_seed_0 : decode cX11_seed 0 = .ok (.iload_n 1, 1) := by decide +kernel
theorem dX11_seed_1 : decode cX11_seed 1 = .ok (.ifCond .ge 5, 3) := by decide +kernel
theorem dX11_seed_4 : decode cX11_seed 4 = .ok (.iconst (-1), 1) := by decide +kernel
theorem dX11_seed_5 : decode cX11_seed 5 = .ok (.ireturn, 1) := by decide +kernel
theorem dX11_seed_6 : decode cX11_seed 6 = .ok (.aload_n 0, 1) := by decide +kernel
theorem dX11_seed_7 : decode cX11_seed 7 = .ok (.getfield 42, 3) := by decide +kernel
theorem dX11_seed_10 : decode cX11_seed 10 = .ok (.bipush 7, 2) := by decide +kernel
theorem dX11_seed_12 : decode cX11_seed 12 = .ok (.iaload, 1) := by decide +kernel
theorem dX11_seed_13 : decode cX11_seed 13 = .ok (.istore_n 2, 1) := by decide +kernel
theorem dX11_seed_14 : decode cX11_seed 14 = .ok (.aload_n 0, 1) := by decide +kernel
theorem dX11_seed_15 : decode cX11_seed 15 = .ok (.getfield 42, 3) := by decide +kernel
theorem dX11_seed_18 : decode cX11_seed 18 = .ok (.bipush 7, 2) := by decide +kernel
theorem dX11_seed_20 : decode cX11_seed 20 = .ok (.iload_n 1, 1) := by decide +kernel
theorem dX11_seed_21 : decode cX11_seed 21 = .ok (.iastore, 1) := by decide +kernel
theorem dX11_seed_22 : decode cX11_seed 22 = .ok (.iload_n 2, 1) := by decide +kernel
theorem dX11_seed_23 : decode cX11_seed 23 = .ok (.ireturn, 1) := by decide +kernel
theorem dX11_settles__0 : decode cX11_settles_ 0 = .ok (.aload_n 0, 1) := by decide +kernel
theorem dX11_settles__1 : decode cX11_settles_ 1 = .ok (.iload_n 1, 1) := by decide +kernel
theorem dX11_settles__2 : decode cX11_settles_ 2 = .ok (.invokevirtual 379, 3) := by decide +kernel
theorem dX11_settles__5 : decode cX11_settles_ 5 = .ok (.ifCond .eq 13, 3) := by decide +kernel
theorem dX11_settles__18 : decode cX11_settles_ 18 = .ok (.iconst (-1), 1) := by decide +kernel
theorem dX11_settles__19 : decode cX11_settles_ 19 = .ok (.ireturn, 1) := by decide +kernel
theorem dX11_spreads_0 : decode cX11_spreads 0 = .ok (.iconst 0, 1) := by decide +kernel
theorem dX11_spreads_1 : decode cX11_spreads 1 = .ok (.istore_n 2, 1) := by decide +kernel
theorem dX11_spreads_2 : decode cX11_spreads 2 = .ok (.iload_n 2, 1) := by decide +kernel
theorem dX11_spreads_3 : decode cX11_spreads 3 = .ok (.bipush 8, 2) := by decide +kernel
theorem dX11_spreads_5 : decode cX11_spreads 5 = .ok (.if_icmp .ge 16, 3) := by decide +kernel
theorem dX11_spreads_8 : decode cX11_spreads 8 = .ok (.aload_n 0, 1) := by decide +kernel
theorem dX11_spreads_9 : decode cX11_spreads 9 = .ok (.getfield 48, 3) := by decide +kernel
theorem dX11_spreads_12 : decode cX11_spreads 12 = .ok (.iload_n 2, 1) := by decide +kernel
theorem dX11_spreads_13 : decode cX11_spreads 13 = .ok (.iconst (-1), 1) := by decide +kernel
theorem dX11_spreads_14 : decode cX11_spreads 14 = .ok (.iastore, 1) := by decide +kernel
theorem dX11_spreads_15 : decode cX11_spreads 15 = .ok (.iinc 2 1, 3) := by decide +kernel
theorem dX11_spreads_18 : decode cX11_spreads 18 = .ok (.goto (-16), 3) := by decide +kernel
theorem dX11_spreads_21 : decode cX11_spreads 21 = .ok (.aload_n 0, 1) := by decide +kernel
theorem dX11_spreads_22 : decode cX11_spreads 22 = .ok (.getfield 48, 3) := by decide +kernel
theorem dX11_spreads_25 : decode cX11_spreads 25 = .ok (.iload_n 1, 1) := by decide +kernel
theorem dX11_spreads_26 : decode cX11_spreads 26 = .ok (.iconst 0, 1) := by decide +kernel
theorem dX11_spreads_27 : decode cX11_spreads 27 = .ok (.iastore, 1) := by decide +kernel
theorem dX11_spreads_28 : decode cX11_spreads 28 = .ok (.iconst 1, 1) := by decide +kernel
theorem dX11_spreads_29 : decode cX11_spreads 29 = .ok (.istore_n 2, 1) := by decide +kernel
theorem dX11_spreads_30 : decode cX11_spreads 30 = .ok (.iload_n 2, 1) := by decide +kernel
theorem dX11_spreads_31 : decode cX11_spreads 31 = .ok (.ifCond .eq 114, 3) := by decide +kernel
theorem dX11_spreads_34 : decode cX11_spreads 34 = .ok (.iconst 0, 1) := by decide +kernel
theorem dX11_spreads_35 : decode cX11_spreads 35 = .ok (.istore_n 2, 1) := by decide +kernel
theorem dX11_spreads_36 : decode cX11_spreads 36 = .ok (.iconst 0, 1) := by decide +kernel
theorem dX11_spreads_37 : decode cX11_spreads 37 = .ok (.istore_n 3, 1) := by decide +kernel
theorem dX11_spreads_38 : decode cX11_spreads 38 = .ok (.iload_n 3, 1) := by decide +kernel
theorem dX11_spreads_39 : decode cX11_spreads 39 = .ok (.aload_n 0, 1) := by decide +kernel
theorem dX11_spreads_40 : decode cX11_spreads 40 = .ok (.getfield 42, 3) := by decide +kernel
theorem dX11_spreads_43 : decode cX11_spreads 43 = .ok (.iconst 0, 1) := by decide +kernel
theorem dX11_spreads_44 : decode cX11_spreads 44 = .ok (.iaload, 1) := by decide +kernel
theorem dX11_spreads_45 : decode cX11_spreads 45 = .ok (.if_icmp .ge 97, 3) := by decide +kernel
theorem dX11_spreads_142 : decode cX11_spreads 142 = .ok (.goto (-112), 3) := by decide +kernel
theorem dX11_spreads_145 : decode cX11_spreads 145 = .ok (.return_, 1) := by decide +kernel
theorem dX11_standing_0 : decode cX11_standing 0 = .ok (.iconst 0, 1) := by decide +kernel
theorem dX11_standing_1 : decode cX11_standing 1 = .ok (.istore_n 2, 1) := by decide +kernel
theorem dX11_standing_2 : decode cX11_standing 2 = .ok (.iconst 0, 1) := by decide +kernel
theorem dX11_standing_3 : decode cX11_standing 3 = .ok (.istore_n 3, 1) := by decide +kernel
theorem dX11_standing_4 : decode cX11_standing 4 = .ok (.iload_n 3, 1) := by decide +kernel
