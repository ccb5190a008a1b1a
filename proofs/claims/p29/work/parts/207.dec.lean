theorem dX11_free_55 : decode cX11_free 55 = .ok (.aload_n 0, 1) := by decide +kernel
theorem dX11_free_56 : decode cX11_free 56 = .ok (.iload_n 1, 1) := by decide +kernel
theorem dX11_free_57 : decode cX11_free 57 = .ok (.invokevirtual 409, 3) := by decide +kernel
theorem dX11_free_60 : decode cX11_free 60 = .ok (.pop, 1) := by decide +kernel
theorem dX11_free_61 : decode cX11_free 61 = .ok (.aload_n 0, 1) := by decide +kernel
theorem dX11_free_62 : decode cX11_free 62 = .ok (.iload_n 1, 1) := by decide +kernel
theorem dX11_free_63 : decode cX11_free 63 = .ok (.iconst 1, 1) := by decide +kernel
theorem dX11_free_64 : decode cX11_free 64 = .ok (.iadd, 1) := by decide +kernel
theorem dX11_free_65 : decode cX11_free 65 = .ok (.invokevirtual 406, 3) := by decide +kernel
theorem dX11_free_68 : decode cX11_free 68 = .ok (.ifCond .eq 24, 3) := by decide +kernel
theorem dX11_free_71 : decode cX11_free 71 = .ok (.aload_n 0, 1) := by decide +kernel
theorem dX11_free_72 : decode cX11_free 72 = .ok (.iload_n 1, 1) := by decide +kernel
theorem dX11_free_73 : decode cX11_free 73 = .ok (.invokevirtual 406, 3) := by decide +kernel
theorem dX11_free_76 : decode cX11_free 76 = .ok (.ifCond .eq 16, 3) := by decide +kernel
theorem dX11_free_79 : decode cX11_free 79 = .ok (.aload_n 0, 1) := by decide +kernel
theorem dX11_free_80 : decode cX11_free 80 = .ok (.invokevirtual 412, 3) := by decide +kernel
theorem dX11_free_83 : decode cX11_free 83 = .ok (.lload_n 2, 1) := by decide +kernel
theorem dX11_free_84 : decode cX11_free 84 = .ok (.lcmp, 1) := by decide +kernel
theorem dX11_free_85 : decode cX11_free 85 = .ok (.ifCond .ne 7, 3) := by decide +kernel
theorem dX11_free_88 : decode cX11_free 88 = .ok (.iconst 1, 1) := by decide +kernel
theorem dX11_free_89 : decode cX11_free 89 = .ok (.goto 4, 3) := by decide +kernel
theorem dX11_free_92 : decode cX11_free 92 = .ok (.iconst 0, 1) := by decide +kernel
theorem dX11_free_93 : decode cX11_free 93 = .ok (.ireturn, 1) := by decide +kernel
theorem dX11_go_0 : decode cX11_go 0 = .ok (.aload_n 0, 1) := by decide +kernel
theorem dX11_go_1 : decode cX11_go 1 = .ok (.iload_n 1, 1) := by decide +kernel
theorem dX11_go_2 : decode cX11_go 2 = .ok (.iload_n 2, 1) := by decide +kernel
theorem dX11_go_3 : decode cX11_go 3 = .ok (.invokevirtual 316, 3) := by decide +kernel
theorem dX11_go_6 : decode cX11_go 6 = .ok (.ifCond .ne 5, 3) := by decide +kernel
theorem dX11_go_9 : decode cX11_go 9 = .ok (.iconst (-1), 1) := by decide +kernel
theorem dX11_go_10 : decode cX11_go 10 = .ok (.ireturn, 1) := by decide +kernel
theorem dX11_go_11 : decode cX11_go 11 = .ok (.aload_n 0, 1) := by decide +kernel
theorem dX11_go_12 : decode cX11_go 12 = .ok (.iload_n 1, 1) := by decide +kernel
theorem dX11_go_13 : decode cX11_go 13 = .ok (.iload_n 2, 1) := by decide +kernel
theorem dX11_go_14 : decode cX11_go 14 = .ok (.aload_n 0, 1) := by decide +kernel
theorem dX11_go_15 : decode cX11_go 15 = .ok (.aload_n 0, 1) := by decide +kernel
theorem dX11_go_16 : decode cX11_go 16 = .ok (.getfield 42, 3) := by decide +kernel
theorem dX11_go_19 : decode cX11_go 19 = .ok (.iconst 2, 1) := by decide +kernel
theorem dX11_go_20 : decode cX11_go 20 = .ok (.iaload, 1) := by decide +kernel
theorem dX11_go_21 : decode cX11_go 21 = .ok (.iload_n 2, 1) := by decide +kernel
theorem dX11_go_22 : decode cX11_go 22 = .ok (.iconst 1, 1) := by decide +kernel
theorem dX11_go_23 : decode cX11_go 23 = .ok (.invokevirtual 285, 3) := by decide +kernel
theorem dX11_go_26 : decode cX11_go 26 = .ok (.aload_n 0, 1) := by decide +kernel
theorem dX11_go_27 : decode cX11_go 27 = .ok (.getfield 42, 3) := by decide +kernel
theorem dX11_go_30 : decode cX11_go 30 = .ok (.iconst 4, 1) := by decide +kernel
theorem dX11_go_31 : decode cX11_go 31 = .ok (.iaload, 1) := by decide +kernel
theorem dX11_go_32 : decode cX11_go 32 = .ok (.invokevirtual 319, 3) := by decide +kernel
theorem dX11_go_35 : decode cX11_go 35 = .ok (.aload_n 0, 1) := by decide +kernel
theorem dX11_go_36 : decode cX11_go 36 = .ok (.iload_n 1, 1) := by decide +kernel
theorem dX11_go_37 : decode cX11_go 37 = .ok (.iconst 0, 1) := by decide +kernel
theorem dX11_go_38 : decode cX11_go 38 = .ok (.invokevirtual 279, 3) := by decide +kernel
theorem dX11_go_41 : decode cX11_go 41 = .ok (.ireturn, 1) := by decide +kernel
theorem dX11_goer_0 : decode cX11_goer 0 = .ok (.aload_n 0, 1) := by decide +kernel
theorem dX11_goer_1 : decode cX11_goer 1 = .ok (.iload_n 1, 1) := by decide +kernel
theorem dX11_goer_2 : decode cX11_goer 2 = .ok (.invokevirtual 282, 3) := by decide +kernel
theorem dX11_goer_5 : decode cX11_goer 5 = .ok (.ifCond .eq 24, 3) := by decide +kernel
theorem dX11_goer_8 : decode cX11_goer 8 = .ok (.iload_n 2, 1) := by decide +kernel
theorem dX11_goer_9 : decode cX11_goer 9 = .ok (.i2l, 1) := by decide +kernel
theorem dX11_goer_10 : decode cX11_goer 10 = .ok (.lconst 0, 1) := by decide +kernel
theorem dX11_goer_11 : decode cX11_goer 11 = .ok (.ldc2_w 297, 3) := by decide +kernel
theorem dX11_goer_14 : decode cX11_goer 14 = .ok (.invokestatic 125, 3) := by decide +kernel
theorem dX11_goer_17 : decode cX11_goer 17 = .ok (.ifCond .eq 12, 3) := by decide +kernel
theorem dX11_goer_20 : decode cX11_goer 20 = .ok (.aload_n 0, 1) := by decide +kernel
theorem dX11_goer_21 : decode cX11_goer 21 = .ok (.iload_n 1, 1) := by decide +kernel
theorem dX11_goer_22 : decode cX11_goer 22 = .ok (.iload_n 2, 1) := by decide +kernel
theorem dX11_goer_23 : decode cX11_goer 23 = .ok (.invokevirtual 279, 3) := by decide +kernel
theorem dX11_goer_26 : decode cX11_goer 26 = .ok (.goto 5, 3) := by decide +kernel
theorem dX11_goer_29 : decode cX11_goer 29 = .ok (.bipush (-2), 2) := by decide +kernel
theorem dX11_goer_31 : decode cX11_goer 31 = .ok (.ireturn, 1) := by decide +kernel
theorem dX11_goerOf_0 : decode cX11_goerOf 0 = .ok (.aload_n 0, 1) := by decide +kernel
theorem dX11_goerOf_1 : decode cX11_goerOf 1 = .ok (.getfield 42, 3) := by decide +kernel
theorem dX11_goerOf_4 : decode cX11_goerOf 4 = .ok (.bipush 80, 2) := by decide +kernel
theorem dX11_goerOf_6 : decode cX11_goerOf 6 = .ok (.bipush 7, 2) := by decide +kernel
theorem dX11_goerOf_8 : decode cX11_goerOf 8 = .ok (.iload_n 1, 1) := by decide +kernel
theorem dX11_goerOf_9 : decode cX11_goerOf 9 = .ok (.imul, 1) := by decide +kernel
theorem dX11_goerOf_10 : decode cX11_goerOf 10 = .ok (.iadd, 1) := by decide +kernel
theorem dX11_goerOf_11 : decode cX11_goerOf 11 = .ok (.iload_n 2, 1) := by decide +kernel
theorem dX11_goerOf_12 : decode cX11_goerOf 12 = .ok (.iadd, 1) := by decide +kernel
theorem dX11_goerOf_13 : decode cX11_goerOf 13 = .ok (.iaload, 1) := by decide +kernel
theorem dX11_goerOf_14 : decode cX11_goerOf 14 = .ok (.ireturn, 1) := by decide +kernel
theorem dX11_goesTo_0 : decode cX11_goesTo 0 = .ok (.aload_n 0, 1) := by decide +kernel
theorem dX11_goesTo_1 : decode cX11_goesTo 1 = .ok (.invokevirtual 403, 3) := by decide +kernel
theorem dX11_goesTo_4 : decode cX11_goesTo 4 = .ok (.iconst 0, 1) := by decide +kernel
theorem dX11_goesTo_5 : decode cX11_goesTo 5 = .ok (.istore_n 2, 1) := by decide +kernel
theorem dX11_goesTo_6 : decode cX11_goesTo 6 = .ok (.iload_n 2, 1) := by decide +kernel
theorem dX11_goesTo_7 : decode cX11_goesTo 7 = .ok (.iload_n 1, 1) := by decide +kernel
theorem dX11_goesTo_8 : decode cX11_goesTo 8 = .ok (.if_icmp .ge 17, 3) := by decide +kernel
theorem dX11_goesTo_11 : decode cX11_goesTo 11 = .ok (.aload_n 0, 1) := by decide +kernel
theorem dX11_goesTo_12 : decode cX11_goesTo 12 = .ok (.iload_n 2, 1) := by decide +kernel
theorem dX11_goesTo_13 : decode cX11_goesTo 13 = .ok (.invokevirtual 406, 3) := by decide +kernel
theorem dX11_goesTo_16 : decode cX11_goesTo 16 = .ok (.ifCond .eq 9, 3) := by decide +kernel
theorem dX11_goesTo_19 : decode cX11_goesTo 19 = .ok (.iinc 2 1, 3) := by decide +kernel
theorem dX11_goesTo_22 : decode cX11_goesTo 22 = .ok (.goto (-16), 3) := by decide +kernel
theorem dX11_goesTo_25 : decode cX11_goesTo 25 = .ok (.iload_n 2, 1) := by decide +kernel
theorem dX11_goesTo_26 : decode cX11_goesTo 26 = .ok (.ireturn, 1) := by decide +kernel
theorem dX11_hasSums_0 : decode cX11_hasSums 0 = .ok (.iconst 0, 1) := by decide +kernel
theorem dX11_hasSums_1 : decode cX11_hasSums 1 = .ok (.istore_n 2, 1) := by decide +kernel
theorem dX11_hasSums_2 : decode cX11_hasSums 2 = .ok (.iload_n 2, 1) := by decide +kernel
theorem dX11_hasSums_3 : decode cX11_hasSums 3 = .ok (.iconst 1, 1) := by decide +kernel
theorem dX11_hasSums_4 : decode cX11_hasSums 4 = .ok (.aload_n 0, 1) := by decide +kernel
theorem dX11_hasSums_5 : decode cX11_hasSums 5 = .ok (.getfield 42, 3) := by decide +kernel
theorem dX11_hasSums_8 : decode cX11_hasSums 8 = .ok (.iconst 0, 1) := by decide +kernel
theorem dX11_hasSums_9 : decode cX11_hasSums 9 = .ok (.iaload, 1) := by decide +kernel
theorem dX11_hasSums_10 : decode cX11_hasSums 10 = .ok (.ishl, 1) := by decide +kernel
theorem dX11_hasSums_11 : decode cX11_hasSums 11 = .ok (.if_icmp .ge 142, 3) := by decide +kernel
theorem dX11_hasSums_14 : decode cX11_hasSums 14 = .ok (.iconst 1, 1) := by decide +kernel
theorem dX11_hasSums_15 : decode cX11_hasSums 15 = .ok (.istore_n 3, 1) := by decide +kernel
theorem dX11_hasSums_16 : decode cX11_hasSums 16 = .ok (.iconst 0, 1) := by decide +kernel
theorem dX11_hasSums_17 : decode cX11_hasSums 17 = .ok (.istore 4, 2) := by decide +kernel
theorem dX11_hasSums_19 : decode cX11_hasSums 19 = .ok (.iload 4, 2) := by decide +kernel
theorem dX11_hasSums_21 : decode cX11_hasSums 21 = .ok (.bipush 8, 2) := by decide +kernel
theorem dX11_hasSums_23 : decode cX11_hasSums 23 = .ok (.if_icmp .ge 118, 3) := by decide +kernel
theorem dX11_hasSums_26 : decode cX11_hasSums 26 = .ok (.iload_n 3, 1) := by decide +kernel
theorem dX11_hasSums_27 : decode cX11_hasSums 27 = .ok (.ifCond .eq 114, 3) := by decide +kernel
theorem dX11_hasSums_30 : decode cX11_hasSums 30 = .ok (.iconst 0, 1) := by decide +kernel
theorem dX11_hasSums_31 : decode cX11_hasSums 31 = .ok (.istore 5, 2) := by decide +kernel
theorem dX11_hasSums_33 : decode cX11_hasSums 33 = .ok (.iconst 0, 1) := by decide +kernel
theorem dX11_hasSums_34 : decode cX11_hasSums 34 = .ok (.istore 6, 2) := by decide +kernel
theorem dX11_hasSums_36 : decode cX11_hasSums 36 = .ok (.iload 6, 2) := by decide +kernel
theorem dX11_hasSums_38 : decode cX11_hasSums 38 = .ok (.aload_n 0, 1) := by decide +kernel
theorem dX11_hasSums_39 : decode cX11_hasSums 39 = .ok (.getfield 42, 3) := by decide +kernel
theorem dX11_hasSums_42 : decode cX11_hasSums 42 = .ok (.iconst 1, 1) := by decide +kernel
theorem dX11_hasSums_43 : decode cX11_hasSums 43 = .ok (.iaload, 1) := by decide +kernel
theorem dX11_hasSums_44 : decode cX11_hasSums 44 = .ok (.if_icmp .ge 51, 3) := by decide +kernel
theorem dX11_hasSums_47 : decode cX11_hasSums 47 = .ok (.iload 5, 2) := by decide +kernel
theorem dX11_hasSums_49 : decode cX11_hasSums 49 = .ok (.iload_n 1, 1) := by decide +kernel
theorem dX11_hasSums_50 : decode cX11_hasSums 50 = .ok (.iload 6, 2) := by decide +kernel
theorem dX11_hasSums_52 : decode cX11_hasSums 52 = .ok (.ishr, 1) := by decide +kernel
theorem dX11_hasSums_53 : decode cX11_hasSums 53 = .ok (.iconst 1, 1) := by decide +kernel
theorem dX11_hasSums_54 : decode cX11_hasSums 54 = .ok (.iand, 1) := by decide +kernel
theorem dX11_hasSums_55 : decode cX11_hasSums 55 = .ok (.iconst 1, 1) := by decide +kernel
theorem dX11_hasSums_56 : decode cX11_hasSums 56 = .ok (.if_icmp .ne 13, 3) := by decide +kernel
theorem dX11_hasSums_59 : decode cX11_hasSums 59 = .ok (.aload_n 0, 1) := by decide +kernel
theorem dX11_hasSums_60 : decode cX11_hasSums 60 = .ok (.iload 6, 2) := by decide +kernel
theorem dX11_hasSums_62 : decode cX11_hasSums 62 = .ok (.iconst 1, 1) := by decide +kernel
theorem dX11_hasSums_63 : decode cX11_hasSums 63 = .ok (.invokevirtual 279, 3) := by decide +kernel
theorem dX11_hasSums_66 : decode cX11_hasSums 66 = .ok (.goto 10, 3) := by decide +kernel
theorem dX11_hasSums_69 : decode cX11_hasSums 69 = .ok (.aload_n 0, 1) := by decide +kernel
theorem dX11_hasSums_70 : decode cX11_hasSums 70 = .ok (.iload 6, 2) := by decide +kernel
theorem dX11_hasSums_72 : decode cX11_hasSums 72 = .ok (.iconst 0, 1) := by decide +kernel
theorem dX11_hasSums_73 : decode cX11_hasSums 73 = .ok (.invokevirtual 279, 3) := by decide +kernel
theorem dX11_hasSums_76 : decode cX11_hasSums 76 = .ok (.iload 4, 2) := by decide +kernel
theorem dX11_hasSums_78 : decode cX11_hasSums 78 = .ok (.if_icmp .ne 7, 3) := by decide +kernel
theorem dX11_hasSums_81 : decode cX11_hasSums 81 = .ok (.iconst 1, 1) := by decide +kernel
theorem dX11_hasSums_82 : decode cX11_hasSums 82 = .ok (.goto 4, 3) := by decide +kernel
theorem dX11_hasSums_85 : decode cX11_hasSums 85 = .ok (.iconst 0, 1) := by decide +kernel
theorem dX11_hasSums_86 : decode cX11_hasSums 86 = .ok (.iadd, 1) := by decide +kernel
theorem dX11_hasSums_87 : decode cX11_hasSums 87 = .ok (.istore 5, 2) := by decide +kernel
theorem dX11_hasSums_89 : decode cX11_hasSums 89 = .ok (.iinc 6 1, 3) := by decide +kernel
theorem dX11_hasSums_92 : decode cX11_hasSums 92 = .ok (.goto (-56), 3) := by decide +kernel
theorem dX11_hasSums_95 : decode cX11_hasSums 95 = .ok (.aload_n 0, 1) := by decide +kernel
theorem dX11_hasSums_96 : decode cX11_hasSums 96 = .ok (.iload_n 2, 1) := by decide +kernel
theorem dX11_hasSums_97 : decode cX11_hasSums 97 = .ok (.iload 4, 2) := by decide +kernel
theorem dX11_hasSums_99 : decode cX11_hasSums 99 = .ok (.iconst 0, 1) := by decide +kernel
theorem dX11_hasSums_100 : decode cX11_hasSums 100 = .ok (.invokevirtual 304, 3) := by decide +kernel
theorem dX11_hasSums_103 : decode cX11_hasSums 103 = .ok (.iload 5, 2) := by decide +kernel
theorem dX11_hasSums_105 : decode cX11_hasSums 105 = .ok (.isub, 1) := by decide +kernel
theorem dX11_hasSums_106 : decode cX11_hasSums 106 = .ok (.aload_n 0, 1) := by decide +kernel
theorem dX11_hasSums_107 : decode cX11_hasSums 107 = .ok (.aload_n 0, 1) := by decide +kernel
theorem dX11_hasSums_108 : decode cX11_hasSums 108 = .ok (.getfield 42, 3) := by decide +kernel
theorem dX11_hasSums_111 : decode cX11_hasSums 111 = .ok (.iconst 2, 1) := by decide +kernel
theorem dX11_hasSums_112 : decode cX11_hasSums 112 = .ok (.iaload, 1) := by decide +kernel
theorem dX11_hasSums_113 : decode cX11_hasSums 113 = .ok (.iload 4, 2) := by decide +kernel
theorem dX11_hasSums_115 : decode cX11_hasSums 115 = .ok (.iconst 0, 1) := by decide +kernel
theorem dX11_hasSums_116 : decode cX11_hasSums 116 = .ok (.invokevirtual 304, 3) := by decide +kernel
theorem dX11_hasSums_119 : decode cX11_hasSums 119 = .ok (.aload_n 0, 1) := by decide +kernel
theorem dX11_hasSums_120 : decode cX11_hasSums 120 = .ok (.iload 4, 2) := by decide +kernel
theorem dX11_hasSums_122 : decode cX11_hasSums 122 = .ok (.invokevirtual 307, 3) := by decide +kernel
theorem dX11_hasSums_125 : decode cX11_hasSums 125 = .ok (.isub, 1) := by decide +kernel
theorem dX11_hasSums_126 : decode cX11_hasSums 126 = .ok (.if_icmp .ne 7, 3) := by decide +kernel
theorem dX11_hasSums_129 : decode cX11_hasSums 129 = .ok (.iconst 1, 1) := by decide +kernel
theorem dX11_hasSums_130 : decode cX11_hasSums 130 = .ok (.goto 4, 3) := by decide +kernel
theorem dX11_hasSums_133 : decode cX11_hasSums 133 = .ok (.iconst 0, 1) := by decide +kernel
theorem dX11_hasSums_134 : decode cX11_hasSums 134 = .ok (.istore_n 3, 1) := by decide +kernel
theorem dX11_hasSums_135 : decode cX11_hasSums 135 = .ok (.iinc 4 1, 3) := by decide +kernel
theorem dX11_hasSums_138 : decode cX11_hasSums 138 = .ok (.goto (-119), 3) := by decide +kernel
theorem dX11_hasSums_141 : decode cX11_hasSums 141 = .ok (.iload_n 3, 1) := by decide +kernel
theorem dX11_hasSums_142 : decode cX11_hasSums 142 = .ok (.ifCond .eq 5, 3) := by decide +kernel
theorem dX11_hasSums_145 : decode cX11_hasSums 145 = .ok (.iconst 1, 1) := by decide +kernel
theorem dX11_hasSums_146 : decode cX11_hasSums 146 = .ok (.ireturn, 1) := by decide +kernel
theorem dX11_hasSums_147 : decode cX11_hasSums 147 = .ok (.iinc 2 1, 3) := by decide +kernel
theorem dX11_hasSums_150 : decode cX11_hasSums 150 = .ok (.goto (-148), 3) := by decide +kernel
theorem dX11_hasSums_153 : decode cX11_hasSums 153 = .ok (.iconst 0, 1) := by decide +kernel
theorem dX11_hasSums_154 : decode cX11_hasSums 154 = .ok (.ireturn, 1) := by decide +kernel
theorem dX11_haveAllBeen_0 : decode cX11_haveAllBeen 0 = .ok (.iconst 0, 1) := by decide +kernel
theorem dX11_haveAllBeen_1 : decode cX11_haveAllBeen 1 = .ok (.istore_n 1, 1) := by decide +kernel
theorem dX11_haveAllBeen_2 : decode cX11_haveAllBeen 2 = .ok (.iload_n 1, 1) := by decide +kernel
theorem dX11_haveAllBeen_3 : decode cX11_haveAllBeen 3 = .ok (.aload_n 0, 1) := by decide +kernel
theorem dX11_haveAllBeen_4 : decode cX11_haveAllBeen 4 = .ok (.getfield 42, 3) := by decide +kernel
theorem dX11_haveAllBeen_7 : decode cX11_haveAllBeen 7 = .ok (.iconst 0, 1) := by decide +kernel
theorem dX11_haveAllBeen_8 : decode cX11_haveAllBeen 8 = .ok (.iaload, 1) := by decide +kernel
theorem dX11_haveAllBeen_9 : decode cX11_haveAllBeen 9 = .ok (.if_icmp .ge 26, 3) := by decide +kernel
theorem dX11_haveAllBeen_12 : decode cX11_haveAllBeen 12 = .ok (.aload_n 0, 1) := by decide +kernel
theorem dX11_haveAllBeen_13 : decode cX11_haveAllBeen 13 = .ok (.getfield 68, 3) := by decide +kernel
theorem dX11_haveAllBeen_16 : decode cX11_haveAllBeen 16 = .ok (.iload_n 1, 1) := by decide +kernel
theorem dX11_haveAllBeen_17 : decode cX11_haveAllBeen 17 = .ok (.iaload, 1) := by decide +kernel
theorem dX11_haveAllBeen_18 : decode cX11_haveAllBeen 18 = .ok (.aload_n 0, 1) := by decide +kernel
theorem dX11_haveAllBeen_19 : decode cX11_haveAllBeen 19 = .ok (.getfield 42, 3) := by decide +kernel
theorem dX11_haveAllBeen_22 : decode cX11_haveAllBeen 22 = .ok (.iconst 3, 1) := by decide +kernel
theorem dX11_haveAllBeen_23 : decode cX11_haveAllBeen 23 = .ok (.iaload, 1) := by decide +kernel
theorem dX11_haveAllBeen_24 : decode cX11_haveAllBeen 24 = .ok (.if_icmp .gt 5, 3) := by decide +kernel
theorem dX11_haveAllBeen_27 : decode cX11_haveAllBeen 27 = .ok (.iconst 0, 1) := by decide +kernel
theorem dX11_haveAllBeen_28 : decode cX11_haveAllBeen 28 = .ok (.ireturn, 1) := by decide +kernel
theorem dX11_haveAllBeen_29 : decode cX11_haveAllBeen 29 = .ok (.iinc 1 1, 3) := by decide +kernel
theorem dX11_haveAllBeen_32 : decode cX11_haveAllBeen 32 = .ok (.goto (-30), 3) := by decide +kernel
theorem dX11_haveAllBeen_35 : decode cX11_haveAllBeen 35 = .ok (.iconst 1, 1) := by decide +kernel
theorem dX11_haveAllBeen_36 : decode cX11_haveAllBeen 36 = .ok (.ireturn, 1) := by decide +kernel
theorem dX11_home_0 : decode cX11_home 0 = .ok (.aload_n 0, 1) := by decide +kernel
theorem dX11_home_1 : decode cX11_home 1 = .ok (.iload_n 1, 1) := by decide +kernel
theorem dX11_home_2 : decode cX11_home 2 = .ok (.invokevirtual 432, 3) := by decide +kernel
theorem dX11_home_5 : decode cX11_home 5 = .ok (.ifCond .eq 15, 3) := by decide +kernel
theorem dX11_home_8 : decode cX11_home 8 = .ok (.iload_n 2, 1) := by decide +kernel
theorem dX11_home_9 : decode cX11_home 9 = .ok (.i2l, 1) := by decide +kernel
theorem dX11_home_10 : decode cX11_home 10 = .ok (.lconst 0, 1) := by decide +kernel
theorem dX11_home_11 : decode cX11_home 11 = .ok (.ldc2_w 435, 3) := by decide +kernel
theorem dX11_home_14 : decode cX11_home 14 = .ok (.invokestatic 125, 3) := by decide +kernel
theorem dX11_home_17 : decode cX11_home 17 = .ok (.ifCond .ne 5, 3) := by decide +kernel
theorem dX11_home_20 : decode cX11_home 20 = .ok (.iconst (-1), 1) := by decide +kernel
theorem dX11_home_21 : decode cX11_home 21 = .ok (.ireturn, 1) := by decide +kernel
theorem dX11_home_22 : decode cX11_home 22 = .ok (.aload_n 0, 1) := by decide +kernel
theorem dX11_home_23 : decode cX11_home 23 = .ok (.invokevirtual 442, 3) := by decide +kernel
theorem dX11_home_26 : decode cX11_home 26 = .ok (.bipush (-2), 2) := by decide +kernel
theorem dX11_home_28 : decode cX11_home 28 = .ok (.istore_n 3, 1) := by decide +kernel
theorem dX11_home_29 : decode cX11_home 29 = .ok (.iconst 0, 1) := by decide +kernel
theorem dX11_home_30 : decode cX11_home 30 = .ok (.istore 4, 2) := by decide +kernel
theorem dX11_home_32 : decode cX11_home 32 = .ok (.iload 4, 2) := by decide +kernel
theorem dX11_home_34 : decode cX11_home 34 = .ok (.iload_n 2, 1) := by decide +kernel
theorem dX11_home_35 : decode cX11_home 35 = .ok (.if_icmp .gt 43, 3) := by decide +kernel
theorem dX11_home_38 : decode cX11_home 38 = .ok (.iload_n 3, 1) := by decide +kernel
theorem dX11_home_39 : decode cX11_home 39 = .ok (.ifCond .ge 39, 3) := by decide +kernel
theorem dX11_home_42 : decode cX11_home 42 = .ok (.aload_n 0, 1) := by decide +kernel
theorem dX11_home_43 : decode cX11_home 43 = .ok (.invokevirtual 445, 3) := by decide +kernel
theorem dX11_home_46 : decode cX11_home 46 = .ok (.aload_n 0, 1) := by decide +kernel
theorem dX11_home_47 : decode cX11_home 47 = .ok (.getfield 42, 3) := by decide +kernel
theorem dX11_home_50 : decode cX11_home 50 = .ok (.iconst 1, 1) := by decide +kernel
theorem dX11_home_51 : decode cX11_home 51 = .ok (.iaload, 1) := by decide +kernel
theorem dX11_home_52 : decode cX11_home 52 = .ok (.if_icmp .ne 9, 3) := by decide +kernel
theorem dX11_home_55 : decode cX11_home 55 = .ok (.iload 4, 2) := by decide +kernel
theorem dX11_home_57 : decode cX11_home 57 = .ok (.istore_n 3, 1) := by decide +kernel
theorem dX11_home_58 : decode cX11_home 58 = .ok (.goto 14, 3) := by decide +kernel
theorem dX11_home_61 : decode cX11_home 61 = .ok (.iload 4, 2) := by decide +kernel
theorem dX11_home_63 : decode cX11_home 63 = .ok (.iload_n 2, 1) := by decide +kernel
theorem dX11_home_64 : decode cX11_home 64 = .ok (.if_icmp .ge 8, 3) := by decide +kernel
theorem dX11_home_67 : decode cX11_home 67 = .ok (.aload_n 0, 1) := by decide +kernel
theorem dX11_home_68 : decode cX11_home 68 = .ok (.iload_n 1, 1) := by decide +kernel
theorem dX11_home_69 : decode cX11_home 69 = .ok (.invokevirtual 429, 3) := by decide +kernel
theorem dX11_home_72 : decode cX11_home 72 = .ok (.iinc 4 1, 3) := by decide +kernel
theorem dX11_home_75 : decode cX11_home 75 = .ok (.goto (-43), 3) := by decide +kernel
theorem dX11_home_78 : decode cX11_home 78 = .ok (.aload_n 0, 1) := by decide +kernel
theorem dX11_home_79 : decode cX11_home 79 = .ok (.invokevirtual 448, 3) := by decide +kernel
theorem dX11_home_82 : decode cX11_home 82 = .ok (.iload_n 3, 1) := by decide +kernel
theorem dX11_home_83 : decode cX11_home 83 = .ok (.ireturn, 1) := by decide +kernel
theorem dX11_image_0 : decode cX11_image 0 = .ok (.iload_n 1, 1) := by decide +kernel
theorem dX11_image_1 : decode cX11_image 1 = .ok (.i2l, 1) := by decide +kernel
theorem dX11_image_2 : decode cX11_image 2 = .ok (.lconst 0, 1) := by decide +kernel
theorem dX11_image_3 : decode cX11_image 3 = .ok (.ldc2_w 440, 3) := by decide +kernel
theorem dX11_image_6 : decode cX11_image 6 = .ok (.invokestatic 125, 3) := by decide +kernel
theorem dX11_image_9 : decode cX11_image 9 = .ok (.ifCond .ne 5, 3) := by decide +kernel
theorem dX11_image_12 : decode cX11_image 12 = .ok (.iconst (-1), 1) := by decide +kernel
theorem dX11_image_13 : decode cX11_image 13 = .ok (.ireturn, 1) := by decide +kernel
theorem dX11_image_14 : decode cX11_image 14 = .ok (.aload_n 0, 1) := by decide +kernel
theorem dX11_image_15 : decode cX11_image 15 = .ok (.getfield 83, 3) := by decide +kernel
theorem dX11_image_18 : decode cX11_image 18 = .ok (.iload_n 1, 1) := by decide +kernel
theorem dX11_image_19 : decode cX11_image 19 = .ok (.iconst 1, 1) := by decide +kernel
theorem dX11_image_20 : decode cX11_image 20 = .ok (.bastore, 1) := by decide +kernel
theorem dX11_image_21 : decode cX11_image 21 = .ok (.iconst 0, 1) := by decide +kernel
theorem dX11_image_22 : decode cX11_image 22 = .ok (.istore_n 2, 1) := by decide +kernel
theorem dX11_image_23 : decode cX11_image 23 = .ok (.iload_n 2, 1) := by decide +kernel
theorem dX11_image_24 : decode cX11_image 24 = .ok (.sipush 202, 3) := by decide +kernel
theorem dX11_image_27 : decode cX11_image 27 = .ok (.if_icmp .ge 27, 3) := by decide +kernel
theorem dX11_image_30 : decode cX11_image 30 = .ok (.aload_n 0, 1) := by decide +kernel
theorem dX11_image_31 : decode cX11_image 31 = .ok (.getfield 80, 3) := by decide +kernel
theorem dX11_image_34 : decode cX11_image 34 = .ok (.sipush 202, 3) := by decide +kernel
theorem dX11_image_37 : decode cX11_image 37 = .ok (.iload_n 1, 1) := by decide +kernel
theorem dX11_image_38 : decode cX11_image 38 = .ok (.imul, 1) := by decide +kernel
theorem dX11_image_39 : decode cX11_image 39 = .ok (.iload_n 2, 1) := by decide +kernel
theorem dX11_image_40 : decode cX11_image 40 = .ok (.iadd, 1) := by decide +kernel
theorem dX11_image_41 : decode cX11_image 41 = .ok (.aload_n 0, 1) := by decide +kernel
theorem dX11_image_42 : decode cX11_image 42 = .ok (.getfield 42, 3) := by decide +kernel
theorem dX11_image_45 : decode cX11_image 45 = .ok (.iload_n 2, 1) := by decide +kernel
theorem dX11_image_46 : decode cX11_image 46 = .ok (.iaload, 1) := by decide +kernel
theorem dX11_image_47 : decode cX11_image 47 = .ok (.iastore, 1) := by decide +kernel
theorem dX11_image_48 : decode cX11_image 48 = .ok (.iinc 2 1, 3) := by decide +kernel
theorem dX11_image_51 : decode cX11_image 51 = .ok (.goto (-28), 3) := by decide +kernel
theorem dX11_image_54 : decode cX11_image 54 = .ok (.aload_n 0, 1) := by decide +kernel
theorem dX11_image_55 : decode cX11_image 55 = .ok (.getfield 42, 3) := by decide +kernel
theorem dX11_image_58 : decode cX11_image 58 = .ok (.iconst 4, 1) := by decide +kernel
theorem dX11_image_59 : decode cX11_image 59 = .ok (.iaload, 1) := by decide +kernel
theorem dX11_image_60 : decode cX11_image 60 = .ok (.ireturn, 1) := by decide +kernel
theorem dX11_in_0 : decode cX11_in 0 = .ok (.lload_n 0, 1) := by decide +kernel
theorem dX11_in_1 : decode cX11_in 1 = .ok (.lload_n 2, 1) := by decide +kernel
theorem dX11_in_2 : decode cX11_in 2 = .ok (.lcmp, 1) := by decide +kernel
theorem dX11_in_3 : decode cX11_in 3 = .ok (.ifCond .lt 14, 3) := by decide +kernel
theorem dX11_in_6 : decode cX11_in 6 = .ok (.lload_n 0, 1) := by decide +kernel
theorem dX11_in_7 : decode cX11_in 7 = .ok (.lload 4, 2) := by decide +kernel
theorem dX11_in_9 : decode cX11_in 9 = .ok (.lcmp, 1) := by decide +kernel
theorem dX11_in_10 : decode cX11_in 10 = .ok (.ifCond .gt 7, 3) := by decide +kernel
theorem dX11_in_13 : decode cX11_in 13 = .ok (.iconst 1, 1) := by decide +kernel
theorem dX11_in_14 : decode cX11_in 14 = .ok (.goto 4, 3) := by decide +kernel
theorem dX11_in_17 : decode cX11_in 17 = .ok (.iconst 0, 1) := by decide +kernel
theorem dX11_in_18 : decode cX11_in 18 = .ok (.ireturn, 1) := by decide +kernel
theorem dX11_init_0 : decode cX11_init 0 = .ok (.aload_n 0, 1) := by decide +kernel
theorem dX11_init_1 : decode cX11_init 1 = .ok (.invokespecial 1, 3) := by decide +kernel
theorem dX11_init_4 : decode cX11_init 4 = .ok (.aload_n 0, 1) := by decide +kernel
theorem dX11_init_5 : decode cX11_init 5 = .ok (.sipush 400, 3) := by decide +kernel
theorem dX11_init_8 : decode cX11_init 8 = .ok (.newarray .byte, 2) := by decide +kernel
theorem dX11_init_10 : decode cX11_init 10 = .ok (.putfield 7, 3) := by decide +kernel
theorem dX11_init_13 : decode cX11_init 13 = .ok (.aload_n 0, 1) := by decide +kernel
theorem dX11_init_14 : decode cX11_init 14 = .ok (.sipush 2400, 3) := by decide +kernel
theorem dX11_init_17 : decode cX11_init 17 = .ok (.newarray .int, 2) := by decide +kernel
theorem dX11_init_19 : decode cX11_init 19 = .ok (.putfield 13, 3) := by decide +kernel
theorem dX11_init_22 : decode cX11_init 22 = .ok (.aload_n 0, 1) := by decide +kernel
theorem dX11_init_23 : decode cX11_init 23 = .ok (.bipush 7, 2) := by decide +kernel
theorem dX11_init_25 : decode cX11_init 25 = .ok (.newarray .int, 2) := by decide +kernel
theorem dX11_init_27 : decode cX11_init 27 = .ok (.putfield 17, 3) := by decide +kernel
theorem dX11_init_30 : decode cX11_init 30 = .ok (.aload_n 0, 1) := by decide +kernel
theorem dX11_init_31 : decode cX11_init 31 = .ok (.sipush 360, 3) := by decide +kernel
theorem dX11_init_34 : decode cX11_init 34 = .ok (.newarray .int, 2) := by decide +kernel
theorem dX11_init_36 : decode cX11_init 36 = .ok (.putfield 20, 3) := by decide +kernel
theorem dX11_init_39 : decode cX11_init 39 = .ok (.aload_n 0, 1) := by decide +kernel
theorem dX11_init_40 : decode cX11_init 40 = .ok (.bipush 6, 2) := by decide +kernel
theorem dX11_init_42 : decode cX11_init 42 = .ok (.newarray .int, 2) := by decide +kernel
theorem dX11_init_44 : decode cX11_init 44 = .ok (.putfield 23, 3) := by decide +kernel
theorem dX11_init_47 : decode cX11_init 47 = .ok (.aload_n 0, 1) := by decide +kernel
theorem dX11_init_48 : decode cX11_init 48 = .ok (.bipush 42, 2) := by decide +kernel
theorem dX11_init_50 : decode cX11_init 50 = .ok (.newarray .int, 2) := by decide +kernel
theorem dX11_init_52 : decode cX11_init 52 = .ok (.putfield 26, 3) := by decide +kernel
theorem dX11_init_55 : decode cX11_init 55 = .ok (.aload_n 0, 1) := by decide +kernel
theorem dX11_init_56 : decode cX11_init 56 = .ok (.bipush 18, 2) := by decide +kernel
theorem dX11_init_58 : decode cX11_init 58 = .ok (.newarray .int, 2) := by decide +kernel
theorem dX11_init_60 : decode cX11_init 60 = .ok (.putfield 29, 3) := by decide +kernel
theorem dX11_init_63 : decode cX11_init 63 = .ok (.aload_n 0, 1) := by decide +kernel
theorem dX11_init_64 : decode cX11_init 64 = .ok (.sipush 400, 3) := by decide +kernel
theorem dX11_init_67 : decode cX11_init 67 = .ok (.newarray .int, 2) := by decide +kernel
theorem dX11_init_69 : decode cX11_init 69 = .ok (.putfield 32, 3) := by decide +kernel
theorem dX11_init_72 : decode cX11_init 72 = .ok (.aload_n 0, 1) := by decide +kernel
theorem dX11_init_73 : decode cX11_init 73 = .ok (.bipush 64, 2) := by decide +kernel
theorem dX11_init_75 : decode cX11_init 75 = .ok (.newarray .long, 2) := by decide +kernel
theorem dX11_init_77 : decode cX11_init 77 = .ok (.putfield 35, 3) := by decide +kernel
theorem dX11_init_80 : decode cX11_init 80 = .ok (.aload_n 0, 1) := by decide +kernel
theorem dX11_init_81 : decode cX11_init 81 = .ok (.bipush 12, 2) := by decide +kernel
theorem dX11_init_83 : decode cX11_init 83 = .ok (.newarray .long, 2) := by decide +kernel
theorem dX11_init_85 : decode cX11_init 85 = .ok (.putfield 39, 3) := by decide +kernel
theorem dX11_init_88 : decode cX11_init 88 = .ok (.aload_n 0, 1) := by decide +kernel
theorem dX11_init_89 : decode cX11_init 89 = .ok (.sipush 202, 3) := by decide +kernel
theorem dX11_init_92 : decode cX11_init 92 = .ok (.newarray .int, 2) := by decide +kernel
theorem dX11_init_94 : decode cX11_init 94 = .ok (.putfield 42, 3) := by decide +kernel
theorem dX11_init_97 : decode cX11_init 97 = .ok (.aload_n 0, 1) := by decide +kernel
theorem dX11_init_98 : decode cX11_init 98 = .ok (.sipush 202, 3) := by decide +kernel
theorem dX11_init_101 : decode cX11_init 101 = .ok (.newarray .int, 2) := by decide +kernel
theorem dX11_init_103 : decode cX11_init 103 = .ok (.putfield 45, 3) := by decide +kernel
theorem dX11_init_106 : decode cX11_init 106 = .ok (.aload_n 0, 1) := by decide +kernel
theorem dX11_init_107 : decode cX11_init 107 = .ok (.bipush 8, 2) := by decide +kernel
theorem dX11_init_109 : decode cX11_init 109 = .ok (.newarray .int, 2) := by decide +kernel
theorem dX11_init_111 : decode cX11_init 111 = .ok (.putfield 48, 3) := by decide +kernel
theorem dX11_init_114 : decode cX11_init 114 = .ok (.aload_n 0, 1) := by decide +kernel
theorem dX11_init_115 : decode cX11_init 115 = .ok (.ldc 51, 2) := by decide +kernel
theorem dX11_init_117 : decode cX11_init 117 = .ok (.newarray .int, 2) := by decide +kernel
theorem dX11_init_119 : decode cX11_init 119 = .ok (.putfield 52, 3) := by decide +kernel
theorem dX11_init_122 : decode cX11_init 122 = .ok (.aload_n 0, 1) := by decide +kernel
theorem dX11_init_123 : decode cX11_init 123 = .ok (.ldc 51, 2) := by decide +kernel
theorem dX11_init_125 : decode cX11_init 125 = .ok (.newarray .int, 2) := by decide +kernel
theorem dX11_init_127 : decode cX11_init 127 = .ok (.putfield 55, 3) := by decide +kernel
theorem dX11_init_130 : decode cX11_init 130 = .ok (.aload_n 0, 1) := by decide +kernel
theorem dX11_init_131 : decode cX11_init 131 = .ok (.ldc 51, 2) := by decide +kernel
theorem dX11_init_133 : decode cX11_init 133 = .ok (.newarray .int, 2) := by decide +kernel
theorem dX11_init_135 : decode cX11_init 135 = .ok (.putfield 58, 3) := by decide +kernel
theorem dX11_init_138 : decode cX11_init 138 = .ok (.aload_n 0, 1) := by decide +kernel
theorem dX11_init_139 : decode cX11_init 139 = .ok (.bipush 6, 2) := by decide +kernel
theorem dX11_init_141 : decode cX11_init 141 = .ok (.newarray .int, 2) := by decide +kernel
theorem dX11_init_143 : decode cX11_init 143 = .ok (.putfield 61, 3) := by decide +kernel
theorem dX11_init_146 : decode cX11_init 146 = .ok (.aload_n 0, 1) := by decide +kernel
theorem dX11_init_147 : decode cX11_init 147 = .ok (.bipush 14, 2) := by decide +kernel
theorem dX11_init_149 : decode cX11_init 149 = .ok (.newarray .boolean, 2) := by decide +kernel
theorem dX11_init_151 : decode cX11_init 151 = .ok (.putfield 64, 3) := by decide +kernel
theorem dX11_init_154 : decode cX11_init 154 = .ok (.aload_n 0, 1) := by decide +kernel
theorem dX11_init_155 : decode cX11_init 155 = .ok (.bipush 14, 2) := by decide +kernel
theorem dX11_init_157 : decode cX11_init 157 = .ok (.newarray .int, 2) := by decide +kernel
theorem dX11_init_159 : decode cX11_init 159 = .ok (.putfield 68, 3) := by decide +kernel
theorem dX11_init_162 : decode cX11_init 162 = .ok (.aload_n 0, 1) := by decide +kernel
theorem dX11_init_163 : decode cX11_init 163 = .ok (.sipush 2001, 3) := by decide +kernel
theorem dX11_init_166 : decode cX11_init 166 = .ok (.newarray .int, 2) := by decide +kernel
theorem dX11_init_168 : decode cX11_init 168 = .ok (.putfield 71, 3) := by decide +kernel
theorem dX11_init_171 : decode cX11_init 171 = .ok (.aload_n 0, 1) := by decide +kernel
theorem dX11_init_172 : decode cX11_init 172 = .ok (.sipush 2001, 3) := by decide +kernel
theorem dX11_init_175 : decode cX11_init 175 = .ok (.newarray .long, 2) := by decide +kernel
theorem dX11_init_177 : decode cX11_init 177 = .ok (.putfield 74, 3) := by decide +kernel
theorem dX11_init_180 : decode cX11_init 180 = .ok (.aload_n 0, 1) := by decide +kernel
theorem dX11_init_181 : decode cX11_init 181 = .ok (.bipush 6, 2) := by decide +kernel
theorem dX11_init_183 : decode cX11_init 183 = .ok (.newarray .int, 2) := by decide +kernel
theorem dX11_init_185 : decode cX11_init 185 = .ok (.putfield 77, 3) := by decide +kernel
theorem dX11_init_188 : decode cX11_init 188 = .ok (.aload_n 0, 1) := by decide +kernel
theorem dX11_init_189 : decode cX11_init 189 = .ok (.sipush 808, 3) := by decide +kernel
theorem dX11_init_192 : decode cX11_init 192 = .ok (.newarray .int, 2) := by decide +kernel
theorem dX11_init_194 : decode cX11_init 194 = .ok (.putfield 80, 3) := by decide +kernel
theorem dX11_init_197 : decode cX11_init 197 = .ok (.aload_n 0, 1) := by decide +kernel
theorem dX11_init_198 : decode cX11_init 198 = .ok (.iconst 4, 1) := by decide +kernel
theorem dX11_init_199 : decode cX11_init 199 = .ok (.newarray .boolean, 2) := by decide +kernel
theorem dX11_init_201 : decode cX11_init 201 = .ok (.putfield 83, 3) := by decide +kernel
theorem dX11_init_204 : decode cX11_init 204 = .ok (.return_, 1) := by decide +kernel
theorem dX11_isAnyOnWay_0 : decode cX11_isAnyOnWay 0 = .ok (.iconst 0, 1) := by decide +kernel
theorem dX11_isAnyOnWay_1 : decode cX11_isAnyOnWay 1 = .ok (.istore_n 1, 1) := by decide +kernel
theorem dX11_isAnyOnWay_2 : decode cX11_isAnyOnWay 2 = .ok (.iload_n 1, 1) := by decide +kernel
theorem dX11_isAnyOnWay_3 : decode cX11_isAnyOnWay 3 = .ok (.aload_n 0, 1) := by decide +kernel
theorem dX11_isAnyOnWay_4 : decode cX11_isAnyOnWay 4 = .ok (.getfield 42, 3) := by decide +kernel
theorem dX11_isAnyOnWay_7 : decode cX11_isAnyOnWay 7 = .ok (.iconst 1, 1) := by decide +kernel
theorem dX11_isAnyOnWay_8 : decode cX11_isAnyOnWay 8 = .ok (.iaload, 1) := by decide +kernel
theorem dX11_isAnyOnWay_9 : decode cX11_isAnyOnWay 9 = .ok (.if_icmp .ge 21, 3) := by decide +kernel
theorem dX11_isAnyOnWay_12 : decode cX11_isAnyOnWay 12 = .ok (.aload_n 0, 1) := by decide +kernel
theorem dX11_isAnyOnWay_13 : decode cX11_isAnyOnWay 13 = .ok (.iload_n 1, 1) := by decide +kernel
theorem dX11_isAnyOnWay_14 : decode cX11_isAnyOnWay 14 = .ok (.iconst 3, 1) := by decide +kernel
theorem dX11_isAnyOnWay_15 : decode cX11_isAnyOnWay 15 = .ok (.invokevirtual 279, 3) := by decide +kernel
theorem dX11_isAnyOnWay_18 : decode cX11_isAnyOnWay 18 = .ok (.iconst (-1), 1) := by decide +kernel
theorem dX11_isAnyOnWay_19 : decode cX11_isAnyOnWay 19 = .ok (.if_icmp .eq 5, 3) := by decide +kernel
theorem dX11_isAnyOnWay_22 : decode cX11_isAnyOnWay 22 = .ok (.iconst 1, 1) := by decide +kernel
theorem dX11_isAnyOnWay_23 : decode cX11_isAnyOnWay 23 = .ok (.ireturn, 1) := by decide +kernel
theorem dX11_isAnyOnWay_24 : decode cX11_isAnyOnWay 24 = .ok (.iinc 1 1, 3) := by decide +kernel
theorem dX11_isAnyOnWay_27 : decode cX11_isAnyOnWay 27 = .ok (.goto (-25), 3) := by decide +kernel
theorem dX11_isAnyOnWay_30 : decode cX11_isAnyOnWay 30 = .ok (.iconst 0, 1) := by decide +kernel
theorem dX11_isAnyOnWay_31 : decode cX11_isAnyOnWay 31 = .ok (.ireturn, 1) := by decide +kernel
theorem dX11_isDigit_0 : decode cX11_isDigit 0 = .ok (.iload_n 1, 1) := by decide +kernel
theorem dX11_isDigit_1 : decode cX11_isDigit 1 = .ok (.aload_n 0, 1) := by decide +kernel
theorem dX11_isDigit_2 : decode cX11_isDigit 2 = .ok (.getfield 86, 3) := by decide +kernel
theorem dX11_isDigit_5 : decode cX11_isDigit 5 = .ok (.if_icmp .ge 29, 3) := by decide +kernel
theorem dX11_isDigit_8 : decode cX11_isDigit 8 = .ok (.aload_n 0, 1) := by decide +kernel
theorem dX11_isDigit_9 : decode cX11_isDigit 9 = .ok (.getfield 7, 3) := by decide +kernel
theorem dX11_isDigit_12 : decode cX11_isDigit 12 = .ok (.iload_n 1, 1) := by decide +kernel
theorem dX11_isDigit_13 : decode cX11_isDigit 13 = .ok (.baload, 1) := by decide +kernel
theorem dX11_isDigit_14 : decode cX11_isDigit 14 = .ok (.bipush 48, 2) := by decide +kernel
theorem dX11_isDigit_16 : decode cX11_isDigit 16 = .ok (.if_icmp .lt 18, 3) := by decide +kernel
theorem dX11_isDigit_19 : decode cX11_isDigit 19 = .ok (.aload_n 0, 1) := by decide +kernel
theorem dX11_isDigit_20 : decode cX11_isDigit 20 = .ok (.getfield 7, 3) := by decide +kernel
theorem dX11_isDigit_23 : decode cX11_isDigit 23 = .ok (.iload_n 1, 1) := by decide +kernel
theorem dX11_isDigit_24 : decode cX11_isDigit 24 = .ok (.baload, 1) := by decide +kernel
theorem dX11_isDigit_25 : decode cX11_isDigit 25 = .ok (.bipush 57, 2) := by decide +kernel
theorem dX11_isDigit_27 : decode cX11_isDigit 27 = .ok (.if_icmp .gt 7, 3) := by decide +kernel
theorem dX11_isDigit_30 : decode cX11_isDigit 30 = .ok (.iconst 1, 1) := by decide +kernel
theorem dX11_isDigit_31 : decode cX11_isDigit 31 = .ok (.goto 4, 3) := by decide +kernel
theorem dX11_isDigit_34 : decode cX11_isDigit 34 = .ok (.iconst 0, 1) := by decide +kernel
theorem dX11_isDigit_35 : decode cX11_isDigit 35 = .ok (.ireturn, 1) := by decide +kernel
theorem dX11_isGoer_0 : decode cX11_isGoer 0 = .ok (.iload_n 1, 1) := by decide +kernel
theorem dX11_isGoer_1 : decode cX11_isGoer 1 = .ok (.ifCond .lt 17, 3) := by decide +kernel
theorem dX11_isGoer_4 : decode cX11_isGoer 4 = .ok (.iload_n 1, 1) := by decide +kernel
theorem dX11_isGoer_5 : decode cX11_isGoer 5 = .ok (.aload_n 0, 1) := by decide +kernel
theorem dX11_isGoer_6 : decode cX11_isGoer 6 = .ok (.getfield 42, 3) := by decide +kernel
theorem dX11_isGoer_9 : decode cX11_isGoer 9 = .ok (.iconst 1, 1) := by decide +kernel
theorem dX11_isGoer_10 : decode cX11_isGoer 10 = .ok (.iaload, 1) := by decide +kernel
theorem dX11_isGoer_11 : decode cX11_isGoer 11 = .ok (.if_icmp .ge 7, 3) := by decide +kernel
theorem dX11_isGoer_14 : decode cX11_isGoer 14 = .ok (.iconst 1, 1) := by decide +kernel
theorem dX11_isGoer_15 : decode cX11_isGoer 15 = .ok (.goto 4, 3) := by decide +kernel
theorem dX11_isGoer_18 : decode cX11_isGoer 18 = .ok (.iconst 0, 1) := by decide +kernel
theorem dX11_isGoer_19 : decode cX11_isGoer 19 = .ok (.ireturn, 1) := by decide +kernel
theorem dX11_isGoerHere_0 : decode cX11_isGoerHere 0 = .ok (.aload_n 0, 1) := by decide +kernel
theorem dX11_isGoerHere_1 : decode cX11_isGoerHere 1 = .ok (.getfield 228, 3) := by decide +kernel
theorem dX11_isGoerHere_4 : decode cX11_isGoerHere 4 = .ok (.bipush 6, 2) := by decide +kernel
theorem dX11_isGoerHere_6 : decode cX11_isGoerHere 6 = .ok (.if_icmp .ne 10, 3) := by decide +kernel
theorem dX11_isGoerHere_9 : decode cX11_isGoerHere 9 = .ok (.aload_n 0, 1) := by decide +kernel
theorem dX11_isGoerHere_10 : decode cX11_isGoerHere 10 = .ok (.iconst 4, 1) := by decide +kernel
theorem dX11_isGoerHere_11 : decode cX11_isGoerHere 11 = .ok (.iload_n 1, 1) := by decide +kernel
theorem dX11_isGoerHere_12 : decode cX11_isGoerHere 12 = .ok (.invokevirtual 118, 3) := by decide +kernel
theorem dX11_isGoerHere_15 : decode cX11_isGoerHere 15 = .ok (.ireturn, 1) := by decide +kernel
theorem dX11_isGoerHere_16 : decode cX11_isGoerHere 16 = .ok (.aload_n 0, 1) := by decide +kernel
theorem dX11_isGoerHere_17 : decode cX11_isGoerHere 17 = .ok (.invokevirtual 112, 3) := by decide +kernel
theorem dX11_isGoerHere_20 : decode cX11_isGoerHere 20 = .ok (.iconst 0, 1) := by decide +kernel
theorem dX11_isGoerHere_21 : decode cX11_isGoerHere 21 = .ok (.istore_n 2, 1) := by decide +kernel
theorem dX11_isGoerHere_22 : decode cX11_isGoerHere 22 = .ok (.iload_n 2, 1) := by decide +kernel
theorem dX11_isGoerHere_23 : decode cX11_isGoerHere 23 = .ok (.iconst 3, 1) := by decide +kernel
theorem dX11_isGoerHere_24 : decode cX11_isGoerHere 24 = .ok (.if_icmp .ge 49, 3) := by decide +kernel
theorem dX11_isGoerHere_27 : decode cX11_isGoerHere 27 = .ok (.aload_n 0, 1) := by decide +kernel
theorem dX11_isGoerHere_28 : decode cX11_isGoerHere 28 = .ok (.iconst 0, 1) := by decide +kernel
theorem dX11_isGoerHere_29 : decode cX11_isGoerHere 29 = .ok (.iload_n 2, 1) := by decide +kernel
theorem dX11_isGoerHere_30 : decode cX11_isGoerHere 30 = .ok (.iconst 2, 1) := by decide +kernel
theorem dX11_isGoerHere_31 : decode cX11_isGoerHere 31 = .ok (.if_icmp .ge 8, 3) := by decide +kernel
theorem dX11_isGoerHere_34 : decode cX11_isGoerHere 34 = .ok (.bipush 7, 2) := by decide +kernel
theorem dX11_isGoerHere_36 : decode cX11_isGoerHere 36 = .ok (.goto 6, 3) := by decide +kernel
theorem dX11_isGoerHere_39 : decode cX11_isGoerHere 39 = .ok (.sipush 999, 3) := by decide +kernel
theorem dX11_isGoerHere_42 : decode cX11_isGoerHere 42 = .ok (.invokevirtual 174, 3) := by decide +kernel
theorem dX11_isGoerHere_45 : decode cX11_isGoerHere 45 = .ok (.ifCond .ne 5, 3) := by decide +kernel
theorem dX11_isGoerHere_48 : decode cX11_isGoerHere 48 = .ok (.iconst 0, 1) := by decide +kernel
theorem dX11_isGoerHere_49 : decode cX11_isGoerHere 49 = .ok (.ireturn, 1) := by decide +kernel
theorem dX11_isGoerHere_50 : decode cX11_isGoerHere 50 = .ok (.aload_n 0, 1) := by decide +kernel
theorem dX11_isGoerHere_51 : decode cX11_isGoerHere 51 = .ok (.getfield 29, 3) := by decide +kernel
theorem dX11_isGoerHere_54 : decode cX11_isGoerHere 54 = .ok (.iconst 3, 1) := by decide +kernel
theorem dX11_isGoerHere_55 : decode cX11_isGoerHere 55 = .ok (.aload_n 0, 1) := by decide +kernel
theorem dX11_isGoerHere_56 : decode cX11_isGoerHere 56 = .ok (.getfield 228, 3) := by decide +kernel
theorem dX11_isGoerHere_59 : decode cX11_isGoerHere 59 = .ok (.imul, 1) := by decide +kernel
theorem dX11_isGoerHere_60 : decode cX11_isGoerHere 60 = .ok (.iload_n 2, 1) := by decide +kernel
theorem dX11_isGoerHere_61 : decode cX11_isGoerHere 61 = .ok (.iadd, 1) := by decide +kernel
theorem dX11_isGoerHere_62 : decode cX11_isGoerHere 62 = .ok (.aload_n 0, 1) := by decide +kernel
theorem dX11_isGoerHere_63 : decode cX11_isGoerHere 63 = .ok (.getfield 122, 3) := by decide +kernel
theorem dX11_isGoerHere_66 : decode cX11_isGoerHere 66 = .ok (.iastore, 1) := by decide +kernel
theorem dX11_isGoerHere_67 : decode cX11_isGoerHere 67 = .ok (.iinc 2 1, 3) := by decide +kernel
theorem dX11_isGoerHere_70 : decode cX11_isGoerHere 70 = .ok (.goto (-48), 3) := by decide +kernel
theorem dX11_isGoerHere_73 : decode cX11_isGoerHere 73 = .ok (.aload_n 0, 1) := by decide +kernel
theorem dX11_isGoerHere_74 : decode cX11_isGoerHere 74 = .ok (.dup, 1) := by decide +kernel
theorem dX11_isGoerHere_75 : decode cX11_isGoerHere 75 = .ok (.getfield 228, 3) := by decide +kernel
theorem dX11_isGoerHere_78 : decode cX11_isGoerHere 78 = .ok (.iconst 1, 1) := by decide +kernel
theorem dX11_isGoerHere_79 : decode cX11_isGoerHere 79 = .ok (.iadd, 1) := by decide +kernel
theorem dX11_isGoerHere_80 : decode cX11_isGoerHere 80 = .ok (.putfield 228, 3) := by decide +kernel
theorem dX11_isGoerHere_83 : decode cX11_isGoerHere 83 = .ok (.iconst 1, 1) := by decide +kernel
theorem dX11_isGoerHere_84 : decode cX11_isGoerHere 84 = .ok (.ireturn, 1) := by decide +kernel
