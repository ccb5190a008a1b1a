theorem dX11_fewest_1 : decode cX11_fewest 1 = .ok (.iload_n 1, 1) := by decide +kernel
theorem dX11_fewest_2 : decode cX11_fewest 2 = .ok (.invokevirtual 350, 3) := by decide +kernel
theorem dX11_fewest_5 : decode cX11_fewest 5 = .ok (.ifCond .ne 5, 3) := by decide +kernel
theorem dX11_fewest_8 : decode cX11_fewest 8 = .ok (.iconst (-1), 1) := by decide +kernel
theorem dX11_fewest_9 : decode cX11_fewest 9 = .ok (.ireturn, 1) := by decide +kernel
theorem dX11_finest_0 : decode cX11_finest 0 = .ok (.iload_n 1, 1) := by decide +kernel
theorem dX11_finest_1 : decode cX11_finest 1 = .ok (.i2l, 1) := by decide +kernel
theorem dX11_finest_2 : decode cX11_finest 2 = .ok (.lconst 0, 1) := by decide +kernel
theorem dX11_finest_3 : decode cX11_finest 3 = .ok (.ldc2_w 435, 3) := by decide +kernel
theorem dX11_finest_6 : decode cX11_finest 6 = .ok (.invokestatic 125, 3) := by decide +kernel
theorem dX11_finest_9 : decode cX11_finest 9 = .ok (.ifCond .ne 5, 3) := by decide +kernel
theorem dX11_finest_12 : decode cX11_finest 12 = .ok (.iconst (-1), 1) := by decide +kernel
theorem dX11_finest_13 : decode cX11_finest 13 = .ok (.ireturn, 1) := by decide +kernel
theorem dX11_finest_14 : decode cX11_finest 14 = .ok (.bipush (-2), 2) := by decide +kernel
theorem dX11_finest_16 : decode cX11_finest 16 = .ok (.istore_n 2, 1) := by decide +kernel
theorem dX11_finest_17 : decode cX11_finest 17 = .ok (.iconst 0, 1) := by decide +kernel
theorem dX11_finest_18 : decode cX11_finest 18 = .ok (.istore_n 3, 1) := by decide +kernel
theorem dX11_finest_19 : decode cX11_finest 19 = .ok (.iconst 0, 1) := by decide +kernel
theorem dX11_finest_20 : decode cX11_finest 20 = .ok (.istore 4, 2) := by decide +kernel
theorem dX11_finest_22 : decode cX11_finest 22 = .ok (.aload_n 0, 1) := by decide +kernel
theorem dX11_finest_23 : decode cX11_finest 23 = .ok (.invokevirtual 442, 3) := by decide +kernel
theorem dX11_finest_26 : decode cX11_finest 26 = .ok (.iconst 0, 1) := by decide +kernel
theorem dX11_finest_27 : decode cX11_finest 27 = .ok (.istore 5, 2) := by decide +kernel
theorem dX11_finest_29 : decode cX11_finest 29 = .ok (.iload 5, 2) := by decide +kernel
theorem dX11_finest_31 : decode cX11_finest 31 = .ok (.aload_n 0, 1) := by decide +kernel
theorem dX11_finest_32 : decode cX11_finest 32 = .ok (.getfield 250, 3) := by decide +kernel
theorem dX11_finest_35 : decode cX11_finest 35 = .ok (.if_icmp .ge 70, 3) := by decide +kernel
theorem dX11_finest_105 : decode cX11_finest 105 = .ok (.iload_n 2, 1) := by decide +kernel
theorem dX11_finest_106 : decode cX11_finest 106 = .ok (.ireturn, 1) := by decide +kernel
theorem dX11_four_0 : decode cX11_four 0 = .ok (.bipush 24, 2) := by decide +kernel
theorem dX11_four_2 : decode cX11_four 2 = .ok (.istore_n 2, 1) := by decide +kernel
theorem dX11_four_3 : decode cX11_four 3 = .ok (.iload_n 2, 1) := by decide +kernel
theorem dX11_four_4 : decode cX11_four 4 = .ok (.ifCond .lt 32, 3) := by decide +kernel
theorem dX11_four_7 : decode cX11_four 7 = .ok (.aload_n 0, 1) := by decide +kernel
theorem dX11_four_8 : decode cX11_four 8 = .ok (.getfield 7, 3) := by decide +kernel
theorem dX11_four_11 : decode cX11_four 11 = .ok (.aload_n 0, 1) := by decide +kernel
theorem dX11_four_12 : decode cX11_four 12 = .ok (.getfield 86, 3) := by decide +kernel
theorem dX11_four_15 : decode cX11_four 15 = .ok (.iload_n 1, 1) := by decide +kernel
theorem dX11_four_16 : decode cX11_four 16 = .ok (.iload_n 2, 1) := by decide +kernel
theorem dX11_four_17 : decode cX11_four 17 = .ok (.ishr, 1) := by decide +kernel
theorem dX11_four_18 : decode cX11_four 18 = .ok (.i2b, 1) := by decide +kernel
theorem dX11_four_19 : decode cX11_four 19 = .ok (.bastore, 1) := by decide +kernel
theorem dX11_four_20 : decode cX11_four 20 = .ok (.aload_n 0, 1) := by decide +kernel
theorem dX11_four_21 : decode cX11_four 21 = .ok (.dup, 1) := by decide +kernel
theorem dX11_four_22 : decode cX11_four 22 = .ok (.getfield 86, 3) := by decide +kernel
theorem dX11_four_25 : decode cX11_four 25 = .ok (.iconst 1, 1) := by decide +kernel
theorem dX11_four_26 : decode cX11_four 26 = .ok (.iadd, 1) := by decide +kernel
theorem dX11_four_27 : decode cX11_four 27 = .ok (.putfield 86, 3) := by decide +kernel
theorem dX11_four_30 : decode cX11_four 30 = .ok (.iinc 2 (-8), 3) := by decide +kernel
theorem dX11_four_33 : decode cX11_four 33 = .ok (.goto (-30), 3) := by decide +kernel
theorem dX11_four_36 : decode cX11_four 36 = .ok (.return_, 1) := by decide +kernel
theorem dX11_free_0 : decode cX11_free 0 = .ok (.iload_n 1, 1) := by decide +kernel
theorem dX11_free_1 : decode cX11_free 1 = .ok (.i2l, 1) := by decide +kernel
theorem dX11_free_2 : decode cX11_free 2 = .ok (.lconst 0, 1) := by decide +kernel
theorem dX11_free_3 : decode cX11_free 3 = .ok (.aload_n 0, 1) := by decide +kernel
theorem dX11_free_4 : decode cX11_free 4 = .ok (.getfield 42, 3) := by decide +kernel
theorem dX11_free_7 : decode cX11_free 7 = .ok (.bipush 6, 2) := by decide +kernel
theorem dX11_free_9 : decode cX11_free 9 = .ok (.iaload, 1) := by decide +kernel
theorem dX11_free_10 : decode cX11_free 10 = .ok (.iconst 2, 1) := by decide +kernel
theorem dX11_free_11 : decode cX11_free 11 = .ok (.isub, 1) := by decide +kernel
theorem dX11_free_12 : decode cX11_free 12 = .ok (.i2l, 1) := by decide +kernel
theorem dX11_free_13 : decode cX11_free 13 = .ok (.invokestatic 125, 3) := by decide +kernel
theorem dX11_free_16 : decode cX11_free 16 = .ok (.ifCond .ne 5, 3) := by decide +kernel
theorem dX11_free_19 : decode cX11_free 19 = .ok (.iconst (-1), 1) := by decide +kernel
theorem dX11_free_20 : decode cX11_free 20 = .ok (.ireturn, 1) := by decide +kernel
theorem dX11_go_0 : decode cX11_go 0 = .ok (.aload_n 0, 1) := by decide +kernel
theorem dX11_go_1 : decode cX11_go 1 = .ok (.iload_n 1, 1) := by decide +kernel
theorem dX11_go_2 : decode cX11_go 2 = .ok (.iload_n 2, 1) := by decide +kernel
theorem dX11_go_3 : decode cX11_go 3 = .ok (.invokevirtual 316, 3) := by decide +kernel
theorem dX11_go_6 : decode cX11_go 6 = .ok (.ifCond .ne 5, 3) := by decide +kernel
theorem dX11_go_9 : decode cX11_go 9 = .ok (.iconst (-1), 1) := by decide +kernel
theorem dX11_go_10 : decode cX11_go 10 = .ok (.ireturn, 1) := by decide +kernel
theorem dX11_goer_0 : decode cX11_goer 0 = .ok (.aload_n 0, 1) := by decide +kernel
theorem dX11_goer_1 : decode cX11_goer 1 = .ok (.iload_n 1, 1) := by decide +kernel
theorem dX11_goer_2 : decode cX11_goer 2 = .ok (.invokevirtual 282, 3) := by decide +kernel
theorem dX11_goer_5 : decode cX11_goer 5 = .ok (.ifCond .eq 24, 3) := by decide +kernel
theorem dX11_goer_29 : decode cX11_goer 29 = .ok (.bipush (-2), 2) := by decide +kernel
theorem dX11_goer_31 : decode cX11_goer 31 = .ok (.ireturn, 1) := by decide +kernel
theorem dX11_goesTo_0 : decode cX11_goesTo 0 = .ok (.aload_n 0, 1) := by decide +kernel
theorem dX11_goesTo_1 : decode cX11_goesTo 1 = .ok (.invokevirtual 403, 3) := by decide +kernel
theorem dX11_goesTo_4 : decode cX11_goesTo 4 = .ok (.iconst 0, 1) := by decide +kernel
theorem dX11_goesTo_5 : decode cX11_goesTo 5 = .ok (.istore_n 2, 1) := by decide +kernel
theorem dX11_goesTo_6 : decode cX11_goesTo 6 = .ok (.iload_n 2, 1) := by decide +kernel
theorem dX11_goesTo_7 : decode cX11_goesTo 7 = .ok (.iload_n 1, 1) := by decide +kernel
theorem dX11_goesTo_8 : decode cX11_goesTo 8 = .ok (.if_icmp .ge 17, 3) := by decide +kernel
theorem dX11_goesTo_25 : decode cX11_goesTo 25 = .ok (.iload_n 2, 1) := by decide +kernel
theorem dX11_goesTo_26 : decode cX11_goesTo 26 = .ok (.ireturn, 1) := by decide +kernel
theorem dX11_home_0 : decode cX11_home 0 = .ok (.aload_n 0, 1) := by decide +kernel
theorem dX11_home_1 : decode cX11_home 1 = .ok (.iload_n 1, 1) := by decide +kernel
theorem dX11_home_2 : decode cX11_home 2 = .ok (.invokevirtual 432, 3) := by decide +kernel
theorem dX11_home_5 : decode cX11_home 5 = .ok (.ifCond .eq 15, 3) := by decide +kernel
theorem dX11_home_20 : decode cX11_home 20 = .ok (.iconst (-1), 1) := by decide +kernel
theorem dX11_home_21 : decode cX11_home 21 = .ok (.ireturn, 1) := by decide +kernel
theorem dX11_image_0 : decode cX11_image 0 = .ok (.iload_n 1, 1) := by decide +kernel
theorem dX11_image_1 : decode cX11_image 1 = .ok (.i2l, 1) := by decide +kernel
theorem dX11_image_2 : decode cX11_image 2 = .ok (.lconst 0, 1) := by decide +kernel
theorem dX11_image_3 : decode cX11_image 3 = .ok (.ldc2_w 440, 3) := by decide +kernel
theorem dX11_image_6 : decode cX11_image 6 = .ok (.invokestatic 125, 3) := by decide +kernel
theorem dX11_image_9 : decode cX11_image 9 = .ok (.ifCond .ne 5, 3) := by decide +kernel
theorem dX11_image_12 : decode cX11_image 12 = .ok (.iconst (-1), 1) := by decide +kernel
theorem dX11_image_13 : decode cX11_image 13 = .ok (.ireturn, 1) := by decide +kernel
theorem dX11_image_14 : decode cX11_image 14 = .ok (.aload_n 0, 1) := by decide +kernel
theorem dX11_image_15 : decode cX11_image 15 = .ok (.getfield 83, 3) := by decide +kernel
theorem dX11_image_18 : decode cX11_image 18 = .ok (.iload_n 1, 1) := by decide +kernel
theorem dX11_image_19 : decode cX11_image 19 = .ok (.iconst 1, 1) := by decide +kernel
theorem dX11_image_20 : decode cX11_image 20 = .ok (.bastore, 1) := by decide +kernel
theorem dX11_image_21 : decode cX11_image 21 = .ok (.iconst 0, 1) := by decide +kernel
theorem dX11_image_22 : decode cX11_image 22 = .ok (.istore_n 2, 1) := by decide +kernel
theorem dX11_image_23 : decode cX11_image 23 = .ok (.iload_n 2, 1) := by decide +kernel
theorem dX11_image_24 : decode cX11_image 24 = .ok (.sipush 202, 3) := by decide +kernel
theorem dX11_image_27 : decode cX11_image 27 = .ok (.if_icmp .ge 27, 3) := by decide +kernel
theorem dX11_image_30 : decode cX11_image 30 = .ok (.aload_n 0, 1) := by decide +kernel
theorem dX11_image_31 : decode cX11_image 31 = .ok (.getfield 80, 3) := by decide +kernel
theorem dX11_image_34 : decode cX11_image 34 = .ok (.sipush 202, 3) := by decide +kernel
theorem dX11_image_37 : decode cX11_image 37 = .ok (.iload_n 1, 1) := by decide +kernel
theorem dX11_image_38 : decode cX11_image 38 = .ok (.imul, 1) := by decide +kernel
theorem dX11_image_39 : decode cX11_image 39 = .ok (.iload_n 2, 1) := by decide +kernel
theorem dX11_image_40 : decode cX11_image 40 = .ok (.iadd, 1) := by decide +kernel
theorem dX11_image_41 : decode cX11_image 41 = .ok (.aload_n 0, 1) := by decide +kernel
theorem dX11_image_42 : decode cX11_image 42 = .ok (.getfield 42, 3) := by decide +kernel
theorem dX11_image_45 : decode cX11_image 45 = .ok (.iload_n 2, 1) := by decide +kernel
theorem dX11_image_46 : decode cX11_image 46 = .ok (.iaload, 1) := by decide +kernel
theorem dX11_image_47 : decode cX11_image 47 = .ok (.iastore, 1) := by decide +kernel
theorem dX11_image_48 : decode cX11_image 48 = .ok (.iinc 2 1, 3) := by decide +kernel
theorem dX11_image_51 : decode cX11_image 51 = .ok (.goto (-28), 3) := by decide +kernel
theorem dX11_image_54 : decode cX11_image 54 = .ok (.aload_n 0, 1) := by decide +kernel
theorem dX11_image_55 : decode cX11_image 55 = .ok (.getfield 42, 3) := by decide +kernel
theorem dX11_image_58 : decode cX11_image 58 = .ok (.iconst 4, 1) := by decide +kernel
theorem dX11_image_59 : decode cX11_image 59 = .ok (.iaload, 1) := by decide +kernel
theorem dX11_image_60 : decode cX11_image 60 = .ok (.ireturn, 1) := by decide +kernel
theorem dX11_in_0 : decode cX11_in 0 = .ok (.lload_n 0, 1) := by decide +kernel
theorem dX11_in_1 : decode cX11_in 1 = .ok (.lload_n 2, 1) := by decide +kernel
theorem dX11_in_2 : decode cX11_in 2 = .ok (.lcmp, 1) := by decide +kernel
theorem dX11_in_3 : decode cX11_in 3 = .ok (.ifCond .lt 14, 3) := by decide +kernel
theorem dX11_in_6 : decode cX11_in 6 = .ok (.lload_n 0, 1) := by decide +kernel
theorem dX11_in_7 : decode cX11_in 7 = .ok (.lload 4, 2) := by decide +kernel
theorem dX11_in_9 : decode cX11_in 9 = .ok (.lcmp, 1) := by decide +kernel
theorem dX11_in_10 : decode cX11_in 10 = .ok (.ifCond .gt 7, 3) := by decide +kernel
theorem dX11_in_13 : decode cX11_in 13 = .ok (.iconst 1, 1) := by decide +kernel
theorem dX11_in_14 : decode cX11_in 14 = .ok (.goto 4, 3) := by decide +kernel
theorem dX11_in_17 : decode cX11_in 17 = .ok (.iconst 0, 1) := by decide +kernel
theorem dX11_in_18 : decode cX11_in 18 = .ok (.ireturn, 1) := by decide +kernel
theorem dX11_init_0 : decode cX11_init 0 = .ok (.aload_n 0, 1) := by decide +kernel
theorem dX11_init_1 : decode cX11_init 1 = .ok (.invokespecial 1, 3) := by decide +kernel
theorem dX11_init_4 : decode cX11_init 4 = .ok (.aload_n 0, 1) := by decide +kernel
theorem dX11_init_5 : decode cX11_init 5 = .ok (.sipush 400, 3) := by decide +kernel
theorem dX11_init_8 : decode cX11_init 8 = .ok (.newarray .byte, 2) := by decide +kernel
theorem dX11_init_10 : decode cX11_init 10 = .ok (.putfield 7, 3) := by decide +kernel
theorem dX11_init_13 : decode cX11_init 13 = .ok (.aload_n 0, 1) := by decide +kernel
theorem dX11_init_14 : decode cX11_init 14 = .ok (.sipush 2400, 3) := by decide +kernel
theorem dX11_init_17 : decode cX11_init 17 = .ok (.newarray .int, 2) := by decide +kernel
theorem dX11_init_19 : decode cX11_init 19 = .ok (.putfield 13, 3) := by decide +kernel
theorem dX11_init_22 : decode cX11_init 22 = .ok (.aload_n 0, 1) := by decide +kernel
theorem dX11_init_23 : decode cX11_init 23 = .ok (.bipush 7, 2) := by decide +kernel
theorem dX11_init_25 : decode cX11_init 25 = .ok (.newarray .int, 2) := by decide +kernel
theorem dX11_init_27 : decode cX11_init 27 = .ok (.putfield 17, 3) := by decide +kernel
theorem dX11_init_30 : decode cX11_init 30 = .ok (.aload_n 0, 1) := by decide +kernel
theorem dX11_init_31 : decode cX11_init 31 = .ok (.sipush 360, 3) := by decide +kernel
theorem dX11_init_34 : decode cX11_init 34 = .ok (.newarray .int, 2) := by decide +kernel
theorem dX11_init_36 : decode cX11_init 36 = .ok (.putfield 20, 3) := by decide +kernel
theorem dX11_init_39 : decode cX11_init 39 = .ok (.aload_n 0, 1) := by decide +kernel
theorem dX11_init_40 : decode cX11_init 40 = .ok (.bipush 6, 2) := by decide +kernel
theorem dX11_init_42 : decode cX11_init 42 = .ok (.newarray .int, 2) := by decide +kernel
theorem dX11_init_44 : decode cX11_init 44 = .ok (.putfield 23, 3) := by decide +kernel
theorem dX11_init_47 : decode cX11_init 47 = .ok (.aload_n 0, 1) := by decide +kernel
theorem dX11_init_48 : decode cX11_init 48 = .ok (.bipush 42, 2) := by decide +kernel
theorem dX11_init_50 : decode cX11_init 50 = .ok (.newarray .int, 2) := by decide +kernel
theorem dX11_init_52 : decode cX11_init 52 = .ok (.putfield 26, 3) := by decide +kernel
theorem dX11_init_55 : decode cX11_init 55 = .ok (.aload_n 0, 1) := by decide +kernel
theorem dX11_init_56 : decode cX11_init 56 = .ok (.bipush 18, 2) := by decide +kernel
theorem dX11_init_58 : decode cX11_init 58 = .ok (.newarray .int, 2) := by decide +kernel
theorem dX11_init_60 : decode cX11_init 60 = .ok (.putfield 29, 3) := by decide +kernel
theorem dX11_init_63 : decode cX11_init 63 = .ok (.aload_n 0, 1) := by decide +kernel
theorem dX11_init_64 : decode cX11_init 64 = .ok (.sipush 400, 3) := by decide +kernel
theorem dX11_init_67 : decode cX11_init 67 = .ok (.newarray .int, 2) := by decide +kernel
theorem dX11_init_69 : decode cX11_init 69 = .ok (.putfield 32, 3) := by decide +kernel
theorem dX11_init_72 : decode cX11_init 72 = .ok (.aload_n 0, 1) := by decide +kernel
theorem dX11_init_73 : decode cX11_init 73 = .ok (.bipush 64, 2) := by decide +kernel
theorem dX11_init_75 : decode cX11_init 75 = .ok (.newarray .long, 2) := by decide +kernel
theorem dX11_init_77 : decode cX11_init 77 = .ok (.putfield 35, 3) := by decide +kernel
theorem dX11_init_80 : decode cX11_init 80 = .ok (.aload_n 0, 1) := by decide +kernel
theorem dX11_init_81 : decode cX11_init 81 = .ok (.bipush 12, 2) := by decide +kernel
theorem dX11_init_83 : decode cX11_init 83 = .ok (.newarray .long, 2) := by decide +kernel
theorem dX11_init_85 : decode cX11_init 85 = .ok (.putfield 39, 3) := by decide +kernel
theorem dX11_init_88 : decode cX11_init 88 = .ok (.aload_n 0, 1) := by decide +kernel
theorem dX11_init_89 : decode cX11_init 89 = .ok (.sipush 202, 3) := by decide +kernel
theorem dX11_init_92 : decode cX11_init 92 = .ok (.newarray .int, 2) := by decide +kernel
theorem dX11_init_94 : decode cX11_init 94 = .ok (.putfield 42, 3) := by decide +kernel
theorem dX11_init_97 : decode cX11_init 97 = .ok (.aload_n 0, 1) := by decide +kernel
theorem dX11_init_98 : decode cX11_init 98 = .ok (.sipush 202, 3) := by decide +kernel
theorem dX11_init_101 : decode cX11_init 101 = .ok (.newarray .int, 2) := by decide +kernel
theorem dX11_init_103 : decode cX11_init 103 = .ok (.putfield 45, 3) := by decide +kernel
theorem dX11_init_106 : decode cX11_init 106 = .ok (.aload_n 0, 1) := by decide +kernel
theorem dX11_init_107 : decode cX11_init 107 = .ok (.bipush 8, 2) := by decide +kernel
theorem dX11_init_109 : decode cX11_init 109 = .ok (.newarray .int, 2) := by decide +kernel
theorem dX11_init_111 : decode cX11_init 111 = .ok (.putfield 48, 3) := by decide +kernel
theorem dX11_init_114 : decode cX11_init 114 = .ok (.aload_n 0, 1) := by decide +kernel
theorem dX11_init_115 : decode cX11_init 115 = .ok (.ldc 51, 2) := by decide +kernel
theorem dX11_init_117 : decode cX11_init 117 = .ok (.newarray .int, 2) := by decide +kernel
theorem dX11_init_119 : decode cX11_init 119 = .ok (.putfield 52, 3) := by decide +kernel
theorem dX11_init_122 : decode cX11_init 122 = .ok (.aload_n 0, 1) := by decide +kernel
theorem dX11_init_123 : decode cX11_init 123 = .ok (.ldc 51, 2) := by decide +kernel
theorem dX11_init_125 : decode cX11_init 125 = .ok (.newarray .int, 2) := by decide +kernel
theorem dX11_init_127 : decode cX11_init 127 = .ok (.putfield 55, 3) := by decide +kernel
theorem dX11_init_130 : decode cX11_init 130 = .ok (.aload_n 0, 1) := by decide +kernel
theorem dX11_init_131 : decode cX11_init 131 = .ok (.ldc 51, 2) := by decide +kernel
theorem dX11_init_133 : decode cX11_init 133 = .ok (.newarray .int, 2) := by decide +kernel
theorem dX11_init_135 : decode cX11_init 135 = .ok (.putfield 58, 3) := by decide +kernel
theorem dX11_init_138 : decode cX11_init 138 = .ok (.aload_n 0, 1) := by decide +kernel
theorem dX11_init_139 : decode cX11_init 139 = .ok (.bipush 6, 2) := by decide +kernel
theorem dX11_init_141 : decode cX11_init 141 = .ok (.newarray .int, 2) := by decide +kernel
theorem dX11_init_143 : decode cX11_init 143 = .ok (.putfield 61, 3) := by decide +kernel
theorem dX11_init_146 : decode cX11_init 146 = .ok (.aload_n 0, 1) := by decide +kernel
theorem dX11_init_147 : decode cX11_init 147 = .ok (.bipush 14, 2) := by decide +kernel
theorem dX11_init_149 : decode cX11_init 149 = .ok (.newarray .boolean, 2) := by decide +kernel
theorem dX11_init_151 : decode cX11_init 151 = .ok (.putfield 64, 3) := by decide +kernel
theorem dX11_init_154 : decode cX11_init 154 = .ok (.aload_n 0, 1) := by decide +kernel
theorem dX11_init_155 : decode cX11_init 155 = .ok (.bipush 14, 2) := by decide +kernel
theorem dX11_init_157 : decode cX11_init 157 = .ok (.newarray .int, 2) := by decide +kernel
theorem dX11_init_159 : decode cX11_init 159 = .ok (.putfield 68, 3) := by decide +kernel
theorem dX11_init_162 : decode cX11_init 162 = .ok (.aload_n 0, 1) := by decide +kernel
theorem dX11_init_163 : decode cX11_init 163 = .ok (.sipush 2001, 3) := by decide +kernel
theorem dX11_init_166 : decode cX11_init 166 = .ok (.newarray .int, 2) := by decide +kernel
theorem dX11_init_168 : decode cX11_init 168 = .ok (.putfield 71, 3) := by decide +kernel
theorem dX11_init_171 : decode cX11_init 171 = .ok (.aload_n 0, 1) := by decide +kernel
theorem dX11_init_172 : decode cX11_init 172 = .ok (.sipush 2001, 3) := by decide +kernel
theorem dX11_init_175 : decode cX11_init 175 = .ok (.newarray .long, 2) := by decide +kernel
theorem dX11_init_177 : decode cX11_init 177 = .ok (.putfield 74, 3) := by decide +kernel
theorem dX11_init_180 : decode cX11_init 180 = .ok (.aload_n 0, 1) := by decide +kernel
theorem dX11_init_181 : decode cX11_init 181 = .ok (.bipush 6, 2) := by decide +kernel
theorem dX11_init_183 : decode cX11_init 183 = .ok (.newarray .int, 2) := by decide +kernel
theorem dX11_init_185 : decode cX11_init 185 = .ok (.putfield 77, 3) := by decide +kernel
theorem dX11_init_188 : decode cX11_init 188 = .ok (.aload_n 0, 1) := by decide +kernel
theorem dX11_init_189 : decode cX11_init 189 = .ok (.sipush 808, 3) := by decide +kernel
theorem dX11_init_192 : decode cX11_init 192 = .ok (.newarray .int, 2) := by decide +kernel
theorem dX11_init_194 : decode cX11_init 194 = .ok (.putfield 80, 3) := by decide +kernel
theorem dX11_init_197 : decode cX11_init 197 = .ok (.aload_n 0, 1) := by decide +kernel
theorem dX11_init_198 : decode cX11_init 198 = .ok (.iconst 4, 1) := by decide +kernel
theorem dX11_init_199 : decode cX11_init 199 = .ok (.newarray .boolean, 2) := by decide +kernel
theorem dX11_init_201 : decode cX11_init 201 = .ok (.putfield 83, 3) := by decide +kernel
theorem dX11_init_204 : decode cX11_init 204 = .ok (.return_, 1) := by decide +kernel
theorem dX11_isAnyOnWay_0 : decode cX11_isAnyOnWay 0 = .ok (.iconst 0, 1) := by decide +kernel
theorem dX11_isAnyOnWay_1 : decode cX11_isAnyOnWay 1 = .ok (.istore_n 1, 1) := by decide +kernel
theorem dX11_isAnyOnWay_2 : decode cX11_isAnyOnWay 2 = .ok (.iload_n 1, 1) := by decide +kernel
theorem dX11_isAnyOnWay_3 : decode cX11_isAnyOnWay 3 = .ok (.aload_n 0, 1) := by decide +kernel
theorem dX11_isAnyOnWay_4 : decode cX11_isAnyOnWay 4 = .ok (.getfield 42, 3) := by decide +kernel
theorem dX11_isAnyOnWay_7 : decode cX11_isAnyOnWay 7 = .ok (.iconst 1, 1) := by decide +kernel
theorem dX11_isAnyOnWay_8 : decode cX11_isAnyOnWay 8 = .ok (.iaload, 1) := by decide +kernel
theorem dX11_isAnyOnWay_9 : decode cX11_isAnyOnWay 9 = .ok (.if_icmp .ge 21, 3) := by decide +kernel
theorem dX11_isAnyOnWay_30 : decode cX11_isAnyOnWay 30 = .ok (.iconst 0, 1) := by decide +kernel
theorem dX11_isAnyOnWay_31 : decode cX11_isAnyOnWay 31 = .ok (.ireturn, 1) := by decide +kernel
theorem dX11_isGoer_0 : decode cX11_isGoer 0 = .ok (.iload_n 1, 1) := by decide +kernel
theorem dX11_isGoer_1 : decode cX11_isGoer 1 = .ok (.ifCond .lt 17, 3) := by decide +kernel
theorem dX11_isGoer_4 : decode cX11_isGoer 4 = .ok (.iload_n 1, 1) := by decide +kernel
theorem dX11_isGoer_5 : decode cX11_isGoer 5 = .ok (.aload_n 0, 1) := by decide +kernel
theorem dX11_isGoer_6 : decode cX11_isGoer 6 = .ok (.getfield 42, 3) := by decide +kernel
theorem dX11_isGoer_9 : decode cX11_isGoer 9 = .ok (.iconst 1, 1) := by decide +kernel
theorem dX11_isGoer_10 : decode cX11_isGoer 10 = .ok (.iaload, 1) := by decide +kernel
theorem dX11_isGoer_11 : decode cX11_isGoer 11 = .ok (.if_icmp .ge 7, 3) := by decide +kernel
theorem dX11_isGoer_18 : decode cX11_isGoer 18 = .ok (.iconst 0, 1) := by decide +kernel
theorem dX11_isGoer_19 : decode cX11_isGoer 19 = .ok (.ireturn, 1) := by decide +kernel
theorem dX11_isLetter_0 : decode cX11_isLetter 0 = .ok (.iload_n 1, 1) := by decide +kernel
theorem dX11_isLetter_1 : decode cX11_isLetter 1 = .ok (.aload_n 0, 1) := by decide +kernel
theorem dX11_isLetter_2 : decode cX11_isLetter 2 = .ok (.getfield 86, 3) := by decide +kernel
theorem dX11_isLetter_5 : decode cX11_isLetter 5 = .ok (.if_icmp .ge 29, 3) := by decide +kernel
theorem dX11_isLetter_34 : decode cX11_isLetter 34 = .ok (.iconst 0, 1) := by decide +kernel
theorem dX11_isLetter_35 : decode cX11_isLetter 35 = .ok (.ireturn, 1) := by decide +kernel
theorem dX11_isPlace_0 : decode cX11_isPlace 0 = .ok (.iload_n 0, 1) := by decide +kernel
theorem dX11_isPlace_1 : decode cX11_isPlace 1 = .ok (.ifCond .lt 13, 3) := by decide +kernel
theorem dX11_isPlace_4 : decode cX11_isPlace 4 = .ok (.iload_n 0, 1) := by decide +kernel
theorem dX11_isPlace_5 : decode cX11_isPlace 5 = .ok (.bipush 8, 2) := by decide +kernel
theorem dX11_isPlace_7 : decode cX11_isPlace 7 = .ok (.if_icmp .ge 7, 3) := by decide +kernel
theorem dX11_isPlace_10 : decode cX11_isPlace 10 = .ok (.iconst 1, 1) := by decide +kernel
theorem dX11_isPlace_11 : decode cX11_isPlace 11 = .ok (.goto 4, 3) := by decide +kernel
theorem dX11_isPlace_14 : decode cX11_isPlace 14 = .ok (.iconst 0, 1) := by decide +kernel
theorem dX11_isPlace_15 : decode cX11_isPlace 15 = .ok (.ireturn, 1) := by decide +kernel
theorem dX11_isRule_0 : decode cX11_isRule 0 = .ok (.iload_n 1, 1) := by decide +kernel
theorem dX11_isRule_1 : decode cX11_isRule 1 = .ok (.ifCond .lt 15, 3) := by decide +kernel
theorem dX11_isRule_4 : decode cX11_isRule 4 = .ok (.iload_n 1, 1) := by decide +kernel
theorem dX11_isRule_5 : decode cX11_isRule 5 = .ok (.aload_n 0, 1) := by decide +kernel
theorem dX11_isRule_6 : decode cX11_isRule 6 = .ok (.getfield 250, 3) := by decide +kernel
theorem dX11_isRule_9 : decode cX11_isRule 9 = .ok (.if_icmp .ge 7, 3) := by decide +kernel
theorem dX11_isRule_16 : decode cX11_isRule 16 = .ok (.iconst 0, 1) := by decide +kernel
theorem dX11_isRule_17 : decode cX11_isRule 17 = .ok (.ireturn, 1) := by decide +kernel
theorem dX11_isWay_0 : decode cX11_isWay 0 = .ok (.iload_n 1, 1) := by decide +kernel
theorem dX11_isWay_1 : decode cX11_isWay 1 = .ok (.ifCond .lt 17, 3) := by decide +kernel
theorem dX11_isWay_4 : decode cX11_isWay 4 = .ok (.iload_n 1, 1) := by decide +kernel
theorem dX11_isWay_5 : decode cX11_isWay 5 = .ok (.aload_n 0, 1) := by decide +kernel
theorem dX11_isWay_6 : decode cX11_isWay 6 = .ok (.getfield 42, 3) := by decide +kernel
theorem dX11_isWay_9 : decode cX11_isWay 9 = .ok (.iconst 0, 1) := by decide +kernel
theorem dX11_isWay_10 : decode cX11_isWay 10 = .ok (.iaload, 1) := by decide +kernel
theorem dX11_isWay_11 : decode cX11_isWay 11 = .ok (.if_icmp .ge 7, 3) := by decide +kernel
theorem dX11_isWay_18 : decode cX11_isWay 18 = .ok (.iconst 0, 1) := by decide +kernel
theorem dX11_isWay_19 : decode cX11_isWay 19 = .ok (.ireturn, 1) := by decide +kernel
theorem dX11_isWord_0 : decode cX11_isWord 0 = .ok (.aload_n 0, 1) := by decide +kernel
theorem dX11_isWord_1 : decode cX11_isWord 1 = .ok (.invokevirtual 100, 3) := by decide +kernel
theorem dX11_isWord_4 : decode cX11_isWord 4 = .ok (.pop, 1) := by decide +kernel
theorem dX11_isWord_5 : decode cX11_isWord 5 = .ok (.lconst 0, 1) := by decide +kernel
theorem dX11_isWord_6 : decode cX11_isWord 6 = .ok (.lstore_n 3, 1) := by decide +kernel
theorem dX11_isWord_7 : decode cX11_isWord 7 = .ok (.iconst 0, 1) := by decide +kernel
