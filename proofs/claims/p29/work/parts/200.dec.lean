theorem dJ0_charAt_5068e_0 : decode cJ0_charAt_5068e 0 = .ok (.aload_n 0, 1) := by decide +kernel
theorem dJ0_charAt_5068e_1 : decode cJ0_charAt_5068e 1 = .ok (.invokevirtual 492, 3) := by decide +kernel
theorem dJ0_charAt_5068e_4 : decode cJ0_charAt_5068e 4 = .ok (.ifCond .eq 12, 3) := by decide +kernel
theorem dJ0_charAt_5068e_7 : decode cJ0_charAt_5068e 7 = .ok (.aload_n 0, 1) := by decide +kernel
theorem dJ0_charAt_5068e_8 : decode cJ0_charAt_5068e 8 = .ok (.getfield 9, 3) := by decide +kernel
theorem dJ0_charAt_5068e_11 : decode cJ0_charAt_5068e 11 = .ok (.iload_n 1, 1) := by decide +kernel
theorem dJ0_charAt_5068e_12 : decode cJ0_charAt_5068e 12 = .ok (.invokestatic 495, 3) := by decide +kernel
theorem dJ0_charAt_5068e_15 : decode cJ0_charAt_5068e 15 = .ok (.ireturn, 1) := by decide +kernel
theorem dJ0_charAt_5068e_16 : decode cJ0_charAt_5068e 16 = .ok (.aload_n 0, 1) := by decide +kernel
theorem dJ0_charAt_5068e_17 : decode cJ0_charAt_5068e 17 = .ok (.getfield 9, 3) := by decide +kernel
theorem dJ0_charAt_5068e_20 : decode cJ0_charAt_5068e 20 = .ok (.iload_n 1, 1) := by decide +kernel
theorem dJ0_charAt_5068e_21 : decode cJ0_charAt_5068e 21 = .ok (.invokestatic 498, 3) := by decide +kernel
theorem dJ0_charAt_5068e_24 : decode cJ0_charAt_5068e 24 = .ok (.ireturn, 1) := by decide +kernel
theorem dJ0_isLatin1_aae02_0 : decode cJ0_isLatin1_aae02 0 = .ok (.getstatic 38, 3) := by decide +kernel
theorem dJ0_isLatin1_aae02_3 : decode cJ0_isLatin1_aae02 3 = .ok (.ifCond .eq 14, 3) := by decide +kernel
theorem dJ0_isLatin1_aae02_6 : decode cJ0_isLatin1_aae02 6 = .ok (.aload_n 0, 1) := by decide +kernel
theorem dJ0_isLatin1_aae02_7 : decode cJ0_isLatin1_aae02 7 = .ok (.getfield 15, 3) := by decide +kernel
theorem dJ0_isLatin1_aae02_10 : decode cJ0_isLatin1_aae02 10 = .ok (.ifCond .ne 7, 3) := by decide +kernel
theorem dJ0_isLatin1_aae02_13 : decode cJ0_isLatin1_aae02 13 = .ok (.iconst 1, 1) := by decide +kernel
theorem dJ0_isLatin1_aae02_14 : decode cJ0_isLatin1_aae02 14 = .ok (.goto 4, 3) := by decide +kernel
theorem dJ0_isLatin1_aae02_17 : decode cJ0_isLatin1_aae02 17 = .ok (.iconst 0, 1) := by decide +kernel
theorem dJ0_isLatin1_aae02_18 : decode cJ0_isLatin1_aae02 18 = .ok (.ireturn, 1) := by decide +kernel
theorem dJ1_charAt_3b067_0 : decode cJ1_charAt_3b067 0 = .ok (.iload_n 1, 1) := by decide +kernel
theorem dJ1_charAt_3b067_1 : decode cJ1_charAt_3b067 1 = .ok (.aload_n 0, 1) := by decide +kernel
theorem dJ1_charAt_3b067_2 : decode cJ1_charAt_3b067 2 = .ok (.arraylength, 1) := by decide +kernel
theorem dJ1_charAt_3b067_3 : decode cJ1_charAt_3b067 3 = .ok (.invokestatic 9, 3) := by decide +kernel
theorem dJ1_charAt_3b067_6 : decode cJ1_charAt_3b067 6 = .ok (.aload_n 0, 1) := by decide +kernel
theorem dJ1_charAt_3b067_7 : decode cJ1_charAt_3b067 7 = .ok (.iload_n 1, 1) := by decide +kernel
theorem dJ1_charAt_3b067_8 : decode cJ1_charAt_3b067 8 = .ok (.baload, 1) := by decide +kernel
theorem dJ1_charAt_3b067_9 : decode cJ1_charAt_3b067 9 = .ok (.sipush 255, 3) := by decide +kernel
theorem dJ1_charAt_3b067_12 : decode cJ1_charAt_3b067 12 = .ok (.iand, 1) := by decide +kernel
theorem dJ1_charAt_3b067_13 : decode cJ1_charAt_3b067 13 = .ok (.i2c, 1) := by decide +kernel
theorem dJ1_charAt_3b067_14 : decode cJ1_charAt_3b067 14 = .ok (.ireturn, 1) := by decide +kernel
theorem dJ6_bitCount_0f7a4_0 : decode cJ6_bitCount_0f7a4 0 = .ok (.iload_n 0, 1) := by decide +kernel
theorem dJ6_bitCount_0f7a4_1 : decode cJ6_bitCount_0f7a4 1 = .ok (.iload_n 0, 1) := by decide +kernel
theorem dJ6_bitCount_0f7a4_2 : decode cJ6_bitCount_0f7a4 2 = .ok (.iconst 1, 1) := by decide +kernel
theorem dJ6_bitCount_0f7a4_3 : decode cJ6_bitCount_0f7a4 3 = .ok (.iushr, 1) := by decide +kernel
theorem dJ6_bitCount_0f7a4_4 : decode cJ6_bitCount_0f7a4 4 = .ok (.ldc_w 265, 3) := by decide +kernel
theorem dJ6_bitCount_0f7a4_7 : decode cJ6_bitCount_0f7a4 7 = .ok (.iand, 1) := by decide +kernel
theorem dJ6_bitCount_0f7a4_8 : decode cJ6_bitCount_0f7a4 8 = .ok (.isub, 1) := by decide +kernel
theorem dJ6_bitCount_0f7a4_9 : decode cJ6_bitCount_0f7a4 9 = .ok (.istore_n 0, 1) := by decide +kernel
theorem dJ6_bitCount_0f7a4_10 : decode cJ6_bitCount_0f7a4 10 = .ok (.iload_n 0, 1) := by decide +kernel
theorem dJ6_bitCount_0f7a4_11 : decode cJ6_bitCount_0f7a4 11 = .ok (.ldc_w 266, 3) := by decide +kernel
theorem dJ6_bitCount_0f7a4_14 : decode cJ6_bitCount_0f7a4 14 = .ok (.iand, 1) := by decide +kernel
theorem dJ6_bitCount_0f7a4_15 : decode cJ6_bitCount_0f7a4 15 = .ok (.iload_n 0, 1) := by decide +kernel
theorem dJ6_bitCount_0f7a4_16 : decode cJ6_bitCount_0f7a4 16 = .ok (.iconst 2, 1) := by decide +kernel
theorem dJ6_bitCount_0f7a4_17 : decode cJ6_bitCount_0f7a4 17 = .ok (.iushr, 1) := by decide +kernel
theorem dJ6_bitCount_0f7a4_18 : decode cJ6_bitCount_0f7a4 18 = .ok (.ldc_w 266, 3) := by decide +kernel
theorem dJ6_bitCount_0f7a4_21 : decode cJ6_bitCount_0f7a4 21 = .ok (.iand, 1) := by decide +kernel
theorem dJ6_bitCount_0f7a4_22 : decode cJ6_bitCount_0f7a4 22 = .ok (.iadd, 1) := by decide +kernel
theorem dJ6_bitCount_0f7a4_23 : decode cJ6_bitCount_0f7a4 23 = .ok (.istore_n 0, 1) := by decide +kernel
theorem dJ6_bitCount_0f7a4_24 : decode cJ6_bitCount_0f7a4 24 = .ok (.iload_n 0, 1) := by decide +kernel
theorem dJ6_bitCount_0f7a4_25 : decode cJ6_bitCount_0f7a4 25 = .ok (.iload_n 0, 1) := by decide +kernel
theorem dJ6_bitCount_0f7a4_26 : decode cJ6_bitCount_0f7a4 26 = .ok (.iconst 4, 1) := by decide +kernel
theorem dJ6_bitCount_0f7a4_27 : decode cJ6_bitCount_0f7a4 27 = .ok (.iushr, 1) := by decide +kernel
theorem dJ6_bitCount_0f7a4_28 : decode cJ6_bitCount_0f7a4 28 = .ok (.iadd, 1) := by decide +kernel
theorem dJ6_bitCount_0f7a4_29 : decode cJ6_bitCount_0f7a4 29 = .ok (.ldc_w 267, 3) := by decide +kernel
theorem dJ6_bitCount_0f7a4_32 : decode cJ6_bitCount_0f7a4 32 = .ok (.iand, 1) := by decide +kernel
theorem dJ6_bitCount_0f7a4_33 : decode cJ6_bitCount_0f7a4 33 = .ok (.istore_n 0, 1) := by decide +kernel
theorem dJ6_bitCount_0f7a4_34 : decode cJ6_bitCount_0f7a4 34 = .ok (.iload_n 0, 1) := by decide +kernel
theorem dJ6_bitCount_0f7a4_35 : decode cJ6_bitCount_0f7a4 35 = .ok (.iload_n 0, 1) := by decide +kernel
theorem dJ6_bitCount_0f7a4_36 : decode cJ6_bitCount_0f7a4 36 = .ok (.bipush 8, 2) := by decide +kernel
theorem dJ6_bitCount_0f7a4_38 : decode cJ6_bitCount_0f7a4 38 = .ok (.iushr, 1) := by decide +kernel
theorem dJ6_bitCount_0f7a4_39 : decode cJ6_bitCount_0f7a4 39 = .ok (.iadd, 1) := by decide +kernel
theorem dJ6_bitCount_0f7a4_40 : decode cJ6_bitCount_0f7a4 40 = .ok (.istore_n 0, 1) := by decide +kernel
theorem dJ6_bitCount_0f7a4_41 : decode cJ6_bitCount_0f7a4 41 = .ok (.iload_n 0, 1) := by decide +kernel
theorem dJ6_bitCount_0f7a4_42 : decode cJ6_bitCount_0f7a4 42 = .ok (.iload_n 0, 1) := by decide +kernel
theorem dJ6_bitCount_0f7a4_43 : decode cJ6_bitCount_0f7a4 43 = .ok (.bipush 16, 2) := by decide +kernel
theorem dJ6_bitCount_0f7a4_45 : decode cJ6_bitCount_0f7a4 45 = .ok (.iushr, 1) := by decide +kernel
theorem dJ6_bitCount_0f7a4_46 : decode cJ6_bitCount_0f7a4 46 = .ok (.iadd, 1) := by decide +kernel
theorem dJ6_bitCount_0f7a4_47 : decode cJ6_bitCount_0f7a4 47 = .ok (.istore_n 0, 1) := by decide +kernel
theorem dJ6_bitCount_0f7a4_48 : decode cJ6_bitCount_0f7a4 48 = .ok (.iload_n 0, 1) := by decide +kernel
theorem dJ6_bitCount_0f7a4_49 : decode cJ6_bitCount_0f7a4 49 = .ok (.bipush 63, 2) := by decide +kernel
theorem dJ6_bitCount_0f7a4_51 : decode cJ6_bitCount_0f7a4 51 = .ok (.iand, 1) := by decide +kernel
theorem dJ6_bitCount_0f7a4_52 : decode cJ6_bitCount_0f7a4 52 = .ok (.ireturn, 1) := by decide +kernel
theorem dJ7_copyOf_59c91_0 : decode cJ7_copyOf_59c91 0 = .ok (.iload_n 1, 1) := by decide +kernel
theorem dJ7_copyOf_59c91_1 : decode cJ7_copyOf_59c91 1 = .ok (.aload_n 0, 1) := by decide +kernel
theorem dJ7_copyOf_59c91_2 : decode cJ7_copyOf_59c91 2 = .ok (.arraylength, 1) := by decide +kernel
theorem dJ7_copyOf_59c91_3 : decode cJ7_copyOf_59c91 3 = .ok (.if_icmp .ne 11, 3) := by decide +kernel
theorem dJ7_copyOf_59c91_6 : decode cJ7_copyOf_59c91 6 = .ok (.aload_n 0, 1) := by decide +kernel
theorem dJ7_copyOf_59c91_7 : decode cJ7_copyOf_59c91 7 = .ok (.invokevirtual 316, 3) := by decide +kernel
theorem dJ7_copyOf_59c91_10 : decode cJ7_copyOf_59c91 10 = .ok (.checkcast 317, 3) := by decide +kernel
theorem dJ7_copyOf_59c91_13 : decode cJ7_copyOf_59c91 13 = .ok (.areturn, 1) := by decide +kernel
theorem dJ7_copyOf_59c91_14 : decode cJ7_copyOf_59c91 14 = .ok (.iload_n 1, 1) := by decide +kernel
theorem dJ7_copyOf_59c91_15 : decode cJ7_copyOf_59c91 15 = .ok (.newarray .int, 2) := by decide +kernel
theorem dJ7_copyOf_59c91_17 : decode cJ7_copyOf_59c91 17 = .ok (.astore_n 2, 1) := by decide +kernel
theorem dJ7_copyOf_59c91_18 : decode cJ7_copyOf_59c91 18 = .ok (.aload_n 0, 1) := by decide +kernel
theorem dJ7_copyOf_59c91_19 : decode cJ7_copyOf_59c91 19 = .ok (.iconst 0, 1) := by decide +kernel
theorem dJ7_copyOf_59c91_20 : decode cJ7_copyOf_59c91 20 = .ok (.aload_n 2, 1) := by decide +kernel
theorem dJ7_copyOf_59c91_21 : decode cJ7_copyOf_59c91 21 = .ok (.iconst 0, 1) := by decide +kernel
theorem dJ7_copyOf_59c91_22 : decode cJ7_copyOf_59c91 22 = .ok (.aload_n 0, 1) := by decide +kernel
theorem dJ7_copyOf_59c91_23 : decode cJ7_copyOf_59c91 23 = .ok (.arraylength, 1) := by decide +kernel
theorem dJ7_copyOf_59c91_24 : decode cJ7_copyOf_59c91 24 = .ok (.iload_n 1, 1) := by decide +kernel
theorem dJ7_copyOf_59c91_25 : decode cJ7_copyOf_59c91 25 = .ok (.invokestatic 304, 3) := by decide +kernel
theorem dJ7_copyOf_59c91_28 : decode cJ7_copyOf_59c91 28 = .ok (.invokestatic 150, 3) := by decide +kernel
theorem dJ7_copyOf_59c91_31 : decode cJ7_copyOf_59c91 31 = .ok (.aload_n 2, 1) := by decide +kernel
theorem dJ7_copyOf_59c91_32 : decode cJ7_copyOf_59c91 32 = .ok (.areturn, 1) := by decide +kernel
theorem dJ9_min_7cf53_0 : decode cJ9_min_7cf53 0 = .ok (.iload_n 0, 1) := by decide +kernel
theorem dJ9_min_7cf53_1 : decode cJ9_min_7cf53 1 = .ok (.iload_n 1, 1) := by decide +kernel
theorem dJ9_min_7cf53_2 : decode cJ9_min_7cf53 2 = .ok (.if_icmp .gt 7, 3) := by decide +kernel
theorem dJ9_min_7cf53_5 : decode cJ9_min_7cf53 5 = .ok (.iload_n 0, 1) := by decide +kernel
theorem dJ9_min_7cf53_6 : decode cJ9_min_7cf53 6 = .ok (.goto 4, 3) := by decide +kernel
theorem dJ9_min_7cf53_9 : decode cJ9_min_7cf53 9 = .ok (.iload_n 1, 1) := by decide +kernel
theorem dJ9_min_7cf53_10 : decode cJ9_min_7cf53 10 = .ok (.ireturn, 1) := by decide +kernel
theorem dX0_aheadOfRound_0 : decode cX0_aheadOfRound 0 = .ok (.iconst 0, 1) := by decide +kernel
theorem dX0_aheadOfRound_1 : decode cX0_aheadOfRound 1 = .ok (.istore_n 2, 1) := by decide +kernel
theorem dX0_aheadOfRound_2 : decode cX0_aheadOfRound 2 = .ok (.iload_n 2, 1) := by decide +kernel
theorem dX0_aheadOfRound_3 : decode cX0_aheadOfRound 3 = .ok (.iload_n 1, 1) := by decide +kernel
theorem dX0_aheadOfRound_4 : decode cX0_aheadOfRound 4 = .ok (.iadd, 1) := by decide +kernel
theorem dX0_aheadOfRound_5 : decode cX0_aheadOfRound 5 = .ok (.sipush 2000, 3) := by decide +kernel
theorem dX0_aheadOfRound_8 : decode cX0_aheadOfRound 8 = .ok (.if_icmp .gt 22, 3) := by decide +kernel
theorem dX0_aheadOfRound_11 : decode cX0_aheadOfRound 11 = .ok (.aload_n 0, 1) := by decide +kernel
theorem dX0_aheadOfRound_12 : decode cX0_aheadOfRound 12 = .ok (.iload_n 2, 1) := by decide +kernel
theorem dX0_aheadOfRound_13 : decode cX0_aheadOfRound 13 = .ok (.iload_n 2, 1) := by decide +kernel
theorem dX0_aheadOfRound_14 : decode cX0_aheadOfRound 14 = .ok (.iload_n 1, 1) := by decide +kernel
theorem dX0_aheadOfRound_15 : decode cX0_aheadOfRound 15 = .ok (.iadd, 1) := by decide +kernel
theorem dX0_aheadOfRound_16 : decode cX0_aheadOfRound 16 = .ok (.invokevirtual 65, 3) := by decide +kernel
theorem dX0_aheadOfRound_19 : decode cX0_aheadOfRound 19 = .ok (.ifCond .eq 5, 3) := by decide +kernel
theorem dX0_aheadOfRound_22 : decode cX0_aheadOfRound 22 = .ok (.iload_n 2, 1) := by decide +kernel
theorem dX0_aheadOfRound_23 : decode cX0_aheadOfRound 23 = .ok (.ireturn, 1) := by decide +kernel
theorem dX0_aheadOfRound_24 : decode cX0_aheadOfRound 24 = .ok (.iinc 2 1, 3) := by decide +kernel
theorem dX0_aheadOfRound_27 : decode cX0_aheadOfRound 27 = .ok (.goto (-25), 3) := by decide +kernel
theorem dX0_aheadOfRound_30 : decode cX0_aheadOfRound 30 = .ok (.iconst (-1), 1) := by decide +kernel
theorem dX0_aheadOfRound_31 : decode cX0_aheadOfRound 31 = .ok (.ireturn, 1) := by decide +kernel
theorem dX0_begin_0 : decode cX0_begin 0 = .ok (.aload_n 0, 1) := by decide +kernel
theorem dX0_begin_1 : decode cX0_begin 1 = .ok (.aload_n 0, 1) := by decide +kernel
theorem dX0_begin_2 : decode cX0_begin 2 = .ok (.getfield 43, 3) := by decide +kernel
theorem dX0_begin_5 : decode cX0_begin 5 = .ok (.getfield 44, 3) := by decide +kernel
theorem dX0_begin_8 : decode cX0_begin 8 = .ok (.iload_n 1, 1) := by decide +kernel
theorem dX0_begin_9 : decode cX0_begin 9 = .ok (.iaload, 1) := by decide +kernel
theorem dX0_begin_10 : decode cX0_begin 10 = .ok (.bipush 7, 2) := by decide +kernel
theorem dX0_begin_12 : decode cX0_begin 12 = .ok (.iand, 1) := by decide +kernel
theorem dX0_begin_13 : decode cX0_begin 13 = .ok (.putfield 9, 3) := by decide +kernel
theorem dX0_begin_16 : decode cX0_begin 16 = .ok (.aload_n 0, 1) := by decide +kernel
theorem dX0_begin_17 : decode cX0_begin 17 = .ok (.aload_n 0, 1) := by decide +kernel
theorem dX0_begin_18 : decode cX0_begin 18 = .ok (.getfield 38, 3) := by decide +kernel
theorem dX0_begin_21 : decode cX0_begin 21 = .ok (.getfield 48, 3) := by decide +kernel
theorem dX0_begin_24 : decode cX0_begin 24 = .ok (.putfield 15, 3) := by decide +kernel
theorem dX0_begin_27 : decode cX0_begin 27 = .ok (.aload_n 0, 1) := by decide +kernel
theorem dX0_begin_28 : decode cX0_begin 28 = .ok (.iconst 0, 1) := by decide +kernel
theorem dX0_begin_29 : decode cX0_begin 29 = .ok (.putfield 22, 3) := by decide +kernel
theorem dX0_begin_32 : decode cX0_begin 32 = .ok (.iconst 0, 1) := by decide +kernel
theorem dX0_begin_33 : decode cX0_begin 33 = .ok (.istore_n 2, 1) := by decide +kernel
theorem dX0_begin_34 : decode cX0_begin 34 = .ok (.iload_n 2, 1) := by decide +kernel
theorem dX0_begin_35 : decode cX0_begin 35 = .ok (.aload_n 0, 1) := by decide +kernel
theorem dX0_begin_36 : decode cX0_begin 36 = .ok (.getfield 38, 3) := by decide +kernel
theorem dX0_begin_39 : decode cX0_begin 39 = .ok (.getfield 51, 3) := by decide +kernel
theorem dX0_begin_42 : decode cX0_begin 42 = .ok (.if_icmp .ge 96, 3) := by decide +kernel
theorem dX0_begin_45 : decode cX0_begin 45 = .ok (.iload_n 2, 1) := by decide +kernel
theorem dX0_begin_46 : decode cX0_begin 46 = .ok (.istore_n 3, 1) := by decide +kernel
theorem dX0_begin_47 : decode cX0_begin 47 = .ok (.iload_n 3, 1) := by decide +kernel
theorem dX0_begin_48 : decode cX0_begin 48 = .ok (.ifCond .le 51, 3) := by decide +kernel
theorem dX0_begin_51 : decode cX0_begin 51 = .ok (.aload_n 0, 1) := by decide +kernel
theorem dX0_begin_52 : decode cX0_begin 52 = .ok (.getfield 38, 3) := by decide +kernel
theorem dX0_begin_55 : decode cX0_begin 55 = .ok (.getfield 54, 3) := by decide +kernel
theorem dX0_begin_58 : decode cX0_begin 58 = .ok (.aload_n 0, 1) := by decide +kernel
theorem dX0_begin_59 : decode cX0_begin 59 = .ok (.getfield 18, 3) := by decide +kernel
theorem dX0_begin_62 : decode cX0_begin 62 = .ok (.iload_n 3, 1) := by decide +kernel
theorem dX0_begin_63 : decode cX0_begin 63 = .ok (.iconst 1, 1) := by decide +kernel
theorem dX0_begin_64 : decode cX0_begin 64 = .ok (.isub, 1) := by decide +kernel
theorem dX0_begin_65 : decode cX0_begin 65 = .ok (.iaload, 1) := by decide +kernel
theorem dX0_begin_66 : decode cX0_begin 66 = .ok (.iaload, 1) := by decide +kernel
theorem dX0_begin_67 : decode cX0_begin 67 = .ok (.aload_n 0, 1) := by decide +kernel
theorem dX0_begin_68 : decode cX0_begin 68 = .ok (.getfield 38, 3) := by decide +kernel
theorem dX0_begin_71 : decode cX0_begin 71 = .ok (.getfield 54, 3) := by decide +kernel
theorem dX0_begin_74 : decode cX0_begin 74 = .ok (.iload_n 2, 1) := by decide +kernel
theorem dX0_begin_75 : decode cX0_begin 75 = .ok (.iaload, 1) := by decide +kernel
theorem dX0_begin_76 : decode cX0_begin 76 = .ok (.if_icmp .le 23, 3) := by decide +kernel
theorem dX0_begin_79 : decode cX0_begin 79 = .ok (.aload_n 0, 1) := by decide +kernel
theorem dX0_begin_80 : decode cX0_begin 80 = .ok (.getfield 18, 3) := by decide +kernel
theorem dX0_begin_83 : decode cX0_begin 83 = .ok (.iload_n 3, 1) := by decide +kernel
theorem dX0_begin_84 : decode cX0_begin 84 = .ok (.aload_n 0, 1) := by decide +kernel
theorem dX0_begin_85 : decode cX0_begin 85 = .ok (.getfield 18, 3) := by decide +kernel
theorem dX0_begin_88 : decode cX0_begin 88 = .ok (.iload_n 3, 1) := by decide +kernel
theorem dX0_begin_89 : decode cX0_begin 89 = .ok (.iconst 1, 1) := by decide +kernel
theorem dX0_begin_90 : decode cX0_begin 90 = .ok (.isub, 1) := by decide +kernel
theorem dX0_begin_91 : decode cX0_begin 91 = .ok (.iaload, 1) := by decide +kernel
theorem dX0_begin_92 : decode cX0_begin 92 = .ok (.iastore, 1) := by decide +kernel
theorem dX0_begin_93 : decode cX0_begin 93 = .ok (.iinc 3 (-1), 3) := by decide +kernel
theorem dX0_begin_96 : decode cX0_begin 96 = .ok (.goto (-49), 3) := by decide +kernel
theorem dX0_begin_99 : decode cX0_begin 99 = .ok (.aload_n 0, 1) := by decide +kernel
theorem dX0_begin_100 : decode cX0_begin 100 = .ok (.getfield 18, 3) := by decide +kernel
theorem dX0_begin_103 : decode cX0_begin 103 = .ok (.iload_n 3, 1) := by decide +kernel
theorem dX0_begin_104 : decode cX0_begin 104 = .ok (.iload_n 2, 1) := by decide +kernel
theorem dX0_begin_105 : decode cX0_begin 105 = .ok (.iastore, 1) := by decide +kernel
theorem dX0_begin_106 : decode cX0_begin 106 = .ok (.aload_n 0, 1) := by decide +kernel
theorem dX0_begin_107 : decode cX0_begin 107 = .ok (.dup, 1) := by decide +kernel
theorem dX0_begin_108 : decode cX0_begin 108 = .ok (.getfield 22, 3) := by decide +kernel
theorem dX0_begin_111 : decode cX0_begin 111 = .ok (.aload_n 0, 1) := by decide +kernel
theorem dX0_begin_112 : decode cX0_begin 112 = .ok (.getfield 38, 3) := by decide +kernel
theorem dX0_begin_115 : decode cX0_begin 115 = .ok (.getfield 54, 3) := by decide +kernel
theorem dX0_begin_118 : decode cX0_begin 118 = .ok (.iload_n 2, 1) := by decide +kernel
theorem dX0_begin_119 : decode cX0_begin 119 = .ok (.iaload, 1) := by decide +kernel
theorem dX0_begin_120 : decode cX0_begin 120 = .ok (.ifCond .ne 7, 3) := by decide +kernel
theorem dX0_begin_123 : decode cX0_begin 123 = .ok (.iconst 1, 1) := by decide +kernel
theorem dX0_begin_124 : decode cX0_begin 124 = .ok (.goto 4, 3) := by decide +kernel
theorem dX0_begin_127 : decode cX0_begin 127 = .ok (.iconst 0, 1) := by decide +kernel
theorem dX0_begin_128 : decode cX0_begin 128 = .ok (.iadd, 1) := by decide +kernel
theorem dX0_begin_129 : decode cX0_begin 129 = .ok (.putfield 22, 3) := by decide +kernel
theorem dX0_begin_132 : decode cX0_begin 132 = .ok (.iinc 2 1, 3) := by decide +kernel
theorem dX0_begin_135 : decode cX0_begin 135 = .ok (.goto (-101), 3) := by decide +kernel
theorem dX0_begin_138 : decode cX0_begin 138 = .ok (.return_, 1) := by decide +kernel
theorem dX0_findRound_0 : decode cX0_findRound 0 = .ok (.aload_n 0, 1) := by decide +kernel
theorem dX0_findRound_1 : decode cX0_findRound 1 = .ok (.getfield 25, 3) := by decide +kernel
theorem dX0_findRound_4 : decode cX0_findRound 4 = .ok (.arraylength, 1) := by decide +kernel
theorem dX0_findRound_5 : decode cX0_findRound 5 = .ok (.ifCond .ne 21, 3) := by decide +kernel
theorem dX0_findRound_8 : decode cX0_findRound 8 = .ok (.aload_n 0, 1) := by decide +kernel
theorem dX0_findRound_9 : decode cX0_findRound 9 = .ok (.sipush 2001, 3) := by decide +kernel
theorem dX0_findRound_12 : decode cX0_findRound 12 = .ok (.newarray .long, 2) := by decide +kernel
theorem dX0_findRound_14 : decode cX0_findRound 14 = .ok (.putfield 25, 3) := by decide +kernel
theorem dX0_findRound_17 : decode cX0_findRound 17 = .ok (.aload_n 0, 1) := by decide +kernel
theorem dX0_findRound_18 : decode cX0_findRound 18 = .ok (.sipush 2001, 3) := by decide +kernel
theorem dX0_findRound_21 : decode cX0_findRound 21 = .ok (.newarray .int, 2) := by decide +kernel
theorem dX0_findRound_23 : decode cX0_findRound 23 = .ok (.putfield 29, 3) := by decide +kernel
theorem dX0_findRound_26 : decode cX0_findRound 26 = .ok (.iconst 0, 1) := by decide +kernel
theorem dX0_findRound_27 : decode cX0_findRound 27 = .ok (.istore_n 1, 1) := by decide +kernel
theorem dX0_findRound_28 : decode cX0_findRound 28 = .ok (.iload_n 1, 1) := by decide +kernel
theorem dX0_findRound_29 : decode cX0_findRound 29 = .ok (.sipush 2000, 3) := by decide +kernel
theorem dX0_findRound_32 : decode cX0_findRound 32 = .ok (.if_icmp .gt 53, 3) := by decide +kernel
theorem dX0_findRound_35 : decode cX0_findRound 35 = .ok (.aload_n 0, 1) := by decide +kernel
theorem dX0_findRound_36 : decode cX0_findRound 36 = .ok (.getfield 25, 3) := by decide +kernel
theorem dX0_findRound_39 : decode cX0_findRound 39 = .ok (.iload_n 1, 1) := by decide +kernel
theorem dX0_findRound_40 : decode cX0_findRound 40 = .ok (.aload_n 0, 1) := by decide +kernel
theorem dX0_findRound_41 : decode cX0_findRound 41 = .ok (.invokevirtual 61, 3) := by decide +kernel
theorem dX0_findRound_44 : decode cX0_findRound 44 = .ok (.lastore, 1) := by decide +kernel
theorem dX0_findRound_45 : decode cX0_findRound 45 = .ok (.aload_n 0, 1) := by decide +kernel
theorem dX0_findRound_46 : decode cX0_findRound 46 = .ok (.getfield 29, 3) := by decide +kernel
theorem dX0_findRound_49 : decode cX0_findRound 49 = .ok (.iload_n 1, 1) := by decide +kernel
theorem dX0_findRound_50 : decode cX0_findRound 50 = .ok (.aload_n 0, 1) := by decide +kernel
theorem dX0_findRound_51 : decode cX0_findRound 51 = .ok (.getfield 15, 3) := by decide +kernel
theorem dX0_findRound_54 : decode cX0_findRound 54 = .ok (.iconst 3, 1) := by decide +kernel
theorem dX0_findRound_55 : decode cX0_findRound 55 = .ok (.ishl, 1) := by decide +kernel
theorem dX0_findRound_56 : decode cX0_findRound 56 = .ok (.aload_n 0, 1) := by decide +kernel
theorem dX0_findRound_57 : decode cX0_findRound 57 = .ok (.getfield 9, 3) := by decide +kernel
theorem dX0_findRound_60 : decode cX0_findRound 60 = .ok (.ior, 1) := by decide +kernel
theorem dX0_findRound_61 : decode cX0_findRound 61 = .ok (.iastore, 1) := by decide +kernel
theorem dX0_findRound_62 : decode cX0_findRound 62 = .ok (.iload_n 1, 1) := by decide +kernel
theorem dX0_findRound_63 : decode cX0_findRound 63 = .ok (.sipush 2000, 3) := by decide +kernel
theorem dX0_findRound_66 : decode cX0_findRound 66 = .ok (.if_icmp .ge 13, 3) := by decide +kernel
theorem dX0_findRound_69 : decode cX0_findRound 69 = .ok (.aload_n 0, 1) := by decide +kernel
theorem dX0_findRound_70 : decode cX0_findRound 70 = .ok (.invokevirtual 57, 3) := by decide +kernel
theorem dX0_findRound_73 : decode cX0_findRound 73 = .ok (.iconst (-1), 1) := by decide +kernel
theorem dX0_findRound_74 : decode cX0_findRound 74 = .ok (.if_icmp .ne 5, 3) := by decide +kernel
theorem dX0_findRound_77 : decode cX0_findRound 77 = .ok (.iconst (-1), 1) := by decide +kernel
theorem dX0_findRound_78 : decode cX0_findRound 78 = .ok (.ireturn, 1) := by decide +kernel
theorem dX0_findRound_79 : decode cX0_findRound 79 = .ok (.iinc 1 1, 3) := by decide +kernel
theorem dX0_findRound_82 : decode cX0_findRound 82 = .ok (.goto (-54), 3) := by decide +kernel
theorem dX0_findRound_85 : decode cX0_findRound 85 = .ok (.iconst 1, 1) := by decide +kernel
theorem dX0_findRound_86 : decode cX0_findRound 86 = .ok (.istore_n 1, 1) := by decide +kernel
theorem dX0_findRound_87 : decode cX0_findRound 87 = .ok (.iload_n 1, 1) := by decide +kernel
theorem dX0_findRound_88 : decode cX0_findRound 88 = .ok (.sipush 2000, 3) := by decide +kernel
theorem dX0_findRound_91 : decode cX0_findRound 91 = .ok (.if_icmp .gt 26, 3) := by decide +kernel
theorem dX0_findRound_94 : decode cX0_findRound 94 = .ok (.aload_n 0, 1) := by decide +kernel
theorem dX0_findRound_95 : decode cX0_findRound 95 = .ok (.sipush 2000, 3) := by decide +kernel
theorem dX0_findRound_98 : decode cX0_findRound 98 = .ok (.iload_n 1, 1) := by decide +kernel
theorem dX0_findRound_99 : decode cX0_findRound 99 = .ok (.isub, 1) := by decide +kernel
theorem dX0_findRound_100 : decode cX0_findRound 100 = .ok (.sipush 2000, 3) := by decide +kernel
theorem dX0_findRound_103 : decode cX0_findRound 103 = .ok (.invokevirtual 65, 3) := by decide +kernel
theorem dX0_findRound_106 : decode cX0_findRound 106 = .ok (.ifCond .eq 5, 3) := by decide +kernel
theorem dX0_findRound_109 : decode cX0_findRound 109 = .ok (.iload_n 1, 1) := by decide +kernel
theorem dX0_findRound_110 : decode cX0_findRound 110 = .ok (.ireturn, 1) := by decide +kernel
theorem dX0_findRound_111 : decode cX0_findRound 111 = .ok (.iinc 1 1, 3) := by decide +kernel
theorem dX0_findRound_114 : decode cX0_findRound 114 = .ok (.goto (-27), 3) := by decide +kernel
theorem dX0_findRound_117 : decode cX0_findRound 117 = .ok (.iconst (-1), 1) := by decide +kernel
theorem dX0_findRound_118 : decode cX0_findRound 118 = .ok (.ireturn, 1) := by decide +kernel
theorem dX0_init_0 : decode cX0_init 0 = .ok (.aload_n 0, 1) := by decide +kernel
theorem dX0_init_1 : decode cX0_init 1 = .ok (.invokespecial 3, 3) := by decide +kernel
theorem dX0_init_4 : decode cX0_init 4 = .ok (.aload_n 0, 1) := by decide +kernel
theorem dX0_init_5 : decode cX0_init 5 = .ok (.iconst 0, 1) := by decide +kernel
theorem dX0_init_6 : decode cX0_init 6 = .ok (.putfield 9, 3) := by decide +kernel
theorem dX0_init_9 : decode cX0_init 9 = .ok (.aload_n 0, 1) := by decide +kernel
theorem dX0_init_10 : decode cX0_init 10 = .ok (.iconst 0, 1) := by decide +kernel
theorem dX0_init_11 : decode cX0_init 11 = .ok (.putfield 15, 3) := by decide +kernel
theorem dX0_init_14 : decode cX0_init 14 = .ok (.aload_n 0, 1) := by decide +kernel
theorem dX0_init_15 : decode cX0_init 15 = .ok (.bipush 14, 2) := by decide +kernel
theorem dX0_init_17 : decode cX0_init 17 = .ok (.newarray .int, 2) := by decide +kernel
theorem dX0_init_19 : decode cX0_init 19 = .ok (.putfield 18, 3) := by decide +kernel
theorem dX0_init_22 : decode cX0_init 22 = .ok (.aload_n 0, 1) := by decide +kernel
theorem dX0_init_23 : decode cX0_init 23 = .ok (.iconst 0, 1) := by decide +kernel
theorem dX0_init_24 : decode cX0_init 24 = .ok (.putfield 22, 3) := by decide +kernel
theorem dX0_init_27 : decode cX0_init 27 = .ok (.aload_n 0, 1) := by decide +kernel
theorem dX0_init_28 : decode cX0_init 28 = .ok (.iconst 0, 1) := by decide +kernel
theorem dX0_init_29 : decode cX0_init 29 = .ok (.newarray .long, 2) := by decide +kernel
theorem dX0_init_31 : decode cX0_init 31 = .ok (.putfield 25, 3) := by decide +kernel
theorem dX0_init_34 : decode cX0_init 34 = .ok (.aload_n 0, 1) := by decide +kernel
theorem dX0_init_35 : decode cX0_init 35 = .ok (.iconst 0, 1) := by decide +kernel
theorem dX0_init_36 : decode cX0_init 36 = .ok (.newarray .int, 2) := by decide +kernel
theorem dX0_init_38 : decode cX0_init 38 = .ok (.putfield 29, 3) := by decide +kernel
theorem dX0_init_41 : decode cX0_init 41 = .ok (.aload_n 0, 1) := by decide +kernel
theorem dX0_init_42 : decode cX0_init 42 = .ok (.aload_n 1, 1) := by decide +kernel
theorem dX0_init_43 : decode cX0_init 43 = .ok (.getfield 32, 3) := by decide +kernel
theorem dX0_init_46 : decode cX0_init 46 = .ok (.putfield 38, 3) := by decide +kernel
theorem dX0_init_49 : decode cX0_init 49 = .ok (.aload_n 0, 1) := by decide +kernel
theorem dX0_init_50 : decode cX0_init 50 = .ok (.aload_n 1, 1) := by decide +kernel
theorem dX0_init_51 : decode cX0_init 51 = .ok (.getfield 39, 3) := by decide +kernel
theorem dX0_init_54 : decode cX0_init 54 = .ok (.putfield 43, 3) := by decide +kernel
theorem dX0_init_57 : decode cX0_init 57 = .ok (.return_, 1) := by decide +kernel
theorem dX0_pace_0 : decode cX0_pace 0 = .ok (.aload_n 0, 1) := by decide +kernel
theorem dX0_pace_1 : decode cX0_pace 1 = .ok (.getfield 38, 3) := by decide +kernel
theorem dX0_pace_4 : decode cX0_pace 4 = .ok (.getfield 69, 3) := by decide +kernel
theorem dX0_pace_7 : decode cX0_pace 7 = .ok (.aload_n 0, 1) := by decide +kernel
theorem dX0_pace_8 : decode cX0_pace 8 = .ok (.getfield 9, 3) := by decide +kernel
theorem dX0_pace_11 : decode cX0_pace 11 = .ok (.iaload, 1) := by decide +kernel
theorem dX0_pace_12 : decode cX0_pace 12 = .ok (.aload_n 0, 1) := by decide +kernel
theorem dX0_pace_13 : decode cX0_pace 13 = .ok (.getfield 15, 3) := by decide +kernel
theorem dX0_pace_16 : decode cX0_pace 16 = .ok (.iconst (-1), 1) := by decide +kernel
theorem dX0_pace_17 : decode cX0_pace 17 = .ok (.ixor, 1) := by decide +kernel
theorem dX0_pace_18 : decode cX0_pace 18 = .ok (.iand, 1) := by decide +kernel
theorem dX0_pace_19 : decode cX0_pace 19 = .ok (.aload_n 0, 1) := by decide +kernel
theorem dX0_pace_20 : decode cX0_pace 20 = .ok (.getfield 38, 3) := by decide +kernel
theorem dX0_pace_23 : decode cX0_pace 23 = .ok (.getfield 72, 3) := by decide +kernel
theorem dX0_pace_26 : decode cX0_pace 26 = .ok (.aload_n 0, 1) := by decide +kernel
theorem dX0_pace_27 : decode cX0_pace 27 = .ok (.getfield 9, 3) := by decide +kernel
theorem dX0_pace_30 : decode cX0_pace 30 = .ok (.iaload, 1) := by decide +kernel
theorem dX0_pace_31 : decode cX0_pace 31 = .ok (.aload_n 0, 1) := by decide +kernel
theorem dX0_pace_32 : decode cX0_pace 32 = .ok (.getfield 15, 3) := by decide +kernel
theorem dX0_pace_35 : decode cX0_pace 35 = .ok (.iand, 1) := by decide +kernel
theorem dX0_pace_36 : decode cX0_pace 36 = .ok (.ior, 1) := by decide +kernel
theorem dX0_pace_37 : decode cX0_pace 37 = .ok (.istore_n 1, 1) := by decide +kernel
theorem dX0_pace_38 : decode cX0_pace 38 = .ok (.iconst 0, 1) := by decide +kernel
theorem dX0_pace_39 : decode cX0_pace 39 = .ok (.istore_n 2, 1) := by decide +kernel
theorem dX0_pace_40 : decode cX0_pace 40 = .ok (.iload_n 2, 1) := by decide +kernel
theorem dX0_pace_41 : decode cX0_pace 41 = .ok (.aload_n 0, 1) := by decide +kernel
theorem dX0_pace_42 : decode cX0_pace 42 = .ok (.getfield 38, 3) := by decide +kernel
theorem dX0_pace_45 : decode cX0_pace 45 = .ok (.getfield 51, 3) := by decide +kernel
theorem dX0_pace_48 : decode cX0_pace 48 = .ok (.if_icmp .ge 142, 3) := by decide +kernel
theorem dX0_pace_51 : decode cX0_pace 51 = .ok (.aload_n 0, 1) := by decide +kernel
theorem dX0_pace_52 : decode cX0_pace 52 = .ok (.getfield 18, 3) := by decide +kernel
theorem dX0_pace_55 : decode cX0_pace 55 = .ok (.iload_n 2, 1) := by decide +kernel
theorem dX0_pace_56 : decode cX0_pace 56 = .ok (.iaload, 1) := by decide +kernel
theorem dX0_pace_57 : decode cX0_pace 57 = .ok (.istore_n 3, 1) := by decide +kernel
theorem dX0_pace_58 : decode cX0_pace 58 = .ok (.iload_n 1, 1) := by decide +kernel
theorem dX0_pace_59 : decode cX0_pace 59 = .ok (.iload_n 3, 1) := by decide +kernel
theorem dX0_pace_60 : decode cX0_pace 60 = .ok (.ishr, 1) := by decide +kernel
theorem dX0_pace_61 : decode cX0_pace 61 = .ok (.iconst 1, 1) := by decide +kernel
theorem dX0_pace_62 : decode cX0_pace 62 = .ok (.iand, 1) := by decide +kernel
theorem dX0_pace_63 : decode cX0_pace 63 = .ok (.ifCond .eq 121, 3) := by decide +kernel
theorem dX0_pace_66 : decode cX0_pace 66 = .ok (.aload_n 0, 1) := by decide +kernel
theorem dX0_pace_67 : decode cX0_pace 67 = .ok (.dup, 1) := by decide +kernel
theorem dX0_pace_68 : decode cX0_pace 68 = .ok (.getfield 22, 3) := by decide +kernel
theorem dX0_pace_71 : decode cX0_pace 71 = .ok (.iload_n 2, 1) := by decide +kernel
theorem dX0_pace_72 : decode cX0_pace 72 = .ok (.aload_n 0, 1) := by decide +kernel
theorem dX0_pace_73 : decode cX0_pace 73 = .ok (.getfield 22, 3) := by decide +kernel
theorem dX0_pace_76 : decode cX0_pace 76 = .ok (.if_icmp .ge 7, 3) := by decide +kernel
theorem dX0_pace_79 : decode cX0_pace 79 = .ok (.iconst 1, 1) := by decide +kernel
theorem dX0_pace_80 : decode cX0_pace 80 = .ok (.goto 4, 3) := by decide +kernel
theorem dX0_pace_83 : decode cX0_pace 83 = .ok (.iconst 0, 1) := by decide +kernel
theorem dX0_pace_84 : decode cX0_pace 84 = .ok (.isub, 1) := by decide +kernel
theorem dX0_pace_85 : decode cX0_pace 85 = .ok (.putfield 22, 3) := by decide +kernel
theorem dX0_pace_88 : decode cX0_pace 88 = .ok (.iload_n 2, 1) := by decide +kernel
theorem dX0_pace_89 : decode cX0_pace 89 = .ok (.iconst 1, 1) := by decide +kernel
theorem dX0_pace_90 : decode cX0_pace 90 = .ok (.iadd, 1) := by decide +kernel
theorem dX0_pace_91 : decode cX0_pace 91 = .ok (.istore 4, 2) := by decide +kernel
theorem dX0_pace_93 : decode cX0_pace 93 = .ok (.iload 4, 2) := by decide +kernel
theorem dX0_pace_95 : decode cX0_pace 95 = .ok (.aload_n 0, 1) := by decide +kernel
theorem dX0_pace_96 : decode cX0_pace 96 = .ok (.getfield 38, 3) := by decide +kernel
theorem dX0_pace_99 : decode cX0_pace 99 = .ok (.getfield 51, 3) := by decide +kernel
theorem dX0_pace_102 : decode cX0_pace 102 = .ok (.if_icmp .ge 25, 3) := by decide +kernel
theorem dX0_pace_105 : decode cX0_pace 105 = .ok (.aload_n 0, 1) := by decide +kernel
theorem dX0_pace_106 : decode cX0_pace 106 = .ok (.getfield 18, 3) := by decide +kernel
theorem dX0_pace_109 : decode cX0_pace 109 = .ok (.iload 4, 2) := by decide +kernel
theorem dX0_pace_111 : decode cX0_pace 111 = .ok (.iconst 1, 1) := by decide +kernel
theorem dX0_pace_112 : decode cX0_pace 112 = .ok (.isub, 1) := by decide +kernel
theorem dX0_pace_113 : decode cX0_pace 113 = .ok (.aload_n 0, 1) := by decide +kernel
theorem dX0_pace_114 : decode cX0_pace 114 = .ok (.getfield 18, 3) := by decide +kernel
theorem dX0_pace_117 : decode cX0_pace 117 = .ok (.iload 4, 2) := by decide +kernel
theorem dX0_pace_119 : decode cX0_pace 119 = .ok (.iaload, 1) := by decide +kernel
theorem dX0_pace_120 : decode cX0_pace 120 = .ok (.iastore, 1) := by decide +kernel
theorem dX0_pace_121 : decode cX0_pace 121 = .ok (.iinc 4 1, 3) := by decide +kernel
theorem dX0_pace_124 : decode cX0_pace 124 = .ok (.goto (-31), 3) := by decide +kernel
theorem dX0_pace_127 : decode cX0_pace 127 = .ok (.aload_n 0, 1) := by decide +kernel
theorem dX0_pace_128 : decode cX0_pace 128 = .ok (.getfield 18, 3) := by decide +kernel
theorem dX0_pace_131 : decode cX0_pace 131 = .ok (.aload_n 0, 1) := by decide +kernel
theorem dX0_pace_132 : decode cX0_pace 132 = .ok (.getfield 38, 3) := by decide +kernel
theorem dX0_pace_135 : decode cX0_pace 135 = .ok (.getfield 51, 3) := by decide +kernel
theorem dX0_pace_138 : decode cX0_pace 138 = .ok (.iconst 1, 1) := by decide +kernel
theorem dX0_pace_139 : decode cX0_pace 139 = .ok (.isub, 1) := by decide +kernel
theorem dX0_pace_140 : decode cX0_pace 140 = .ok (.iload_n 3, 1) := by decide +kernel
theorem dX0_pace_141 : decode cX0_pace 141 = .ok (.iastore, 1) := by decide +kernel
theorem dX0_pace_142 : decode cX0_pace 142 = .ok (.aload_n 0, 1) := by decide +kernel
theorem dX0_pace_143 : decode cX0_pace 143 = .ok (.dup, 1) := by decide +kernel
theorem dX0_pace_144 : decode cX0_pace 144 = .ok (.getfield 9, 3) := by decide +kernel
theorem dX0_pace_147 : decode cX0_pace 147 = .ok (.aload_n 0, 1) := by decide +kernel
theorem dX0_pace_148 : decode cX0_pace 148 = .ok (.getfield 38, 3) := by decide +kernel
theorem dX0_pace_151 : decode cX0_pace 151 = .ok (.getfield 75, 3) := by decide +kernel
theorem dX0_pace_154 : decode cX0_pace 154 = .ok (.iload_n 3, 1) := by decide +kernel
theorem dX0_pace_155 : decode cX0_pace 155 = .ok (.iaload, 1) := by decide +kernel
theorem dX0_pace_156 : decode cX0_pace 156 = .ok (.aload_n 0, 1) := by decide +kernel
theorem dX0_pace_157 : decode cX0_pace 157 = .ok (.getfield 38, 3) := by decide +kernel
theorem dX0_pace_160 : decode cX0_pace 160 = .ok (.getfield 78, 3) := by decide +kernel
theorem dX0_pace_163 : decode cX0_pace 163 = .ok (.iload_n 3, 1) := by decide +kernel
theorem dX0_pace_164 : decode cX0_pace 164 = .ok (.iaload, 1) := by decide +kernel
theorem dX0_pace_165 : decode cX0_pace 165 = .ok (.ixor, 1) := by decide +kernel
theorem dX0_pace_166 : decode cX0_pace 166 = .ok (.ixor, 1) := by decide +kernel
theorem dX0_pace_167 : decode cX0_pace 167 = .ok (.putfield 9, 3) := by decide +kernel
theorem dX0_pace_170 : decode cX0_pace 170 = .ok (.aload_n 0, 1) := by decide +kernel
theorem dX0_pace_171 : decode cX0_pace 171 = .ok (.dup, 1) := by decide +kernel
theorem dX0_pace_172 : decode cX0_pace 172 = .ok (.getfield 15, 3) := by decide +kernel
theorem dX0_pace_175 : decode cX0_pace 175 = .ok (.iconst 1, 1) := by decide +kernel
theorem dX0_pace_176 : decode cX0_pace 176 = .ok (.iload_n 3, 1) := by decide +kernel
theorem dX0_pace_177 : decode cX0_pace 177 = .ok (.ishl, 1) := by decide +kernel
theorem dX0_pace_178 : decode cX0_pace 178 = .ok (.ixor, 1) := by decide +kernel
theorem dX0_pace_179 : decode cX0_pace 179 = .ok (.putfield 15, 3) := by decide +kernel
theorem dX0_pace_182 : decode cX0_pace 182 = .ok (.iload_n 3, 1) := by decide +kernel
theorem dX0_pace_183 : decode cX0_pace 183 = .ok (.ireturn, 1) := by decide +kernel
theorem dX0_pace_184 : decode cX0_pace 184 = .ok (.iinc 2 1, 3) := by decide +kernel
theorem dX0_pace_187 : decode cX0_pace 187 = .ok (.goto (-147), 3) := by decide +kernel
theorem dX0_pace_190 : decode cX0_pace 190 = .ok (.iconst (-1), 1) := by decide +kernel
theorem dX0_pace_191 : decode cX0_pace 191 = .ok (.ireturn, 1) := by decide +kernel
theorem dX0_pacesToCover_0 : decode cX0_pacesToCover 0 = .ok (.iconst 1, 1) := by decide +kernel
theorem dX0_pacesToCover_1 : decode cX0_pacesToCover 1 = .ok (.aload_n 0, 1) := by decide +kernel
theorem dX0_pacesToCover_2 : decode cX0_pacesToCover 2 = .ok (.getfield 38, 3) := by decide +kernel
theorem dX0_pacesToCover_5 : decode cX0_pacesToCover 5 = .ok (.getfield 51, 3) := by decide +kernel
theorem dX0_pacesToCover_8 : decode cX0_pacesToCover 8 = .ok (.ishl, 1) := by decide +kernel
theorem dX0_pacesToCover_9 : decode cX0_pacesToCover 9 = .ok (.iconst 1, 1) := by decide +kernel
theorem dX0_pacesToCover_10 : decode cX0_pacesToCover 10 = .ok (.isub, 1) := by decide +kernel
theorem dX0_pacesToCover_11 : decode cX0_pacesToCover 11 = .ok (.istore_n 1, 1) := by decide +kernel
theorem dX0_pacesToCover_12 : decode cX0_pacesToCover 12 = .ok (.iconst 0, 1) := by decide +kernel
theorem dX0_pacesToCover_13 : decode cX0_pacesToCover 13 = .ok (.istore_n 2, 1) := by decide +kernel
theorem dX0_pacesToCover_14 : decode cX0_pacesToCover 14 = .ok (.iload_n 2, 1) := by decide +kernel
theorem dX0_pacesToCover_15 : decode cX0_pacesToCover 15 = .ok (.sipush 2000, 3) := by decide +kernel
theorem dX0_pacesToCover_18 : decode cX0_pacesToCover 18 = .ok (.if_icmp .ge 41, 3) := by decide +kernel
theorem dX0_pacesToCover_21 : decode cX0_pacesToCover 21 = .ok (.iload_n 1, 1) := by decide +kernel
theorem dX0_pacesToCover_22 : decode cX0_pacesToCover 22 = .ok (.ifCond .eq 37, 3) := by decide +kernel
theorem dX0_pacesToCover_25 : decode cX0_pacesToCover 25 = .ok (.aload_n 0, 1) := by decide +kernel
theorem dX0_pacesToCover_26 : decode cX0_pacesToCover 26 = .ok (.invokevirtual 57, 3) := by decide +kernel
theorem dX0_pacesToCover_29 : decode cX0_pacesToCover 29 = .ok (.istore_n 3, 1) := by decide +kernel
theorem dX0_pacesToCover_30 : decode cX0_pacesToCover 30 = .ok (.iload_n 3, 1) := by decide +kernel
theorem dX0_pacesToCover_31 : decode cX0_pacesToCover 31 = .ok (.iconst (-1), 1) := by decide +kernel
theorem dX0_pacesToCover_32 : decode cX0_pacesToCover 32 = .ok (.if_icmp .ne 5, 3) := by decide +kernel
theorem dX0_pacesToCover_35 : decode cX0_pacesToCover 35 = .ok (.iconst (-1), 1) := by decide +kernel
theorem dX0_pacesToCover_36 : decode cX0_pacesToCover 36 = .ok (.ireturn, 1) := by decide +kernel
theorem dX0_pacesToCover_37 : decode cX0_pacesToCover 37 = .ok (.iload_n 1, 1) := by decide +kernel
theorem dX0_pacesToCover_38 : decode cX0_pacesToCover 38 = .ok (.iconst 1, 1) := by decide +kernel
theorem dX0_pacesToCover_39 : decode cX0_pacesToCover 39 = .ok (.iload_n 3, 1) := by decide +kernel
theorem dX0_pacesToCover_40 : decode cX0_pacesToCover 40 = .ok (.ishl, 1) := by decide +kernel
theorem dX0_pacesToCover_41 : decode cX0_pacesToCover 41 = .ok (.iconst (-1), 1) := by decide +kernel
theorem dX0_pacesToCover_42 : decode cX0_pacesToCover 42 = .ok (.ixor, 1) := by decide +kernel
theorem dX0_pacesToCover_43 : decode cX0_pacesToCover 43 = .ok (.iand, 1) := by decide +kernel
theorem dX0_pacesToCover_44 : decode cX0_pacesToCover 44 = .ok (.istore_n 1, 1) := by decide +kernel
theorem dX0_pacesToCover_45 : decode cX0_pacesToCover 45 = .ok (.iload_n 1, 1) := by decide +kernel
theorem dX0_pacesToCover_46 : decode cX0_pacesToCover 46 = .ok (.ifCond .ne 7, 3) := by decide +kernel
theorem dX0_pacesToCover_49 : decode cX0_pacesToCover 49 = .ok (.iload_n 2, 1) := by decide +kernel
theorem dX0_pacesToCover_50 : decode cX0_pacesToCover 50 = .ok (.iconst 1, 1) := by decide +kernel
theorem dX0_pacesToCover_51 : decode cX0_pacesToCover 51 = .ok (.iadd, 1) := by decide +kernel
theorem dX0_pacesToCover_52 : decode cX0_pacesToCover 52 = .ok (.ireturn, 1) := by decide +kernel
theorem dX0_pacesToCover_53 : decode cX0_pacesToCover 53 = .ok (.iinc 2 1, 3) := by decide +kernel
theorem dX0_pacesToCover_56 : decode cX0_pacesToCover 56 = .ok (.goto (-42), 3) := by decide +kernel
theorem dX0_pacesToCover_59 : decode cX0_pacesToCover 59 = .ok (.iload_n 1, 1) := by decide +kernel
theorem dX0_pacesToCover_60 : decode cX0_pacesToCover 60 = .ok (.ifCond .ne 7, 3) := by decide +kernel
theorem dX0_pacesToCover_63 : decode cX0_pacesToCover 63 = .ok (.iconst 0, 1) := by decide +kernel
theorem dX0_pacesToCover_64 : decode cX0_pacesToCover 64 = .ok (.goto 4, 3) := by decide +kernel
theorem dX0_pacesToCover_67 : decode cX0_pacesToCover 67 = .ok (.iconst (-1), 1) := by decide +kernel
theorem dX0_pacesToCover_68 : decode cX0_pacesToCover 68 = .ok (.ireturn, 1) := by decide +kernel
theorem dX0_packedOrder_0 : decode cX0_packedOrder 0 = .ok (.aload_n 0, 1) := by decide +kernel
theorem dX0_packedOrder_1 : decode cX0_packedOrder 1 = .ok (.getfield 22, 3) := by decide +kernel
theorem dX0_packedOrder_4 : decode cX0_packedOrder 4 = .ok (.iconst 1, 1) := by decide +kernel
theorem dX0_packedOrder_5 : decode cX0_packedOrder 5 = .ok (.if_icmp .le 11, 3) := by decide +kernel
theorem dX0_packedOrder_8 : decode cX0_packedOrder 8 = .ok (.aload_n 0, 1) := by decide +kernel
theorem dX0_packedOrder_9 : decode cX0_packedOrder 9 = .ok (.getfield 22, 3) := by decide +kernel
theorem dX0_packedOrder_12 : decode cX0_packedOrder 12 = .ok (.i2l, 1) := by decide +kernel
theorem dX0_packedOrder_13 : decode cX0_packedOrder 13 = .ok (.goto 4, 3) := by decide +kernel
theorem dX0_packedOrder_16 : decode cX0_packedOrder 16 = .ok (.lconst 0, 1) := by decide +kernel
theorem dX0_packedOrder_17 : decode cX0_packedOrder 17 = .ok (.lstore_n 1, 1) := by decide +kernel
theorem dX0_packedOrder_18 : decode cX0_packedOrder 18 = .ok (.iconst 0, 1) := by decide +kernel
theorem dX0_packedOrder_19 : decode cX0_packedOrder 19 = .ok (.istore_n 3, 1) := by decide +kernel
theorem dX0_packedOrder_20 : decode cX0_packedOrder 20 = .ok (.iload_n 3, 1) := by decide +kernel
theorem dX0_packedOrder_21 : decode cX0_packedOrder 21 = .ok (.aload_n 0, 1) := by decide +kernel
theorem dX0_packedOrder_22 : decode cX0_packedOrder 22 = .ok (.getfield 38, 3) := by decide +kernel
theorem dX0_packedOrder_25 : decode cX0_packedOrder 25 = .ok (.getfield 51, 3) := by decide +kernel
theorem dX0_packedOrder_28 : decode cX0_packedOrder 28 = .ok (.if_icmp .ge 21, 3) := by decide +kernel
theorem dX0_packedOrder_31 : decode cX0_packedOrder 31 = .ok (.lload_n 1, 1) := by decide +kernel
theorem dX0_packedOrder_32 : decode cX0_packedOrder 32 = .ok (.iconst 4, 1) := by decide +kernel
theorem dX0_packedOrder_33 : decode cX0_packedOrder 33 = .ok (.lshl, 1) := by decide +kernel
theorem dX0_packedOrder_34 : decode cX0_packedOrder 34 = .ok (.aload_n 0, 1) := by decide +kernel
theorem dX0_packedOrder_35 : decode cX0_packedOrder 35 = .ok (.getfield 18, 3) := by decide +kernel
theorem dX0_packedOrder_38 : decode cX0_packedOrder 38 = .ok (.iload_n 3, 1) := by decide +kernel
theorem dX0_packedOrder_39 : decode cX0_packedOrder 39 = .ok (.iaload, 1) := by decide +kernel
theorem dX0_packedOrder_40 : decode cX0_packedOrder 40 = .ok (.i2l, 1) := by decide +kernel
theorem dX0_packedOrder_41 : decode cX0_packedOrder 41 = .ok (.lor, 1) := by decide +kernel
theorem dX0_packedOrder_42 : decode cX0_packedOrder 42 = .ok (.lstore_n 1, 1) := by decide +kernel
theorem dX0_packedOrder_43 : decode cX0_packedOrder 43 = .ok (.iinc 3 1, 3) := by decide +kernel
theorem dX0_packedOrder_46 : decode cX0_packedOrder 46 = .ok (.goto (-26), 3) := by decide +kernel
theorem dX0_packedOrder_49 : decode cX0_packedOrder 49 = .ok (.lload_n 1, 1) := by decide +kernel
theorem dX0_packedOrder_50 : decode cX0_packedOrder 50 = .ok (.lreturn, 1) := by decide +kernel
theorem dX0_run_0 : decode cX0_run 0 = .ok (.iconst 0, 1) := by decide +kernel
theorem dX0_run_1 : decode cX0_run 1 = .ok (.istore_n 2, 1) := by decide +kernel
theorem dX0_run_2 : decode cX0_run 2 = .ok (.iload_n 2, 1) := by decide +kernel
theorem dX0_run_3 : decode cX0_run 3 = .ok (.iload_n 1, 1) := by decide +kernel
theorem dX0_run_4 : decode cX0_run 4 = .ok (.if_icmp .ge 19, 3) := by decide +kernel
theorem dX0_run_7 : decode cX0_run 7 = .ok (.aload_n 0, 1) := by decide +kernel
theorem dX0_run_8 : decode cX0_run 8 = .ok (.invokevirtual 57, 3) := by decide +kernel
theorem dX0_run_11 : decode cX0_run 11 = .ok (.iconst (-1), 1) := by decide +kernel
theorem dX0_run_12 : decode cX0_run 12 = .ok (.if_icmp .ne 5, 3) := by decide +kernel
theorem dX0_run_15 : decode cX0_run 15 = .ok (.iload_n 2, 1) := by decide +kernel
theorem dX0_run_16 : decode cX0_run 16 = .ok (.ireturn, 1) := by decide +kernel
theorem dX0_run_17 : decode cX0_run 17 = .ok (.iinc 2 1, 3) := by decide +kernel
theorem dX0_run_20 : decode cX0_run 20 = .ok (.goto (-18), 3) := by decide +kernel
theorem dX0_run_23 : decode cX0_run 23 = .ok (.iload_n 1, 1) := by decide +kernel
theorem dX0_run_24 : decode cX0_run 24 = .ok (.ireturn, 1) := by decide +kernel
