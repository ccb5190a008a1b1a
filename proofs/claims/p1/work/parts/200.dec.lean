theorem dJ6_bitCount_0f7a4_0 : decode cJ6_bitCount_0f7a4 0 = .ok (.iload_n 0, 1) := by decide +kernel
theorem dJ6_bitCount_0f7a4_1 : decode cJ6_bitCount_0f7a4 1 = .ok (.iload_n 0, 1) := by decide +kernel
theorem dJ6_bitCount_0f7a4_2 : decode cJ6_bitCount_0f7a4 2 = .ok (.iconst 1, 1) := by decide +kernel
theorem dJ6_bitCount_0f7a4_3 : decode cJ6_bitCount_0f7a4 3 = .ok (.iushr, 1) := by decide +kernel
theorem dJ6_bitCount_0f7a4_4 : decode cJ6_bitCount_0f7a4 4 = .ok (.ldc_w 265, 3) := by decide +kernel
theorem dJ6_bitCount_0f7a4_7 : decode cJ6_bitCount_0f7a4 7 = .ok (.iand, 1) := by decide +kernel
theorem dJ6_bitCount_0f7a4_8 : decode cJ6_bitCount_0f7a4 8 = .ok (.isub, 1) := by decide +kernel
theorem dJ6_bitCount_0f7a4_9 : decode cJ6_bitCount_0f7a4 9 = .ok (.istore_n 0, 1) := by decide +kernel
theorem dJ6_bitCount_0f7a4_10 : decode cJ6_bitCount_0f7a4 10 = .ok (.iload_n 0, 1) := by decide +kernel
theorem dJ6_bitCount_0f7a4_11 : decode cJ6_bitCount_0f7a4 11 = .ok (.ldc_w 266, 3) := by decide +kernel
theorem dJ6_bitCount_0f7a4_14 : decode cJ6_bitCount_0f7a4 14 = .ok (.iand, 1) := by decide +kernel
theorem dJ6_bitCount_0f7a4_15 : decode cJ6_bitCount_0f7a4 15 = .ok (.iload_n 0, 1) := by decide +kernel
theorem dJ6_bitCount_0f7a4_16 : decode cJ6_bitCount_0f7a4 16 = .ok (.iconst 2, 1) := by decide +kernel
theorem dJ6_bitCount_0f7a4_17 : decode cJ6_bitCount_0f7a4 17 = .ok (.iushr, 1) := by decide +kernel
theorem dJ6_bitCount_0f7a4_18 : decode cJ6_bitCount_0f7a4 18 = .ok (.ldc_w 266, 3) := by decide +kernel
theorem dJ6_bitCount_0f7a4_21 : decode cJ6_bitCount_0f7a4 21 = .ok (.iand, 1) := by decide +kernel
theorem dJ6_bitCount_0f7a4_22 : decode cJ6_bitCount_0f7a4 22 = .ok (.iadd, 1) := by decide +kernel
theorem dJ6_bitCount_0f7a4_23 : decode cJ6_bitCount_0f7a4 23 = .ok (.istore_n 0, 1) := by decide +kernel
theorem dJ6_bitCount_0f7a4_24 : decode cJ6_bitCount_0f7a4 24 = .ok (.iload_n 0, 1) := by decide +kernel
theorem dJ6_bitCount_0f7a4_25 : decode cJ6_bitCount_0f7a4 25 = .ok (.iload_n 0, 1) := by decide +kernel
theorem dJ6_bitCount_0f7a4_26 : decode cJ6_bitCount_0f7a4 26 = .ok (.iconst 4, 1) := by decide +kernel
theorem dJ6_bitCount_0f7a4_27 : decode cJ6_bitCount_0f7a4 27 = .ok (.iushr, 1) := by decide +kernel
theorem dJ6_bitCount_0f7a4_28 : decode cJ6_bitCount_0f7a4 28 = .ok (.iadd, 1) := by decide +kernel
theorem dJ6_bitCount_0f7a4_29 : decode cJ6_bitCount_0f7a4 29 = .ok (.ldc_w 267, 3) := by decide +kernel
theorem dJ6_bitCount_0f7a4_32 : decode cJ6_bitCount_0f7a4 32 = .ok (.iand, 1) := by decide +kernel
theorem dJ6_bitCount_0f7a4_33 : decode cJ6_bitCount_0f7a4 33 = .ok (.istore_n 0, 1) := by decide +kernel
theorem dJ6_bitCount_0f7a4_34 : decode cJ6_bitCount_0f7a4 34 = .ok (.iload_n 0, 1) := by decide +kernel
theorem dJ6_bitCount_0f7a4_35 : decode cJ6_bitCount_0f7a4 35 = .ok (.iload_n 0, 1) := by decide +kernel
theorem dJ6_bitCount_0f7a4_36 : decode cJ6_bitCount_0f7a4 36 = .ok (.bipush 8, 2) := by decide +kernel
theorem dJ6_bitCount_0f7a4_38 : decode cJ6_bitCount_0f7a4 38 = .ok (.iushr, 1) := by decide +kernel
theorem dJ6_bitCount_0f7a4_39 : decode cJ6_bitCount_0f7a4 39 = .ok (.iadd, 1) := by decide +kernel
theorem dJ6_bitCount_0f7a4_40 : decode cJ6_bitCount_0f7a4 40 = .ok (.istore_n 0, 1) := by decide +kernel
theorem dJ6_bitCount_0f7a4_41 : decode cJ6_bitCount_0f7a4 41 = .ok (.iload_n 0, 1) := by decide +kernel
theorem dJ6_bitCount_0f7a4_42 : decode cJ6_bitCount_0f7a4 42 = .ok (.iload_n 0, 1) := by decide +kernel
theorem dJ6_bitCount_0f7a4_43 : decode cJ6_bitCount_0f7a4 43 = .ok (.bipush 16, 2) := by decide +kernel
theorem dJ6_bitCount_0f7a4_45 : decode cJ6_bitCount_0f7a4 45 = .ok (.iushr, 1) := by decide +kernel
theorem dJ6_bitCount_0f7a4_46 : decode cJ6_bitCount_0f7a4 46 = .ok (.iadd, 1) := by decide +kernel
theorem dJ6_bitCount_0f7a4_47 : decode cJ6_bitCount_0f7a4 47 = .ok (.istore_n 0, 1) := by decide +kernel
theorem dJ6_bitCount_0f7a4_48 : decode cJ6_bitCount_0f7a4 48 = .ok (.iload_n 0, 1) := by decide +kernel
theorem dJ6_bitCount_0f7a4_49 : decode cJ6_bitCount_0f7a4 49 = .ok (.bipush 63, 2) := by decide +kernel
theorem dJ6_bitCount_0f7a4_51 : decode cJ6_bitCount_0f7a4 51 = .ok (.iand, 1) := by decide +kernel
theorem dJ6_bitCount_0f7a4_52 : decode cJ6_bitCount_0f7a4 52 = .ok (.ireturn, 1) := by decide +kernel
theorem dX0_init_0 : decode cX0_init 0 = .ok (.aload_n 0, 1) := by decide +kernel
theorem dX0_init_1 : decode cX0_init 1 = .ok (.invokespecial 3, 3) := by decide +kernel
theorem dX0_init_4 : decode cX0_init 4 = .ok (.aload_n 0, 1) := by decide +kernel
theorem dX0_init_5 : decode cX0_init 5 = .ok (.iconst 0, 1) := by decide +kernel
theorem dX0_init_6 : decode cX0_init 6 = .ok (.putfield 9, 3) := by decide +kernel
theorem dX0_init_9 : decode cX0_init 9 = .ok (.aload_n 0, 1) := by decide +kernel
theorem dX0_init_10 : decode cX0_init 10 = .ok (.iconst 0, 1) := by decide +kernel
theorem dX0_init_11 : decode cX0_init 11 = .ok (.putfield 15, 3) := by decide +kernel
theorem dX0_init_14 : decode cX0_init 14 = .ok (.aload_n 0, 1) := by decide +kernel
theorem dX0_init_15 : decode cX0_init 15 = .ok (.bipush 14, 2) := by decide +kernel
theorem dX0_init_17 : decode cX0_init 17 = .ok (.newarray .int, 2) := by decide +kernel
theorem dX0_init_19 : decode cX0_init 19 = .ok (.putfield 18, 3) := by decide +kernel
theorem dX0_init_22 : decode cX0_init 22 = .ok (.aload_n 0, 1) := by decide +kernel
theorem dX0_init_23 : decode cX0_init 23 = .ok (.iconst 0, 1) := by decide +kernel
theorem dX0_init_24 : decode cX0_init 24 = .ok (.putfield 22, 3) := by decide +kernel
theorem dX0_init_27 : decode cX0_init 27 = .ok (.aload_n 0, 1) := by decide +kernel
theorem dX0_init_28 : decode cX0_init 28 = .ok (.iconst 0, 1) := by decide +kernel
theorem dX0_init_29 : decode cX0_init 29 = .ok (.newarray .long, 2) := by decide +kernel
theorem dX0_init_31 : decode cX0_init 31 = .ok (.putfield 25, 3) := by decide +kernel
theorem dX0_init_34 : decode cX0_init 34 = .ok (.aload_n 0, 1) := by decide +kernel
theorem dX0_init_35 : decode cX0_init 35 = .ok (.iconst 0, 1) := by decide +kernel
theorem dX0_init_36 : decode cX0_init 36 = .ok (.newarray .int, 2) := by decide +kernel
theorem dX0_init_38 : decode cX0_init 38 = .ok (.putfield 29, 3) := by decide +kernel
theorem dX0_init_41 : decode cX0_init 41 = .ok (.aload_n 0, 1) := by decide +kernel
theorem dX0_init_42 : decode cX0_init 42 = .ok (.aload_n 1, 1) := by decide +kernel
theorem dX0_init_43 : decode cX0_init 43 = .ok (.getfield 32, 3) := by decide +kernel
theorem dX0_init_46 : decode cX0_init 46 = .ok (.putfield 38, 3) := by decide +kernel
theorem dX0_init_49 : decode cX0_init 49 = .ok (.aload_n 0, 1) := by decide +kernel
theorem dX0_init_50 : decode cX0_init 50 = .ok (.aload_n 1, 1) := by decide +kernel
theorem dX0_init_51 : decode cX0_init 51 = .ok (.getfield 39, 3) := by decide +kernel
theorem dX0_init_54 : decode cX0_init 54 = .ok (.putfield 43, 3) := by decide +kernel
theorem dX0_init_57 : decode cX0_init 57 = .ok (.return_, 1) := by decide +kernel
theorem dX10_ahead_0 : decode cX10_ahead 0 = .ok (.aload_n 0, 1) := by decide +kernel
theorem dX10_ahead_1 : decode cX10_ahead 1 = .ok (.iload_n 1, 1) := by decide +kernel
theorem dX10_ahead_2 : decode cX10_ahead 2 = .ok (.invokevirtual 274, 3) := by decide +kernel
theorem dX10_ahead_5 : decode cX10_ahead 5 = .ok (.ifCond .eq 23, 3) := by decide +kernel
theorem dX10_ahead_28 : decode cX10_ahead 28 = .ok (.iconst (-1), 1) := by decide +kernel
theorem dX10_ahead_29 : decode cX10_ahead 29 = .ok (.ireturn, 1) := by decide +kernel
theorem dX10_alike_0 : decode cX10_alike 0 = .ok (.aload_n 0, 1) := by decide +kernel
theorem dX10_alike_1 : decode cX10_alike 1 = .ok (.getfield 34, 3) := by decide +kernel
theorem dX10_alike_4 : decode cX10_alike 4 = .ok (.getfield 91, 3) := by decide +kernel
theorem dX10_alike_7 : decode cX10_alike 7 = .ok (.aload_n 0, 1) := by decide +kernel
theorem dX10_alike_8 : decode cX10_alike 8 = .ok (.getfield 34, 3) := by decide +kernel
theorem dX10_alike_11 : decode cX10_alike 11 = .ok (.getfield 91, 3) := by decide +kernel
theorem dX10_alike_14 : decode cX10_alike 14 = .ok (.invokevirtual 225, 3) := by decide +kernel
theorem dX10_alike_17 : decode cX10_alike 17 = .ok (.invokevirtual 218, 3) := by decide +kernel
theorem dX10_alike_20 : decode cX10_alike 20 = .ok (.ireturn, 1) := by decide +kernel
theorem dX10_back_0 : decode cX10_back 0 = .ok (.iload_n 1, 1) := by decide +kernel
theorem dX10_back_1 : decode cX10_back 1 = .ok (.ifCond .lt 17, 3) := by decide +kernel
theorem dX10_back_4 : decode cX10_back 4 = .ok (.iload_n 1, 1) := by decide +kernel
theorem dX10_back_5 : decode cX10_back 5 = .ok (.iconst 4, 1) := by decide +kernel
theorem dX10_back_6 : decode cX10_back 6 = .ok (.if_icmp .ge 12, 3) := by decide +kernel
theorem dX10_back_9 : decode cX10_back 9 = .ok (.aload_n 0, 1) := by decide +kernel
theorem dX10_back_10 : decode cX10_back 10 = .ok (.getfield 41, 3) := by decide +kernel
theorem dX10_back_13 : decode cX10_back 13 = .ok (.iload_n 1, 1) := by decide +kernel
theorem dX10_back_14 : decode cX10_back 14 = .ok (.aaload, 1) := by decide +kernel
theorem dX10_back_15 : decode cX10_back 15 = .ok (.ifnonnull 5, 3) := by decide +kernel
theorem dX10_back_18 : decode cX10_back 18 = .ok (.iconst (-1), 1) := by decide +kernel
theorem dX10_back_19 : decode cX10_back 19 = .ok (.ireturn, 1) := by decide +kernel
theorem dX10_canCircle_0 : decode cX10_canCircle 0 = .ok (.aload_n 0, 1) := by decide +kernel
theorem dX10_canCircle_1 : decode cX10_canCircle 1 = .ok (.getfield 34, 3) := by decide +kernel
theorem dX10_canCircle_4 : decode cX10_canCircle 4 = .ok (.getfield 126, 3) := by decide +kernel
theorem dX10_canCircle_7 : decode cX10_canCircle 7 = .ok (.iload_n 1, 1) := by decide +kernel
theorem dX10_canCircle_8 : decode cX10_canCircle 8 = .ok (.invokevirtual 229, 3) := by decide +kernel
theorem dX10_canCircle_11 : decode cX10_canCircle 11 = .ok (.ifCond .eq 20, 3) := by decide +kernel
theorem dX10_canCircle_31 : decode cX10_canCircle 31 = .ok (.iconst 0, 1) := by decide +kernel
theorem dX10_canCircle_32 : decode cX10_canCircle 32 = .ok (.ireturn, 1) := by decide +kernel
theorem dX10_canSearch_0 : decode cX10_canSearch 0 = .ok (.iload_n 1, 1) := by decide +kernel
theorem dX10_canSearch_1 : decode cX10_canSearch 1 = .ok (.iconst 1, 1) := by decide +kernel
theorem dX10_canSearch_2 : decode cX10_canSearch 2 = .ok (.if_icmp .lt 36, 3) := by decide +kernel
theorem dX10_canSearch_5 : decode cX10_canSearch 5 = .ok (.iload_n 1, 1) := by decide +kernel
theorem dX10_canSearch_6 : decode cX10_canSearch 6 = .ok (.iconst 1, 1) := by decide +kernel
theorem dX10_canSearch_7 : decode cX10_canSearch 7 = .ok (.aload_n 0, 1) := by decide +kernel
theorem dX10_canSearch_8 : decode cX10_canSearch 8 = .ok (.getfield 34, 3) := by decide +kernel
theorem dX10_canSearch_11 : decode cX10_canSearch 11 = .ok (.getfield 126, 3) := by decide +kernel
theorem dX10_canSearch_14 : decode cX10_canSearch 14 = .ok (.getfield 301, 3) := by decide +kernel
theorem dX10_canSearch_17 : decode cX10_canSearch 17 = .ok (.ishl, 1) := by decide +kernel
theorem dX10_canSearch_18 : decode cX10_canSearch 18 = .ok (.if_icmp .ge 20, 3) := by decide +kernel
theorem dX10_canSearch_38 : decode cX10_canSearch 38 = .ok (.iconst 0, 1) := by decide +kernel
theorem dX10_canSearch_39 : decode cX10_canSearch 39 = .ok (.ireturn, 1) := by decide +kernel
theorem dX10_closed_0 : decode cX10_closed 0 = .ok (.aload_n 0, 1) := by decide +kernel
theorem dX10_closed_1 : decode cX10_closed 1 = .ok (.iload_n 1, 1) := by decide +kernel
theorem dX10_closed_2 : decode cX10_closed 2 = .ok (.invokevirtual 199, 3) := by decide +kernel
theorem dX10_closed_5 : decode cX10_closed 5 = .ok (.ifCond .eq 12, 3) := by decide +kernel
theorem dX10_closed_17 : decode cX10_closed 17 = .ok (.iconst (-1), 1) := by decide +kernel
theorem dX10_closed_18 : decode cX10_closed 18 = .ok (.ireturn, 1) := by decide +kernel
theorem dX10_comes_0 : decode cX10_comes 0 = .ok (.aload_n 0, 1) := by decide +kernel
theorem dX10_comes_1 : decode cX10_comes 1 = .ok (.iload_n 1, 1) := by decide +kernel
theorem dX10_comes_2 : decode cX10_comes 2 = .ok (.invokevirtual 199, 3) := by decide +kernel
theorem dX10_comes_5 : decode cX10_comes 5 = .ok (.ifCond .eq 21, 3) := by decide +kernel
theorem dX10_comes_26 : decode cX10_comes 26 = .ok (.iconst (-1), 1) := by decide +kernel
theorem dX10_comes_27 : decode cX10_comes 27 = .ok (.ireturn, 1) := by decide +kernel
theorem dX10_count_0 : decode cX10_count 0 = .ok (.iload_n 1, 1) := by decide +kernel
theorem dX10_count_1 : decode cX10_count 1 = .ok (.tableswitch 141 0 9 #[55, 66, 77, 82, 93, 101, 109, 117, 125, 133], 55) := by decide +kernel
theorem dX10_count_56 : decode cX10_count 56 = .ok (.aload_n 0, 1) := by decide +kernel
theorem dX10_count_57 : decode cX10_count 57 = .ok (.getfield 34, 3) := by decide +kernel
theorem dX10_count_60 : decode cX10_count 60 = .ok (.getfield 91, 3) := by decide +kernel
theorem dX10_count_63 : decode cX10_count 63 = .ok (.getfield 95, 3) := by decide +kernel
theorem dX10_count_66 : decode cX10_count 66 = .ok (.ireturn, 1) := by decide +kernel
theorem dX10_count_67 : decode cX10_count 67 = .ok (.aload_n 0, 1) := by decide +kernel
theorem dX10_count_68 : decode cX10_count 68 = .ok (.getfield 34, 3) := by decide +kernel
theorem dX10_count_71 : decode cX10_count 71 = .ok (.getfield 126, 3) := by decide +kernel
theorem dX10_count_74 : decode cX10_count 74 = .ok (.getfield 301, 3) := by decide +kernel
theorem dX10_count_77 : decode cX10_count 77 = .ok (.ireturn, 1) := by decide +kernel
theorem dX10_count_78 : decode cX10_count 78 = .ok (.aload_n 0, 1) := by decide +kernel
theorem dX10_count_79 : decode cX10_count 79 = .ok (.getfield 68, 3) := by decide +kernel
theorem dX10_count_82 : decode cX10_count 82 = .ok (.ireturn, 1) := by decide +kernel
theorem dX10_count_83 : decode cX10_count 83 = .ok (.aload_n 0, 1) := by decide +kernel
theorem dX10_count_84 : decode cX10_count 84 = .ok (.getfield 34, 3) := by decide +kernel
theorem dX10_count_87 : decode cX10_count 87 = .ok (.getfield 91, 3) := by decide +kernel
theorem dX10_count_90 : decode cX10_count 90 = .ok (.getfield 196, 3) := by decide +kernel
theorem dX10_count_93 : decode cX10_count 93 = .ok (.ireturn, 1) := by decide +kernel
theorem dX10_count_94 : decode cX10_count 94 = .ok (.aload_n 0, 1) := by decide +kernel
theorem dX10_count_95 : decode cX10_count 95 = .ok (.getfield 34, 3) := by decide +kernel
theorem dX10_count_98 : decode cX10_count 98 = .ok (.getfield 291, 3) := by decide +kernel
theorem dX10_count_101 : decode cX10_count 101 = .ok (.ireturn, 1) := by decide +kernel
theorem dX10_count_102 : decode cX10_count 102 = .ok (.aload_n 0, 1) := by decide +kernel
theorem dX10_count_103 : decode cX10_count 103 = .ok (.getfield 34, 3) := by decide +kernel
theorem dX10_count_106 : decode cX10_count 106 = .ok (.getfield 277, 3) := by decide +kernel
theorem dX10_count_109 : decode cX10_count 109 = .ok (.ireturn, 1) := by decide +kernel
theorem dX10_count_110 : decode cX10_count 110 = .ok (.aload_n 0, 1) := by decide +kernel
theorem dX10_count_111 : decode cX10_count 111 = .ok (.getfield 34, 3) := by decide +kernel
theorem dX10_count_114 : decode cX10_count 114 = .ok (.getfield 288, 3) := by decide +kernel
theorem dX10_count_117 : decode cX10_count 117 = .ok (.ireturn, 1) := by decide +kernel
theorem dX10_count_118 : decode cX10_count 118 = .ok (.aload_n 0, 1) := by decide +kernel
theorem dX10_count_119 : decode cX10_count 119 = .ok (.getfield 34, 3) := by decide +kernel
theorem dX10_count_122 : decode cX10_count 122 = .ok (.getfield 261, 3) := by decide +kernel
theorem dX10_count_125 : decode cX10_count 125 = .ok (.ireturn, 1) := by decide +kernel
theorem dX10_count_126 : decode cX10_count 126 = .ok (.aload_n 0, 1) := by decide +kernel
theorem dX10_count_127 : decode cX10_count 127 = .ok (.getfield 34, 3) := by decide +kernel
theorem dX10_count_130 : decode cX10_count 130 = .ok (.getfield 85, 3) := by decide +kernel
theorem dX10_count_133 : decode cX10_count 133 = .ok (.ireturn, 1) := by decide +kernel
theorem dX10_count_134 : decode cX10_count 134 = .ok (.aload_n 0, 1) := by decide +kernel
theorem dX10_count_135 : decode cX10_count 135 = .ok (.getfield 10, 3) := by decide +kernel
theorem dX10_count_138 : decode cX10_count 138 = .ok (.getfield 72, 3) := by decide +kernel
theorem dX10_count_141 : decode cX10_count 141 = .ok (.ireturn, 1) := by decide +kernel
theorem dX10_count_142 : decode cX10_count 142 = .ok (.iconst (-1), 1) := by decide +kernel
theorem dX10_count_143 : decode cX10_count 143 = .ok (.ireturn, 1) := by decide +kernel
theorem dX10_covers_0 : decode cX10_covers 0 = .ok (.aload_n 0, 1) := by decide +kernel
theorem dX10_covers_1 : decode cX10_covers 1 = .ok (.iload_n 1, 1) := by decide +kernel
theorem dX10_covers_2 : decode cX10_covers 2 = .ok (.invokevirtual 242, 3) := by decide +kernel
theorem dX10_covers_5 : decode cX10_covers 5 = .ok (.ifCond .ne 5, 3) := by decide +kernel
theorem dX10_covers_8 : decode cX10_covers 8 = .ok (.iconst (-1), 1) := by decide +kernel
theorem dX10_covers_9 : decode cX10_covers 9 = .ok (.ireturn, 1) := by decide +kernel
theorem dX10_days_0 : decode cX10_days 0 = .ok (.aload_n 0, 1) := by decide +kernel
theorem dX10_days_1 : decode cX10_days 1 = .ok (.iload_n 1, 1) := by decide +kernel
theorem dX10_days_2 : decode cX10_days 2 = .ok (.invokevirtual 274, 3) := by decide +kernel
theorem dX10_days_5 : decode cX10_days 5 = .ok (.ifCond .eq 36, 3) := by decide +kernel
theorem dX10_days_41 : decode cX10_days 41 = .ok (.iconst (-1), 1) := by decide +kernel
theorem dX10_days_42 : decode cX10_days 42 = .ok (.ireturn, 1) := by decide +kernel
theorem dX10_decoys_0 : decode cX10_decoys 0 = .ok (.aload_n 0, 1) := by decide +kernel
theorem dX10_decoys_1 : decode cX10_decoys 1 = .ok (.getfield 34, 3) := by decide +kernel
theorem dX10_decoys_4 : decode cX10_decoys 4 = .ok (.getfield 126, 3) := by decide +kernel
theorem dX10_decoys_7 : decode cX10_decoys 7 = .ok (.iload_n 1, 1) := by decide +kernel
theorem dX10_decoys_8 : decode cX10_decoys 8 = .ok (.invokevirtual 229, 3) := by decide +kernel
theorem dX10_decoys_11 : decode cX10_decoys 11 = .ok (.ifCond .ne 5, 3) := by decide +kernel
theorem dX10_decoys_14 : decode cX10_decoys 14 = .ok (.iconst (-1), 1) := by decide +kernel
theorem dX10_decoys_15 : decode cX10_decoys 15 = .ok (.ireturn, 1) := by decide +kernel
theorem dX10_done_0 : decode cX10_done 0 = .ok (.aload_n 0, 1) := by decide +kernel
theorem dX10_done_1 : decode cX10_done 1 = .ok (.getfield 38, 3) := by decide +kernel
theorem dX10_done_4 : decode cX10_done 4 = .ok (.aload_n 0, 1) := by decide +kernel
theorem dX10_done_5 : decode cX10_done 5 = .ok (.getfield 34, 3) := by decide +kernel
theorem dX10_done_8 : decode cX10_done 8 = .ok (.invokevirtual 88, 3) := by decide +kernel
theorem dX10_done_11 : decode cX10_done 11 = .ok (.aload_n 0, 1) := by decide +kernel
theorem dX10_done_12 : decode cX10_done 12 = .ok (.getfield 38, 3) := by decide +kernel
theorem dX10_done_15 : decode cX10_done 15 = .ok (.aload_n 0, 1) := by decide +kernel
theorem dX10_done_16 : decode cX10_done 16 = .ok (.getfield 34, 3) := by decide +kernel
theorem dX10_done_19 : decode cX10_done 19 = .ok (.getfield 261, 3) := by decide +kernel
theorem dX10_done_22 : decode cX10_done 22 = .ok (.invokevirtual 267, 3) := by decide +kernel
theorem dX10_done_25 : decode cX10_done 25 = .ok (.ireturn, 1) := by decide +kernel
theorem dX10_end_0 : decode cX10_end 0 = .ok (.iload_n 1, 1) := by decide +kernel
theorem dX10_end_1 : decode cX10_end 1 = .ok (.ifCond .lt 14, 3) := by decide +kernel
theorem dX10_end_4 : decode cX10_end 4 = .ok (.iload_n 1, 1) := by decide +kernel
theorem dX10_end_5 : decode cX10_end 5 = .ok (.aload_n 0, 1) := by decide +kernel
theorem dX10_end_6 : decode cX10_end 6 = .ok (.getfield 10, 3) := by decide +kernel
theorem dX10_end_9 : decode cX10_end 9 = .ok (.getfield 72, 3) := by decide +kernel
theorem dX10_end_12 : decode cX10_end 12 = .ok (.if_icmp .le 5, 3) := by decide +kernel
theorem dX10_end_15 : decode cX10_end 15 = .ok (.iconst (-1), 1) := by decide +kernel
theorem dX10_end_16 : decode cX10_end 16 = .ok (.ireturn, 1) := by decide +kernel
theorem dX10_end_17 : decode cX10_end 17 = .ok (.aload_n 0, 1) := by decide +kernel
theorem dX10_end_18 : decode cX10_end 18 = .ok (.getfield 10, 3) := by decide +kernel
theorem dX10_end_21 : decode cX10_end 21 = .ok (.iload_n 1, 1) := by decide +kernel
theorem dX10_end_22 : decode cX10_end 22 = .ok (.putfield 72, 3) := by decide +kernel
theorem dX10_end_25 : decode cX10_end 25 = .ok (.iload_n 1, 1) := by decide +kernel
theorem dX10_end_26 : decode cX10_end 26 = .ok (.ireturn, 1) := by decide +kernel
theorem dX10_far_0 : decode cX10_far 0 = .ok (.iload_n 1, 1) := by decide +kernel
theorem dX10_far_1 : decode cX10_far 1 = .ok (.invokestatic 157, 3) := by decide +kernel
theorem dX10_far_4 : decode cX10_far 4 = .ok (.ifCond .eq 10, 3) := by decide +kernel
theorem dX10_far_7 : decode cX10_far 7 = .ok (.iload_n 2, 1) := by decide +kernel
theorem dX10_far_8 : decode cX10_far 8 = .ok (.invokestatic 157, 3) := by decide +kernel
theorem dX10_far_11 : decode cX10_far 11 = .ok (.ifCond .ne 5, 3) := by decide +kernel
theorem dX10_far_14 : decode cX10_far 14 = .ok (.iconst (-1), 1) := by decide +kernel
theorem dX10_far_15 : decode cX10_far 15 = .ok (.ireturn, 1) := by decide +kernel
theorem dX10_far_16 : decode cX10_far 16 = .ok (.aload_n 0, 1) := by decide +kernel
theorem dX10_far_17 : decode cX10_far 17 = .ok (.getfield 34, 3) := by decide +kernel
theorem dX10_far_20 : decode cX10_far 20 = .ok (.getfield 91, 3) := by decide +kernel
theorem dX10_far_23 : decode cX10_far 23 = .ok (.iload_n 1, 1) := by decide +kernel
theorem dX10_far_24 : decode cX10_far 24 = .ok (.iload_n 2, 1) := by decide +kernel
theorem dX10_far_25 : decode cX10_far 25 = .ok (.invokevirtual 177, 3) := by decide +kernel
theorem dX10_far_28 : decode cX10_far 28 = .ok (.istore_n 3, 1) := by decide +kernel
theorem dX10_far_29 : decode cX10_far 29 = .ok (.iload_n 3, 1) := by decide +kernel
theorem dX10_far_30 : decode cX10_far 30 = .ok (.ifCond .ge 8, 3) := by decide +kernel
theorem dX10_far_33 : decode cX10_far 33 = .ok (.bipush (-2), 2) := by decide +kernel
theorem dX10_far_35 : decode cX10_far 35 = .ok (.goto 4, 3) := by decide +kernel
theorem dX10_far_38 : decode cX10_far 38 = .ok (.iload_n 3, 1) := by decide +kernel
theorem dX10_far_39 : decode cX10_far 39 = .ok (.ireturn, 1) := by decide +kernel
theorem dX10_feed_0 : decode cX10_feed 0 = .ok (.aload_n 0, 1) := by decide +kernel
theorem dX10_feed_1 : decode cX10_feed 1 = .ok (.getfield 10, 3) := by decide +kernel
theorem dX10_feed_4 : decode cX10_feed 4 = .ok (.getfield 72, 3) := by decide +kernel
theorem dX10_feed_7 : decode cX10_feed 7 = .ok (.bipush 20, 2) := by decide +kernel
theorem dX10_feed_9 : decode cX10_feed 9 = .ok (.iadd, 1) := by decide +kernel
theorem dX10_feed_10 : decode cX10_feed 10 = .ok (.sipush 400, 3) := by decide +kernel
theorem dX10_feed_13 : decode cX10_feed 13 = .ok (.if_icmp .le 5, 3) := by decide +kernel
theorem dX10_feed_18 : decode cX10_feed 18 = .ok (.aload_n 0, 1) := by decide +kernel
theorem dX10_feed_19 : decode cX10_feed 19 = .ok (.getfield 10, 3) := by decide +kernel
theorem dX10_feed_22 : decode cX10_feed 22 = .ok (.iload_n 1, 1) := by decide +kernel
theorem dX10_feed_23 : decode cX10_feed 23 = .ok (.invokevirtual 75, 3) := by decide +kernel
theorem dX10_feed_26 : decode cX10_feed 26 = .ok (.aload_n 0, 1) := by decide +kernel
theorem dX10_feed_27 : decode cX10_feed 27 = .ok (.getfield 10, 3) := by decide +kernel
theorem dX10_feed_30 : decode cX10_feed 30 = .ok (.iload_n 2, 1) := by decide +kernel
theorem dX10_feed_31 : decode cX10_feed 31 = .ok (.invokevirtual 75, 3) := by decide +kernel
theorem dX10_feed_34 : decode cX10_feed 34 = .ok (.aload_n 0, 1) := by decide +kernel
theorem dX10_feed_35 : decode cX10_feed 35 = .ok (.getfield 10, 3) := by decide +kernel
theorem dX10_feed_38 : decode cX10_feed 38 = .ok (.iload_n 3, 1) := by decide +kernel
theorem dX10_feed_39 : decode cX10_feed 39 = .ok (.invokevirtual 75, 3) := by decide +kernel
theorem dX10_feed_42 : decode cX10_feed 42 = .ok (.aload_n 0, 1) := by decide +kernel
theorem dX10_feed_43 : decode cX10_feed 43 = .ok (.getfield 10, 3) := by decide +kernel
theorem dX10_feed_46 : decode cX10_feed 46 = .ok (.iload 4, 2) := by decide +kernel
theorem dX10_feed_48 : decode cX10_feed 48 = .ok (.invokevirtual 75, 3) := by decide +kernel
theorem dX10_feed_51 : decode cX10_feed 51 = .ok (.aload_n 0, 1) := by decide +kernel
theorem dX10_feed_52 : decode cX10_feed 52 = .ok (.getfield 10, 3) := by decide +kernel
theorem dX10_feed_55 : decode cX10_feed 55 = .ok (.iload 5, 2) := by decide +kernel
theorem dX10_feed_57 : decode cX10_feed 57 = .ok (.invokevirtual 75, 3) := by decide +kernel
theorem dX10_feed_60 : decode cX10_feed 60 = .ok (.aload_n 0, 1) := by decide +kernel
theorem dX10_feed_61 : decode cX10_feed 61 = .ok (.getfield 10, 3) := by decide +kernel
theorem dX10_feed_64 : decode cX10_feed 64 = .ok (.getfield 72, 3) := by decide +kernel
theorem dX10_feed_67 : decode cX10_feed 67 = .ok (.ireturn, 1) := by decide +kernel
theorem dX10_fewest_0 : decode cX10_fewest 0 = .ok (.aload_n 0, 1) := by decide +kernel
theorem dX10_fewest_1 : decode cX10_fewest 1 = .ok (.iload_n 1, 1) := by decide +kernel
theorem dX10_fewest_2 : decode cX10_fewest 2 = .ok (.invokevirtual 199, 3) := by decide +kernel
theorem dX10_fewest_5 : decode cX10_fewest 5 = .ok (.ifCond .ne 5, 3) := by decide +kernel
theorem dX10_fewest_8 : decode cX10_fewest 8 = .ok (.iconst (-1), 1) := by decide +kernel
theorem dX10_fewest_9 : decode cX10_fewest 9 = .ok (.ireturn, 1) := by decide +kernel
theorem dX10_finest_0 : decode cX10_finest 0 = .ok (.iload_n 1, 1) := by decide +kernel
theorem dX10_finest_1 : decode cX10_finest 1 = .ok (.ifCond .lt 10, 3) := by decide +kernel
theorem dX10_finest_4 : decode cX10_finest 4 = .ok (.iload_n 1, 1) := by decide +kernel
theorem dX10_finest_5 : decode cX10_finest 5 = .ok (.sipush 600, 3) := by decide +kernel
theorem dX10_finest_8 : decode cX10_finest 8 = .ok (.if_icmp .le 5, 3) := by decide +kernel
theorem dX10_finest_11 : decode cX10_finest 11 = .ok (.iconst (-1), 1) := by decide +kernel
theorem dX10_finest_12 : decode cX10_finest 12 = .ok (.ireturn, 1) := by decide +kernel
theorem dX10_finest_13 : decode cX10_finest 13 = .ok (.bipush (-2), 2) := by decide +kernel
theorem dX10_finest_15 : decode cX10_finest 15 = .ok (.istore_n 2, 1) := by decide +kernel
theorem dX10_finest_16 : decode cX10_finest 16 = .ok (.iconst 0, 1) := by decide +kernel
theorem dX10_finest_17 : decode cX10_finest 17 = .ok (.istore_n 3, 1) := by decide +kernel
theorem dX10_finest_18 : decode cX10_finest 18 = .ok (.iconst 0, 1) := by decide +kernel
theorem dX10_finest_19 : decode cX10_finest 19 = .ok (.istore 4, 2) := by decide +kernel
theorem dX10_finest_21 : decode cX10_finest 21 = .ok (.iconst 0, 1) := by decide +kernel
theorem dX10_finest_22 : decode cX10_finest 22 = .ok (.istore 5, 2) := by decide +kernel
