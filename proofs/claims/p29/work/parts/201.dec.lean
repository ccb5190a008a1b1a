theorem dX0_same_0 : decode cX0_same 0 = .ok (.aload_n 0, 1) := by decide +kernel
theorem dX0_same_1 : decode cX0_same 1 = .ok (.getfield 25, 3) := by decide +kernel
theorem dX0_same_4 : decode cX0_same 4 = .ok (.iload_n 1, 1) := by decide +kernel
theorem dX0_same_5 : decode cX0_same 5 = .ok (.laload, 1) := by decide +kernel
theorem dX0_same_6 : decode cX0_same 6 = .ok (.aload_n 0, 1) := by decide +kernel
theorem dX0_same_7 : decode cX0_same 7 = .ok (.getfield 25, 3) := by decide +kernel
theorem dX0_same_10 : decode cX0_same 10 = .ok (.iload_n 2, 1) := by decide +kernel
theorem dX0_same_11 : decode cX0_same 11 = .ok (.laload, 1) := by decide +kernel
theorem dX0_same_12 : decode cX0_same 12 = .ok (.lcmp, 1) := by decide +kernel
theorem dX0_same_13 : decode cX0_same 13 = .ok (.ifCond .ne 22, 3) := by decide +kernel
theorem dX0_same_16 : decode cX0_same 16 = .ok (.aload_n 0, 1) := by decide +kernel
theorem dX0_same_17 : decode cX0_same 17 = .ok (.getfield 29, 3) := by decide +kernel
theorem dX0_same_20 : decode cX0_same 20 = .ok (.iload_n 1, 1) := by decide +kernel
theorem dX0_same_21 : decode cX0_same 21 = .ok (.iaload, 1) := by decide +kernel
theorem dX0_same_22 : decode cX0_same 22 = .ok (.aload_n 0, 1) := by decide +kernel
theorem dX0_same_23 : decode cX0_same 23 = .ok (.getfield 29, 3) := by decide +kernel
theorem dX0_same_26 : decode cX0_same 26 = .ok (.iload_n 2, 1) := by decide +kernel
theorem dX0_same_27 : decode cX0_same 27 = .ok (.iaload, 1) := by decide +kernel
theorem dX0_same_28 : decode cX0_same 28 = .ok (.if_icmp .ne 7, 3) := by decide +kernel
theorem dX0_same_31 : decode cX0_same 31 = .ok (.iconst 1, 1) := by decide +kernel
theorem dX0_same_32 : decode cX0_same 32 = .ok (.goto 4, 3) := by decide +kernel
theorem dX0_same_35 : decode cX0_same 35 = .ok (.iconst 0, 1) := by decide +kernel
theorem dX0_same_36 : decode cX0_same 36 = .ok (.ireturn, 1) := by decide +kernel
theorem dX10_ahead_0 : decode cX10_ahead 0 = .ok (.aload_n 0, 1) := by decide +kernel
theorem dX10_ahead_1 : decode cX10_ahead 1 = .ok (.iload_n 1, 1) := by decide +kernel
theorem dX10_ahead_2 : decode cX10_ahead 2 = .ok (.invokevirtual 274, 3) := by decide +kernel
theorem dX10_ahead_5 : decode cX10_ahead 5 = .ok (.ifCond .eq 23, 3) := by decide +kernel
theorem dX10_ahead_8 : decode cX10_ahead 8 = .ok (.iload_n 2, 1) := by decide +kernel
theorem dX10_ahead_9 : decode cX10_ahead 9 = .ok (.ifCond .lt 19, 3) := by decide +kernel
theorem dX10_ahead_12 : decode cX10_ahead 12 = .ok (.iload_n 2, 1) := by decide +kernel
theorem dX10_ahead_13 : decode cX10_ahead 13 = .ok (.sipush 600, 3) := by decide +kernel
theorem dX10_ahead_16 : decode cX10_ahead 16 = .ok (.if_icmp .gt 12, 3) := by decide +kernel
theorem dX10_ahead_19 : decode cX10_ahead 19 = .ok (.iload_n 3, 1) := by decide +kernel
theorem dX10_ahead_20 : decode cX10_ahead 20 = .ok (.ifCond .lt 8, 3) := by decide +kernel
theorem dX10_ahead_23 : decode cX10_ahead 23 = .ok (.iload_n 3, 1) := by decide +kernel
theorem dX10_ahead_24 : decode cX10_ahead 24 = .ok (.iconst 3, 1) := by decide +kernel
theorem dX10_ahead_25 : decode cX10_ahead 25 = .ok (.if_icmp .le 5, 3) := by decide +kernel
theorem dX10_ahead_28 : decode cX10_ahead 28 = .ok (.iconst (-1), 1) := by decide +kernel
theorem dX10_ahead_29 : decode cX10_ahead 29 = .ok (.ireturn, 1) := by decide +kernel
theorem dX10_ahead_30 : decode cX10_ahead 30 = .ok (.aload_n 0, 1) := by decide +kernel
theorem dX10_ahead_31 : decode cX10_ahead 31 = .ok (.getfield 38, 3) := by decide +kernel
theorem dX10_ahead_34 : decode cX10_ahead 34 = .ok (.aload_n 0, 1) := by decide +kernel
theorem dX10_ahead_35 : decode cX10_ahead 35 = .ok (.getfield 34, 3) := by decide +kernel
theorem dX10_ahead_38 : decode cX10_ahead 38 = .ok (.invokevirtual 88, 3) := by decide +kernel
theorem dX10_ahead_41 : decode cX10_ahead 41 = .ok (.aload_n 0, 1) := by decide +kernel
theorem dX10_ahead_42 : decode cX10_ahead 42 = .ok (.getfield 48, 3) := by decide +kernel
theorem dX10_ahead_45 : decode cX10_ahead 45 = .ok (.aload_n 0, 1) := by decide +kernel
theorem dX10_ahead_46 : decode cX10_ahead 46 = .ok (.getfield 38, 3) := by decide +kernel
theorem dX10_ahead_49 : decode cX10_ahead 49 = .ok (.aload_n 0, 1) := by decide +kernel
theorem dX10_ahead_50 : decode cX10_ahead 50 = .ok (.getfield 27, 3) := by decide +kernel
theorem dX10_ahead_53 : decode cX10_ahead 53 = .ok (.iload_n 1, 1) := by decide +kernel
theorem dX10_ahead_54 : decode cX10_ahead 54 = .ok (.aaload, 1) := by decide +kernel
theorem dX10_ahead_55 : decode cX10_ahead 55 = .ok (.iload_n 2, 1) := by decide +kernel
theorem dX10_ahead_56 : decode cX10_ahead 56 = .ok (.invokevirtual 281, 3) := by decide +kernel
theorem dX10_ahead_59 : decode cX10_ahead 59 = .ok (.iload_n 3, 1) := by decide +kernel
theorem dX10_ahead_60 : decode cX10_ahead 60 = .ok (.tableswitch 71 0 2 #[28, 39, 55], 28) := by decide +kernel
theorem dX10_ahead_88 : decode cX10_ahead 88 = .ok (.aload_n 0, 1) := by decide +kernel
theorem dX10_ahead_89 : decode cX10_ahead 89 = .ok (.getfield 38, 3) := by decide +kernel
theorem dX10_ahead_92 : decode cX10_ahead 92 = .ok (.getfield 126, 3) := by decide +kernel
theorem dX10_ahead_95 : decode cX10_ahead 95 = .ok (.invokevirtual 285, 3) := by decide +kernel
theorem dX10_ahead_98 : decode cX10_ahead 98 = .ok (.ireturn, 1) := by decide +kernel
theorem dX10_ahead_99 : decode cX10_ahead 99 = .ok (.aload_n 0, 1) := by decide +kernel
theorem dX10_ahead_100 : decode cX10_ahead 100 = .ok (.getfield 38, 3) := by decide +kernel
theorem dX10_ahead_103 : decode cX10_ahead 103 = .ok (.getfield 288, 3) := by decide +kernel
theorem dX10_ahead_106 : decode cX10_ahead 106 = .ok (.aload_n 0, 1) := by decide +kernel
theorem dX10_ahead_107 : decode cX10_ahead 107 = .ok (.getfield 34, 3) := by decide +kernel
theorem dX10_ahead_110 : decode cX10_ahead 110 = .ok (.getfield 288, 3) := by decide +kernel
theorem dX10_ahead_113 : decode cX10_ahead 113 = .ok (.isub, 1) := by decide +kernel
theorem dX10_ahead_114 : decode cX10_ahead 114 = .ok (.ireturn, 1) := by decide +kernel
theorem dX10_ahead_115 : decode cX10_ahead 115 = .ok (.aload_n 0, 1) := by decide +kernel
theorem dX10_ahead_116 : decode cX10_ahead 116 = .ok (.getfield 38, 3) := by decide +kernel
theorem dX10_ahead_119 : decode cX10_ahead 119 = .ok (.getfield 291, 3) := by decide +kernel
theorem dX10_ahead_122 : decode cX10_ahead 122 = .ok (.aload_n 0, 1) := by decide +kernel
theorem dX10_ahead_123 : decode cX10_ahead 123 = .ok (.getfield 34, 3) := by decide +kernel
theorem dX10_ahead_126 : decode cX10_ahead 126 = .ok (.getfield 291, 3) := by decide +kernel
theorem dX10_ahead_129 : decode cX10_ahead 129 = .ok (.isub, 1) := by decide +kernel
theorem dX10_ahead_130 : decode cX10_ahead 130 = .ok (.ireturn, 1) := by decide +kernel
theorem dX10_ahead_131 : decode cX10_ahead 131 = .ok (.aload_n 0, 1) := by decide +kernel
theorem dX10_ahead_132 : decode cX10_ahead 132 = .ok (.getfield 38, 3) := by decide +kernel
theorem dX10_ahead_135 : decode cX10_ahead 135 = .ok (.getfield 91, 3) := by decide +kernel
theorem dX10_ahead_138 : decode cX10_ahead 138 = .ok (.getfield 196, 3) := by decide +kernel
theorem dX10_ahead_141 : decode cX10_ahead 141 = .ok (.ireturn, 1) := by decide +kernel
theorem dX10_alike_0 : decode cX10_alike 0 = .ok (.aload_n 0, 1) := by decide +kernel
theorem dX10_alike_1 : decode cX10_alike 1 = .ok (.getfield 34, 3) := by decide +kernel
theorem dX10_alike_4 : decode cX10_alike 4 = .ok (.getfield 91, 3) := by decide +kernel
theorem dX10_alike_7 : decode cX10_alike 7 = .ok (.aload_n 0, 1) := by decide +kernel
theorem dX10_alike_8 : decode cX10_alike 8 = .ok (.getfield 34, 3) := by decide +kernel
theorem dX10_alike_11 : decode cX10_alike 11 = .ok (.getfield 91, 3) := by decide +kernel
theorem dX10_alike_14 : decode cX10_alike 14 = .ok (.invokevirtual 225, 3) := by decide +kernel
theorem dX10_alike_17 : decode cX10_alike 17 = .ok (.invokevirtual 218, 3) := by decide +kernel
theorem dX10_alike_20 : decode cX10_alike 20 = .ok (.ireturn, 1) := by decide +kernel
theorem dX10_back_0 : decode cX10_back 0 = .ok (.iload_n 1, 1) := by decide +kernel
theorem dX10_back_1 : decode cX10_back 1 = .ok (.ifCond .lt 17, 3) := by decide +kernel
theorem dX10_back_4 : decode cX10_back 4 = .ok (.iload_n 1, 1) := by decide +kernel
theorem dX10_back_5 : decode cX10_back 5 = .ok (.iconst 4, 1) := by decide +kernel
theorem dX10_back_6 : decode cX10_back 6 = .ok (.if_icmp .ge 12, 3) := by decide +kernel
theorem dX10_back_9 : decode cX10_back 9 = .ok (.aload_n 0, 1) := by decide +kernel
theorem dX10_back_10 : decode cX10_back 10 = .ok (.getfield 41, 3) := by decide +kernel
theorem dX10_back_13 : decode cX10_back 13 = .ok (.iload_n 1, 1) := by decide +kernel
theorem dX10_back_14 : decode cX10_back 14 = .ok (.aaload, 1) := by decide +kernel
theorem dX10_back_15 : decode cX10_back 15 = .ok (.ifnonnull 5, 3) := by decide +kernel
theorem dX10_back_18 : decode cX10_back 18 = .ok (.iconst (-1), 1) := by decide +kernel
theorem dX10_back_19 : decode cX10_back 19 = .ok (.ireturn, 1) := by decide +kernel
theorem dX10_back_20 : decode cX10_back 20 = .ok (.aload_n 0, 1) := by decide +kernel
theorem dX10_back_21 : decode cX10_back 21 = .ok (.getfield 34, 3) := by decide +kernel
theorem dX10_back_24 : decode cX10_back 24 = .ok (.aload_n 0, 1) := by decide +kernel
theorem dX10_back_25 : decode cX10_back 25 = .ok (.getfield 41, 3) := by decide +kernel
theorem dX10_back_28 : decode cX10_back 28 = .ok (.iload_n 1, 1) := by decide +kernel
theorem dX10_back_29 : decode cX10_back 29 = .ok (.aaload, 1) := by decide +kernel
theorem dX10_back_30 : decode cX10_back 30 = .ok (.invokevirtual 88, 3) := by decide +kernel
theorem dX10_back_33 : decode cX10_back 33 = .ok (.aload_n 0, 1) := by decide +kernel
theorem dX10_back_34 : decode cX10_back 34 = .ok (.getfield 34, 3) := by decide +kernel
theorem dX10_back_37 : decode cX10_back 37 = .ok (.getfield 277, 3) := by decide +kernel
theorem dX10_back_40 : decode cX10_back 40 = .ok (.ireturn, 1) := by decide +kernel
theorem dX10_canCircle_0 : decode cX10_canCircle 0 = .ok (.aload_n 0, 1) := by decide +kernel
theorem dX10_canCircle_1 : decode cX10_canCircle 1 = .ok (.getfield 34, 3) := by decide +kernel
theorem dX10_canCircle_4 : decode cX10_canCircle 4 = .ok (.getfield 126, 3) := by decide +kernel
theorem dX10_canCircle_7 : decode cX10_canCircle 7 = .ok (.iload_n 1, 1) := by decide +kernel
theorem dX10_canCircle_8 : decode cX10_canCircle 8 = .ok (.invokevirtual 229, 3) := by decide +kernel
theorem dX10_canCircle_11 : decode cX10_canCircle 11 = .ok (.ifCond .eq 20, 3) := by decide +kernel
theorem dX10_canCircle_14 : decode cX10_canCircle 14 = .ok (.aload_n 0, 1) := by decide +kernel
theorem dX10_canCircle_15 : decode cX10_canCircle 15 = .ok (.getfield 34, 3) := by decide +kernel
theorem dX10_canCircle_18 : decode cX10_canCircle 18 = .ok (.getfield 126, 3) := by decide +kernel
theorem dX10_canCircle_21 : decode cX10_canCircle 21 = .ok (.invokevirtual 193, 3) := by decide +kernel
theorem dX10_canCircle_24 : decode cX10_canCircle 24 = .ok (.ifCond .ne 7, 3) := by decide +kernel
theorem dX10_canCircle_27 : decode cX10_canCircle 27 = .ok (.iconst 1, 1) := by decide +kernel
theorem dX10_canCircle_28 : decode cX10_canCircle 28 = .ok (.goto 4, 3) := by decide +kernel
theorem dX10_canCircle_31 : decode cX10_canCircle 31 = .ok (.iconst 0, 1) := by decide +kernel
theorem dX10_canCircle_32 : decode cX10_canCircle 32 = .ok (.ireturn, 1) := by decide +kernel
theorem dX10_canSearch_0 : decode cX10_canSearch 0 = .ok (.iload_n 1, 1) := by decide +kernel
theorem dX10_canSearch_1 : decode cX10_canSearch 1 = .ok (.iconst 1, 1) := by decide +kernel
theorem dX10_canSearch_2 : decode cX10_canSearch 2 = .ok (.if_icmp .lt 36, 3) := by decide +kernel
theorem dX10_canSearch_5 : decode cX10_canSearch 5 = .ok (.iload_n 1, 1) := by decide +kernel
theorem dX10_canSearch_6 : decode cX10_canSearch 6 = .ok (.iconst 1, 1) := by decide +kernel
theorem dX10_canSearch_7 : decode cX10_canSearch 7 = .ok (.aload_n 0, 1) := by decide +kernel
theorem dX10_canSearch_8 : decode cX10_canSearch 8 = .ok (.getfield 34, 3) := by decide +kernel
theorem dX10_canSearch_11 : decode cX10_canSearch 11 = .ok (.getfield 126, 3) := by decide +kernel
theorem dX10_canSearch_14 : decode cX10_canSearch 14 = .ok (.getfield 301, 3) := by decide +kernel
theorem dX10_canSearch_17 : decode cX10_canSearch 17 = .ok (.ishl, 1) := by decide +kernel
theorem dX10_canSearch_18 : decode cX10_canSearch 18 = .ok (.if_icmp .ge 20, 3) := by decide +kernel
theorem dX10_canSearch_21 : decode cX10_canSearch 21 = .ok (.iload_n 1, 1) := by decide +kernel
theorem dX10_canSearch_22 : decode cX10_canSearch 22 = .ok (.aload_n 0, 1) := by decide +kernel
theorem dX10_canSearch_23 : decode cX10_canSearch 23 = .ok (.getfield 34, 3) := by decide +kernel
theorem dX10_canSearch_26 : decode cX10_canSearch 26 = .ok (.getfield 126, 3) := by decide +kernel
theorem dX10_canSearch_29 : decode cX10_canSearch 29 = .ok (.invokevirtual 232, 3) := by decide +kernel
theorem dX10_canSearch_32 : decode cX10_canSearch 32 = .ok (.iconst (-1), 1) := by decide +kernel
theorem dX10_canSearch_33 : decode cX10_canSearch 33 = .ok (.ixor, 1) := by decide +kernel
theorem dX10_canSearch_34 : decode cX10_canSearch 34 = .ok (.iand, 1) := by decide +kernel
theorem dX10_canSearch_35 : decode cX10_canSearch 35 = .ok (.ifCond .eq 5, 3) := by decide +kernel
theorem dX10_canSearch_38 : decode cX10_canSearch 38 = .ok (.iconst 0, 1) := by decide +kernel
theorem dX10_canSearch_39 : decode cX10_canSearch 39 = .ok (.ireturn, 1) := by decide +kernel
theorem dX10_canSearch_40 : decode cX10_canSearch 40 = .ok (.aload_n 0, 1) := by decide +kernel
theorem dX10_canSearch_41 : decode cX10_canSearch 41 = .ok (.getfield 34, 3) := by decide +kernel
theorem dX10_canSearch_44 : decode cX10_canSearch 44 = .ok (.getfield 91, 3) := by decide +kernel
theorem dX10_canSearch_47 : decode cX10_canSearch 47 = .ok (.getfield 95, 3) := by decide +kernel
theorem dX10_canSearch_50 : decode cX10_canSearch 50 = .ok (.iconst 3, 1) := by decide +kernel
theorem dX10_canSearch_51 : decode cX10_canSearch 51 = .ok (.iload_n 1, 1) := by decide +kernel
theorem dX10_canSearch_52 : decode cX10_canSearch 52 = .ok (.invokestatic 163, 3) := by decide +kernel
theorem dX10_canSearch_55 : decode cX10_canSearch 55 = .ok (.imul, 1) := by decide +kernel
theorem dX10_canSearch_56 : decode cX10_canSearch 56 = .ok (.iadd, 1) := by decide +kernel
theorem dX10_canSearch_57 : decode cX10_canSearch 57 = .ok (.bipush 20, 2) := by decide +kernel
theorem dX10_canSearch_59 : decode cX10_canSearch 59 = .ok (.if_icmp .gt 7, 3) := by decide +kernel
theorem dX10_canSearch_62 : decode cX10_canSearch 62 = .ok (.iconst 1, 1) := by decide +kernel
theorem dX10_canSearch_63 : decode cX10_canSearch 63 = .ok (.goto 4, 3) := by decide +kernel
theorem dX10_canSearch_66 : decode cX10_canSearch 66 = .ok (.iconst 0, 1) := by decide +kernel
theorem dX10_canSearch_67 : decode cX10_canSearch 67 = .ok (.ireturn, 1) := by decide +kernel
theorem dX10_closed_0 : decode cX10_closed 0 = .ok (.aload_n 0, 1) := by decide +kernel
theorem dX10_closed_1 : decode cX10_closed 1 = .ok (.iload_n 1, 1) := by decide +kernel
theorem dX10_closed_2 : decode cX10_closed 2 = .ok (.invokevirtual 199, 3) := by decide +kernel
theorem dX10_closed_5 : decode cX10_closed 5 = .ok (.ifCond .eq 12, 3) := by decide +kernel
theorem dX10_closed_8 : decode cX10_closed 8 = .ok (.iload_n 2, 1) := by decide +kernel
theorem dX10_closed_9 : decode cX10_closed 9 = .ok (.ifCond .lt 8, 3) := by decide +kernel
theorem dX10_closed_12 : decode cX10_closed 12 = .ok (.iload_n 2, 1) := by decide +kernel
theorem dX10_closed_13 : decode cX10_closed 13 = .ok (.iconst 1, 1) := by decide +kernel
theorem dX10_closed_14 : decode cX10_closed 14 = .ok (.if_icmp .le 5, 3) := by decide +kernel
theorem dX10_closed_17 : decode cX10_closed 17 = .ok (.iconst (-1), 1) := by decide +kernel
theorem dX10_closed_18 : decode cX10_closed 18 = .ok (.ireturn, 1) := by decide +kernel
theorem dX10_closed_19 : decode cX10_closed 19 = .ok (.iload_n 2, 1) := by decide +kernel
theorem dX10_closed_20 : decode cX10_closed 20 = .ok (.iconst 1, 1) := by decide +kernel
theorem dX10_closed_21 : decode cX10_closed 21 = .ok (.if_icmp .ne 27, 3) := by decide +kernel
theorem dX10_closed_24 : decode cX10_closed 24 = .ok (.aload_n 0, 1) := by decide +kernel
theorem dX10_closed_25 : decode cX10_closed 25 = .ok (.getfield 34, 3) := by decide +kernel
theorem dX10_closed_28 : decode cX10_closed 28 = .ok (.getfield 91, 3) := by decide +kernel
theorem dX10_closed_31 : decode cX10_closed 31 = .ok (.aload_n 0, 1) := by decide +kernel
theorem dX10_closed_32 : decode cX10_closed 32 = .ok (.iload_n 1, 1) := by decide +kernel
theorem dX10_closed_33 : decode cX10_closed 33 = .ok (.invokevirtual 214, 3) := by decide +kernel
theorem dX10_closed_36 : decode cX10_closed 36 = .ok (.invokevirtual 218, 3) := by decide +kernel
theorem dX10_closed_39 : decode cX10_closed 39 = .ok (.ifCond .le 7, 3) := by decide +kernel
theorem dX10_closed_42 : decode cX10_closed 42 = .ok (.iconst 1, 1) := by decide +kernel
theorem dX10_closed_43 : decode cX10_closed 43 = .ok (.goto 4, 3) := by decide +kernel
theorem dX10_closed_46 : decode cX10_closed 46 = .ok (.iconst 0, 1) := by decide +kernel
theorem dX10_closed_47 : decode cX10_closed 47 = .ok (.ireturn, 1) := by decide +kernel
theorem dX10_closed_48 : decode cX10_closed 48 = .ok (.aload_n 0, 1) := by decide +kernel
theorem dX10_closed_49 : decode cX10_closed 49 = .ok (.getfield 57, 3) := by decide +kernel
theorem dX10_closed_52 : decode cX10_closed 52 = .ok (.iload_n 1, 1) := by decide +kernel
theorem dX10_closed_53 : decode cX10_closed 53 = .ok (.invokevirtual 202, 3) := by decide +kernel
theorem dX10_closed_56 : decode cX10_closed 56 = .ok (.aload_n 0, 1) := by decide +kernel
theorem dX10_closed_57 : decode cX10_closed 57 = .ok (.getfield 57, 3) := by decide +kernel
theorem dX10_closed_60 : decode cX10_closed 60 = .ok (.invokevirtual 222, 3) := by decide +kernel
theorem dX10_closed_63 : decode cX10_closed 63 = .ok (.ireturn, 1) := by decide +kernel
theorem dX10_comes_0 : decode cX10_comes 0 = .ok (.aload_n 0, 1) := by decide +kernel
theorem dX10_comes_1 : decode cX10_comes 1 = .ok (.iload_n 1, 1) := by decide +kernel
theorem dX10_comes_2 : decode cX10_comes 2 = .ok (.invokevirtual 199, 3) := by decide +kernel
theorem dX10_comes_5 : decode cX10_comes 5 = .ok (.ifCond .eq 21, 3) := by decide +kernel
theorem dX10_comes_8 : decode cX10_comes 8 = .ok (.iload_n 2, 1) := by decide +kernel
theorem dX10_comes_9 : decode cX10_comes 9 = .ok (.ifCond .lt 17, 3) := by decide +kernel
theorem dX10_comes_12 : decode cX10_comes 12 = .ok (.iload_n 2, 1) := by decide +kernel
theorem dX10_comes_13 : decode cX10_comes 13 = .ok (.aload_n 0, 1) := by decide +kernel
theorem dX10_comes_14 : decode cX10_comes 14 = .ok (.getfield 34, 3) := by decide +kernel
theorem dX10_comes_17 : decode cX10_comes 17 = .ok (.getfield 91, 3) := by decide +kernel
theorem dX10_comes_20 : decode cX10_comes 20 = .ok (.invokevirtual 189, 3) := by decide +kernel
theorem dX10_comes_23 : decode cX10_comes 23 = .ok (.if_icmp .lt 5, 3) := by decide +kernel
theorem dX10_comes_26 : decode cX10_comes 26 = .ok (.iconst (-1), 1) := by decide +kernel
theorem dX10_comes_27 : decode cX10_comes 27 = .ok (.ireturn, 1) := by decide +kernel
theorem dX10_comes_28 : decode cX10_comes 28 = .ok (.aload_n 0, 1) := by decide +kernel
theorem dX10_comes_29 : decode cX10_comes 29 = .ok (.getfield 57, 3) := by decide +kernel
theorem dX10_comes_32 : decode cX10_comes 32 = .ok (.iload_n 1, 1) := by decide +kernel
theorem dX10_comes_33 : decode cX10_comes 33 = .ok (.invokevirtual 202, 3) := by decide +kernel
theorem dX10_comes_36 : decode cX10_comes 36 = .ok (.aload_n 0, 1) := by decide +kernel
theorem dX10_comes_37 : decode cX10_comes 37 = .ok (.getfield 57, 3) := by decide +kernel
theorem dX10_comes_40 : decode cX10_comes 40 = .ok (.iload_n 2, 1) := by decide +kernel
theorem dX10_comes_41 : decode cX10_comes 41 = .ok (.invokevirtual 211, 3) := by decide +kernel
theorem dX10_comes_44 : decode cX10_comes 44 = .ok (.ifCond .eq 7, 3) := by decide +kernel
theorem dX10_comes_47 : decode cX10_comes 47 = .ok (.iconst 1, 1) := by decide +kernel
theorem dX10_comes_48 : decode cX10_comes 48 = .ok (.goto 4, 3) := by decide +kernel
theorem dX10_comes_51 : decode cX10_comes 51 = .ok (.iconst 0, 1) := by decide +kernel
theorem dX10_comes_52 : decode cX10_comes 52 = .ok (.ireturn, 1) := by decide +kernel
theorem dX10_count_0 : decode cX10_count 0 = .ok (.iload_n 1, 1) := by decide +kernel
theorem dX10_count_1 : decode cX10_count 1 = .ok (.tableswitch 141 0 9 #[55, 66, 77, 82, 93, 101, 109, 117, 125, 133], 55) := by decide +kernel
theorem dX10_count_56 : decode cX10_count 56 = .ok (.aload_n 0, 1) := by decide +kernel
theorem dX10_count_57 : decode cX10_count 57 = .ok (.getfield 34, 3) := by decide +kernel
theorem dX10_count_60 : decode cX10_count 60 = .ok (.getfield 91, 3) := by decide +kernel
theorem dX10_count_63 : decode cX10_count 63 = .ok (.getfield 95, 3) := by decide +kernel
theorem dX10_count_66 : decode cX10_count 66 = .ok (.ireturn, 1) := by decide +kernel
theorem dX10_count_67 : decode cX10_count 67 = .ok (.aload_n 0, 1) := by decide +kernel
theorem dX10_count_68 : decode cX10_count 68 = .ok (.getfield 34, 3) := by decide +kernel
theorem dX10_count_71 : decode cX10_count 71 = .ok (.getfield 126, 3) := by decide +kernel
theorem dX10_count_74 : decode cX10_count 74 = .ok (.getfield 301, 3) := by decide +kernel
theorem dX10_count_77 : decode cX10_count 77 = .ok (.ireturn, 1) := by decide +kernel
theorem dX10_count_78 : decode cX10_count 78 = .ok (.aload_n 0, 1) := by decide +kernel
theorem dX10_count_79 : decode cX10_count 79 = .ok (.getfield 68, 3) := by decide +kernel
theorem dX10_count_82 : decode cX10_count 82 = .ok (.ireturn, 1) := by decide +kernel
theorem dX10_count_83 : decode cX10_count 83 = .ok (.aload_n 0, 1) := by decide +kernel
theorem dX10_count_84 : decode cX10_count 84 = .ok (.getfield 34, 3) := by decide +kernel
theorem dX10_count_87 : decode cX10_count 87 = .ok (.getfield 91, 3) := by decide +kernel
theorem dX10_count_90 : decode cX10_count 90 = .ok (.getfield 196, 3) := by decide +kernel
theorem dX10_count_93 : decode cX10_count 93 = .ok (.ireturn, 1) := by decide +kernel
theorem dX10_count_94 : decode cX10_count 94 = .ok (.aload_n 0, 1) := by decide +kernel
theorem dX10_count_95 : decode cX10_count 95 = .ok (.getfield 34, 3) := by decide +kernel
theorem dX10_count_98 : decode cX10_count 98 = .ok (.getfield 291, 3) := by decide +kernel
theorem dX10_count_101 : decode cX10_count 101 = .ok (.ireturn, 1) := by decide +kernel
theorem dX10_count_102 : decode cX10_count 102 = .ok (.aload_n 0, 1) := by decide +kernel
theorem dX10_count_103 : decode cX10_count 103 = .ok (.getfield 34, 3) := by decide +kernel
theorem dX10_count_106 : decode cX10_count 106 = .ok (.getfield 277, 3) := by decide +kernel
theorem dX10_count_109 : decode cX10_count 109 = .ok (.ireturn, 1) := by decide +kernel
theorem dX10_count_110 : decode cX10_count 110 = .ok (.aload_n 0, 1) := by decide +kernel
theorem dX10_count_111 : decode cX10_count 111 = .ok (.getfield 34, 3) := by decide +kernel
theorem dX10_count_114 : decode cX10_count 114 = .ok (.getfield 288, 3) := by decide +kernel
theorem dX10_count_117 : decode cX10_count 117 = .ok (.ireturn, 1) := by decide +kernel
theorem dX10_count_118 : decode cX10_count 118 = .ok (.aload_n 0, 1) := by decide +kernel
theorem dX10_count_119 : decode cX10_count 119 = .ok (.getfield 34, 3) := by decide +kernel
theorem dX10_count_122 : decode cX10_count 122 = .ok (.getfield 261, 3) := by decide +kernel
theorem dX10_count_125 : decode cX10_count 125 = .ok (.ireturn, 1) := by decide +kernel
theorem dX10_count_126 : decode cX10_count 126 = .ok (.aload_n 0, 1) := by decide +kernel
theorem dX10_count_127 : decode cX10_count 127 = .ok (.getfield 34, 3) := by decide +kernel
theorem dX10_count_130 : decode cX10_count 130 = .ok (.getfield 85, 3) := by decide +kernel
theorem dX10_count_133 : decode cX10_count 133 = .ok (.ireturn, 1) := by decide +kernel
theorem dX10_count_134 : decode cX10_count 134 = .ok (.aload_n 0, 1) := by decide +kernel
theorem dX10_count_135 : decode cX10_count 135 = .ok (.getfield 10, 3) := by decide +kernel
theorem dX10_count_138 : decode cX10_count 138 = .ok (.getfield 72, 3) := by decide +kernel
theorem dX10_count_141 : decode cX10_count 141 = .ok (.ireturn, 1) := by decide +kernel
theorem dX10_count_142 : decode cX10_count 142 = .ok (.iconst (-1), 1) := by decide +kernel
theorem dX10_count_143 : decode cX10_count 143 = .ok (.ireturn, 1) := by decide +kernel
theorem dX10_covers_0 : decode cX10_covers 0 = .ok (.aload_n 0, 1) := by decide +kernel
theorem dX10_covers_1 : decode cX10_covers 1 = .ok (.iload_n 1, 1) := by decide +kernel
theorem dX10_covers_2 : decode cX10_covers 2 = .ok (.invokevirtual 242, 3) := by decide +kernel
theorem dX10_covers_5 : decode cX10_covers 5 = .ok (.ifCond .ne 5, 3) := by decide +kernel
theorem dX10_covers_8 : decode cX10_covers 8 = .ok (.iconst (-1), 1) := by decide +kernel
theorem dX10_covers_9 : decode cX10_covers 9 = .ok (.ireturn, 1) := by decide +kernel
theorem dX10_covers_10 : decode cX10_covers 10 = .ok (.aload_n 0, 1) := by decide +kernel
theorem dX10_covers_11 : decode cX10_covers 11 = .ok (.getfield 64, 3) := by decide +kernel
theorem dX10_covers_14 : decode cX10_covers 14 = .ok (.iload_n 1, 1) := by decide +kernel
theorem dX10_covers_15 : decode cX10_covers 15 = .ok (.invokevirtual 245, 3) := by decide +kernel
theorem dX10_covers_18 : decode cX10_covers 18 = .ok (.aload_n 0, 1) := by decide +kernel
theorem dX10_covers_19 : decode cX10_covers 19 = .ok (.getfield 64, 3) := by decide +kernel
theorem dX10_covers_22 : decode cX10_covers 22 = .ok (.invokevirtual 252, 3) := by decide +kernel
theorem dX10_covers_25 : decode cX10_covers 25 = .ok (.istore_n 2, 1) := by decide +kernel
theorem dX10_covers_26 : decode cX10_covers 26 = .ok (.iload_n 2, 1) := by decide +kernel
theorem dX10_covers_27 : decode cX10_covers 27 = .ok (.ifCond .ge 8, 3) := by decide +kernel
theorem dX10_covers_30 : decode cX10_covers 30 = .ok (.bipush (-2), 2) := by decide +kernel
theorem dX10_covers_32 : decode cX10_covers 32 = .ok (.goto 4, 3) := by decide +kernel
theorem dX10_covers_35 : decode cX10_covers 35 = .ok (.iload_n 2, 1) := by decide +kernel
theorem dX10_covers_36 : decode cX10_covers 36 = .ok (.ireturn, 1) := by decide +kernel
theorem dX10_days_0 : decode cX10_days 0 = .ok (.aload_n 0, 1) := by decide +kernel
theorem dX10_days_1 : decode cX10_days 1 = .ok (.iload_n 1, 1) := by decide +kernel
theorem dX10_days_2 : decode cX10_days 2 = .ok (.invokevirtual 274, 3) := by decide +kernel
theorem dX10_days_5 : decode cX10_days 5 = .ok (.ifCond .eq 36, 3) := by decide +kernel
theorem dX10_days_8 : decode cX10_days 8 = .ok (.iload_n 2, 1) := by decide +kernel
theorem dX10_days_9 : decode cX10_days 9 = .ok (.iconst 1, 1) := by decide +kernel
theorem dX10_days_10 : decode cX10_days 10 = .ok (.if_icmp .lt 31, 3) := by decide +kernel
theorem dX10_days_13 : decode cX10_days 13 = .ok (.iload_n 2, 1) := by decide +kernel
theorem dX10_days_14 : decode cX10_days 14 = .ok (.bipush 20, 2) := by decide +kernel
theorem dX10_days_16 : decode cX10_days 16 = .ok (.if_icmp .gt 25, 3) := by decide +kernel
theorem dX10_days_19 : decode cX10_days 19 = .ok (.iload_n 3, 1) := by decide +kernel
theorem dX10_days_20 : decode cX10_days 20 = .ok (.ifCond .lt 21, 3) := by decide +kernel
theorem dX10_days_23 : decode cX10_days 23 = .ok (.iload_n 3, 1) := by decide +kernel
theorem dX10_days_24 : decode cX10_days 24 = .ok (.sipush 300, 3) := by decide +kernel
theorem dX10_days_27 : decode cX10_days 27 = .ok (.if_icmp .gt 14, 3) := by decide +kernel
theorem dX10_days_30 : decode cX10_days 30 = .ok (.iload 4, 2) := by decide +kernel
theorem dX10_days_32 : decode cX10_days 32 = .ok (.ifCond .lt 9, 3) := by decide +kernel
theorem dX10_days_35 : decode cX10_days 35 = .ok (.iload 4, 2) := by decide +kernel
theorem dX10_days_37 : decode cX10_days 37 = .ok (.iconst 2, 1) := by decide +kernel
theorem dX10_days_38 : decode cX10_days 38 = .ok (.if_icmp .le 5, 3) := by decide +kernel
theorem dX10_days_41 : decode cX10_days 41 = .ok (.iconst (-1), 1) := by decide +kernel
theorem dX10_days_42 : decode cX10_days 42 = .ok (.ireturn, 1) := by decide +kernel
theorem dX10_days_43 : decode cX10_days 43 = .ok (.aload_n 0, 1) := by decide +kernel
theorem dX10_days_44 : decode cX10_days 44 = .ok (.getfield 34, 3) := by decide +kernel
theorem dX10_days_47 : decode cX10_days 47 = .ok (.getfield 85, 3) := by decide +kernel
theorem dX10_days_50 : decode cX10_days 50 = .ok (.istore 5, 2) := by decide +kernel
theorem dX10_days_52 : decode cX10_days 52 = .ok (.iconst 0, 1) := by decide +kernel
theorem dX10_days_53 : decode cX10_days 53 = .ok (.istore 6, 2) := by decide +kernel
theorem dX10_days_55 : decode cX10_days 55 = .ok (.iconst 0, 1) := by decide +kernel
theorem dX10_days_56 : decode cX10_days 56 = .ok (.istore 7, 2) := by decide +kernel
theorem dX10_days_58 : decode cX10_days 58 = .ok (.iconst 0, 1) := by decide +kernel
theorem dX10_days_59 : decode cX10_days 59 = .ok (.istore 8, 2) := by decide +kernel
theorem dX10_days_61 : decode cX10_days 61 = .ok (.iconst 0, 1) := by decide +kernel
theorem dX10_days_62 : decode cX10_days 62 = .ok (.istore 9, 2) := by decide +kernel
theorem dX10_days_64 : decode cX10_days 64 = .ok (.iload 9, 2) := by decide +kernel
theorem dX10_days_66 : decode cX10_days 66 = .ok (.iload_n 2, 1) := by decide +kernel
theorem dX10_days_67 : decode cX10_days 67 = .ok (.if_icmp .ge 121, 3) := by decide +kernel
theorem dX10_days_70 : decode cX10_days 70 = .ok (.aload_n 0, 1) := by decide +kernel
theorem dX10_days_71 : decode cX10_days 71 = .ok (.getfield 38, 3) := by decide +kernel
theorem dX10_days_74 : decode cX10_days 74 = .ok (.aload_n 0, 1) := by decide +kernel
theorem dX10_days_75 : decode cX10_days 75 = .ok (.getfield 34, 3) := by decide +kernel
theorem dX10_days_78 : decode cX10_days 78 = .ok (.invokevirtual 88, 3) := by decide +kernel
theorem dX10_days_81 : decode cX10_days 81 = .ok (.aload_n 0, 1) := by decide +kernel
theorem dX10_days_82 : decode cX10_days 82 = .ok (.getfield 38, 3) := by decide +kernel
theorem dX10_days_85 : decode cX10_days 85 = .ok (.iload 5, 2) := by decide +kernel
theorem dX10_days_87 : decode cX10_days 87 = .ok (.putfield 85, 3) := by decide +kernel
theorem dX10_days_90 : decode cX10_days 90 = .ok (.aload_n 0, 1) := by decide +kernel
theorem dX10_days_91 : decode cX10_days 91 = .ok (.getfield 38, 3) := by decide +kernel
theorem dX10_days_94 : decode cX10_days 94 = .ok (.invokevirtual 298, 3) := by decide +kernel
theorem dX10_days_97 : decode cX10_days 97 = .ok (.aload_n 0, 1) := by decide +kernel
theorem dX10_days_98 : decode cX10_days 98 = .ok (.getfield 38, 3) := by decide +kernel
theorem dX10_days_101 : decode cX10_days 101 = .ok (.getfield 85, 3) := by decide +kernel
theorem dX10_days_104 : decode cX10_days 104 = .ok (.istore 5, 2) := by decide +kernel
theorem dX10_days_106 : decode cX10_days 106 = .ok (.aload_n 0, 1) := by decide +kernel
theorem dX10_days_107 : decode cX10_days 107 = .ok (.getfield 48, 3) := by decide +kernel
theorem dX10_days_110 : decode cX10_days 110 = .ok (.aload_n 0, 1) := by decide +kernel
theorem dX10_days_111 : decode cX10_days 111 = .ok (.getfield 38, 3) := by decide +kernel
theorem dX10_days_114 : decode cX10_days 114 = .ok (.aload_n 0, 1) := by decide +kernel
theorem dX10_days_115 : decode cX10_days 115 = .ok (.getfield 27, 3) := by decide +kernel
theorem dX10_days_118 : decode cX10_days 118 = .ok (.iload_n 1, 1) := by decide +kernel
theorem dX10_days_119 : decode cX10_days 119 = .ok (.aaload, 1) := by decide +kernel
theorem dX10_days_120 : decode cX10_days 120 = .ok (.iload_n 3, 1) := by decide +kernel
theorem dX10_days_121 : decode cX10_days 121 = .ok (.invokevirtual 281, 3) := by decide +kernel
theorem dX10_days_124 : decode cX10_days 124 = .ok (.iload 6, 2) := by decide +kernel
theorem dX10_days_126 : decode cX10_days 126 = .ok (.aload_n 0, 1) := by decide +kernel
theorem dX10_days_127 : decode cX10_days 127 = .ok (.getfield 38, 3) := by decide +kernel
theorem dX10_days_130 : decode cX10_days 130 = .ok (.getfield 126, 3) := by decide +kernel
theorem dX10_days_133 : decode cX10_days 133 = .ok (.invokevirtual 285, 3) := by decide +kernel
theorem dX10_days_136 : decode cX10_days 136 = .ok (.iadd, 1) := by decide +kernel
theorem dX10_days_137 : decode cX10_days 137 = .ok (.istore 6, 2) := by decide +kernel
theorem dX10_days_139 : decode cX10_days 139 = .ok (.iload 7, 2) := by decide +kernel
theorem dX10_days_141 : decode cX10_days 141 = .ok (.aload_n 0, 1) := by decide +kernel
theorem dX10_days_142 : decode cX10_days 142 = .ok (.getfield 38, 3) := by decide +kernel
theorem dX10_days_145 : decode cX10_days 145 = .ok (.getfield 288, 3) := by decide +kernel
theorem dX10_days_148 : decode cX10_days 148 = .ok (.aload_n 0, 1) := by decide +kernel
theorem dX10_days_149 : decode cX10_days 149 = .ok (.getfield 34, 3) := by decide +kernel
theorem dX10_days_152 : decode cX10_days 152 = .ok (.getfield 288, 3) := by decide +kernel
theorem dX10_days_155 : decode cX10_days 155 = .ok (.isub, 1) := by decide +kernel
theorem dX10_days_156 : decode cX10_days 156 = .ok (.iadd, 1) := by decide +kernel
theorem dX10_days_157 : decode cX10_days 157 = .ok (.istore 7, 2) := by decide +kernel
theorem dX10_days_159 : decode cX10_days 159 = .ok (.iload 8, 2) := by decide +kernel
theorem dX10_days_161 : decode cX10_days 161 = .ok (.aload_n 0, 1) := by decide +kernel
theorem dX10_days_162 : decode cX10_days 162 = .ok (.getfield 38, 3) := by decide +kernel
theorem dX10_days_165 : decode cX10_days 165 = .ok (.getfield 126, 3) := by decide +kernel
theorem dX10_days_168 : decode cX10_days 168 = .ok (.invokevirtual 294, 3) := by decide +kernel
theorem dX10_days_171 : decode cX10_days 171 = .ok (.ifCond .eq 7, 3) := by decide +kernel
theorem dX10_days_174 : decode cX10_days 174 = .ok (.iconst 1, 1) := by decide +kernel
theorem dX10_days_175 : decode cX10_days 175 = .ok (.goto 4, 3) := by decide +kernel
theorem dX10_days_178 : decode cX10_days 178 = .ok (.iconst 0, 1) := by decide +kernel
theorem dX10_days_179 : decode cX10_days 179 = .ok (.iadd, 1) := by decide +kernel
theorem dX10_days_180 : decode cX10_days 180 = .ok (.istore 8, 2) := by decide +kernel
theorem dX10_days_182 : decode cX10_days 182 = .ok (.iinc 9 1, 3) := by decide +kernel
theorem dX10_days_185 : decode cX10_days 185 = .ok (.goto (-121), 3) := by decide +kernel
theorem dX10_days_188 : decode cX10_days 188 = .ok (.iload 4, 2) := by decide +kernel
theorem dX10_days_190 : decode cX10_days 190 = .ok (.ifCond .ne 8, 3) := by decide +kernel
theorem dX10_days_193 : decode cX10_days 193 = .ok (.iload 6, 2) := by decide +kernel
theorem dX10_days_195 : decode cX10_days 195 = .ok (.goto 16, 3) := by decide +kernel
theorem dX10_days_198 : decode cX10_days 198 = .ok (.iload 4, 2) := by decide +kernel
theorem dX10_days_200 : decode cX10_days 200 = .ok (.iconst 1, 1) := by decide +kernel
theorem dX10_days_201 : decode cX10_days 201 = .ok (.if_icmp .ne 8, 3) := by decide +kernel
theorem dX10_days_204 : decode cX10_days 204 = .ok (.iload 7, 2) := by decide +kernel
theorem dX10_days_206 : decode cX10_days 206 = .ok (.goto 5, 3) := by decide +kernel
theorem dX10_days_209 : decode cX10_days 209 = .ok (.iload 8, 2) := by decide +kernel
theorem dX10_days_211 : decode cX10_days 211 = .ok (.ireturn, 1) := by decide +kernel
theorem dX10_decoys_0 : decode cX10_decoys 0 = .ok (.aload_n 0, 1) := by decide +kernel
theorem dX10_decoys_1 : decode cX10_decoys 1 = .ok (.getfield 34, 3) := by decide +kernel
theorem dX10_decoys_4 : decode cX10_decoys 4 = .ok (.getfield 126, 3) := by decide +kernel
theorem dX10_decoys_7 : decode cX10_decoys 7 = .ok (.iload_n 1, 1) := by decide +kernel
theorem dX10_decoys_8 : decode cX10_decoys 8 = .ok (.invokevirtual 229, 3) := by decide +kernel
theorem dX10_decoys_11 : decode cX10_decoys 11 = .ok (.ifCond .ne 5, 3) := by decide +kernel
theorem dX10_decoys_14 : decode cX10_decoys 14 = .ok (.iconst (-1), 1) := by decide +kernel
theorem dX10_decoys_15 : decode cX10_decoys 15 = .ok (.ireturn, 1) := by decide +kernel
theorem dX10_decoys_16 : decode cX10_decoys 16 = .ok (.aload_n 0, 1) := by decide +kernel
theorem dX10_decoys_17 : decode cX10_decoys 17 = .ok (.getfield 34, 3) := by decide +kernel
theorem dX10_decoys_20 : decode cX10_decoys 20 = .ok (.getfield 126, 3) := by decide +kernel
theorem dX10_decoys_23 : decode cX10_decoys 23 = .ok (.invokevirtual 232, 3) := by decide +kernel
theorem dX10_decoys_26 : decode cX10_decoys 26 = .ok (.iconst 1, 1) := by decide +kernel
theorem dX10_decoys_27 : decode cX10_decoys 27 = .ok (.iload_n 1, 1) := by decide +kernel
theorem dX10_decoys_28 : decode cX10_decoys 28 = .ok (.ishl, 1) := by decide +kernel
theorem dX10_decoys_29 : decode cX10_decoys 29 = .ok (.iconst (-1), 1) := by decide +kernel
theorem dX10_decoys_30 : decode cX10_decoys 30 = .ok (.ixor, 1) := by decide +kernel
theorem dX10_decoys_31 : decode cX10_decoys 31 = .ok (.iand, 1) := by decide +kernel
theorem dX10_decoys_32 : decode cX10_decoys 32 = .ok (.istore_n 2, 1) := by decide +kernel
theorem dX10_decoys_33 : decode cX10_decoys 33 = .ok (.iconst 0, 1) := by decide +kernel
theorem dX10_decoys_34 : decode cX10_decoys 34 = .ok (.istore_n 3, 1) := by decide +kernel
theorem dX10_decoys_35 : decode cX10_decoys 35 = .ok (.iload_n 3, 1) := by decide +kernel
theorem dX10_decoys_36 : decode cX10_decoys 36 = .ok (.bipush 6, 2) := by decide +kernel
theorem dX10_decoys_38 : decode cX10_decoys 38 = .ok (.if_icmp .ge 81, 3) := by decide +kernel
theorem dX10_decoys_41 : decode cX10_decoys 41 = .ok (.iconst 0, 1) := by decide +kernel
theorem dX10_decoys_42 : decode cX10_decoys 42 = .ok (.istore 4, 2) := by decide +kernel
theorem dX10_decoys_44 : decode cX10_decoys 44 = .ok (.iload 4, 2) := by decide +kernel
theorem dX10_decoys_46 : decode cX10_decoys 46 = .ok (.bipush 64, 2) := by decide +kernel
theorem dX10_decoys_48 : decode cX10_decoys 48 = .ok (.if_icmp .ge 65, 3) := by decide +kernel
theorem dX10_decoys_51 : decode cX10_decoys 51 = .ok (.iload 4, 2) := by decide +kernel
theorem dX10_decoys_53 : decode cX10_decoys 53 = .ok (.iload_n 2, 1) := by decide +kernel
theorem dX10_decoys_54 : decode cX10_decoys 54 = .ok (.iconst (-1), 1) := by decide +kernel
theorem dX10_decoys_55 : decode cX10_decoys 55 = .ok (.ixor, 1) := by decide +kernel
theorem dX10_decoys_56 : decode cX10_decoys 56 = .ok (.iand, 1) := by decide +kernel
theorem dX10_decoys_57 : decode cX10_decoys 57 = .ok (.ifCond .ne 16, 3) := by decide +kernel
theorem dX10_decoys_60 : decode cX10_decoys 60 = .ok (.iload 4, 2) := by decide +kernel
theorem dX10_decoys_62 : decode cX10_decoys 62 = .ok (.invokestatic 163, 3) := by decide +kernel
theorem dX10_decoys_65 : decode cX10_decoys 65 = .ok (.iload_n 3, 1) := by decide +kernel
theorem dX10_decoys_66 : decode cX10_decoys 66 = .ok (.if_icmp .ne 7, 3) := by decide +kernel
theorem dX10_decoys_69 : decode cX10_decoys 69 = .ok (.iconst 1, 1) := by decide +kernel
theorem dX10_decoys_70 : decode cX10_decoys 70 = .ok (.goto 4, 3) := by decide +kernel
theorem dX10_decoys_73 : decode cX10_decoys 73 = .ok (.iconst 0, 1) := by decide +kernel
theorem dX10_decoys_74 : decode cX10_decoys 74 = .ok (.istore 5, 2) := by decide +kernel
theorem dX10_decoys_76 : decode cX10_decoys 76 = .ok (.iload 5, 2) := by decide +kernel
theorem dX10_decoys_78 : decode cX10_decoys 78 = .ok (.ifCond .eq 29, 3) := by decide +kernel
theorem dX10_decoys_81 : decode cX10_decoys 81 = .ok (.aload_n 0, 1) := by decide +kernel
theorem dX10_decoys_82 : decode cX10_decoys 82 = .ok (.iload 4, 2) := by decide +kernel
theorem dX10_decoys_84 : decode cX10_decoys 84 = .ok (.iconst 1, 1) := by decide +kernel
theorem dX10_decoys_85 : decode cX10_decoys 85 = .ok (.iload_n 1, 1) := by decide +kernel
theorem dX10_decoys_86 : decode cX10_decoys 86 = .ok (.ishl, 1) := by decide +kernel
theorem dX10_decoys_87 : decode cX10_decoys 87 = .ok (.ior, 1) := by decide +kernel
theorem dX10_decoys_88 : decode cX10_decoys 88 = .ok (.invokevirtual 199, 3) := by decide +kernel
theorem dX10_decoys_91 : decode cX10_decoys 91 = .ok (.ifCond .eq 16, 3) := by decide +kernel
theorem dX10_decoys_94 : decode cX10_decoys 94 = .ok (.aload_n 0, 1) := by decide +kernel
theorem dX10_decoys_95 : decode cX10_decoys 95 = .ok (.iload 4, 2) := by decide +kernel
theorem dX10_decoys_97 : decode cX10_decoys 97 = .ok (.iload_n 1, 1) := by decide +kernel
theorem dX10_decoys_98 : decode cX10_decoys 98 = .ok (.invokevirtual 235, 3) := by decide +kernel
theorem dX10_decoys_101 : decode cX10_decoys 101 = .ok (.ifCond .eq 6, 3) := by decide +kernel
theorem dX10_decoys_104 : decode cX10_decoys 104 = .ok (.iload 4, 2) := by decide +kernel
theorem dX10_decoys_106 : decode cX10_decoys 106 = .ok (.ireturn, 1) := by decide +kernel
theorem dX10_decoys_107 : decode cX10_decoys 107 = .ok (.iinc 4 1, 3) := by decide +kernel
theorem dX10_decoys_110 : decode cX10_decoys 110 = .ok (.goto (-66), 3) := by decide +kernel
theorem dX10_decoys_113 : decode cX10_decoys 113 = .ok (.iinc 3 1, 3) := by decide +kernel
theorem dX10_decoys_116 : decode cX10_decoys 116 = .ok (.goto (-81), 3) := by decide +kernel
theorem dX10_decoys_119 : decode cX10_decoys 119 = .ok (.bipush (-2), 2) := by decide +kernel
theorem dX10_decoys_121 : decode cX10_decoys 121 = .ok (.ireturn, 1) := by decide +kernel
theorem dX10_done_0 : decode cX10_done 0 = .ok (.aload_n 0, 1) := by decide +kernel
theorem dX10_done_1 : decode cX10_done 1 = .ok (.getfield 38, 3) := by decide +kernel
theorem dX10_done_4 : decode cX10_done 4 = .ok (.aload_n 0, 1) := by decide +kernel
theorem dX10_done_5 : decode cX10_done 5 = .ok (.getfield 34, 3) := by decide +kernel
theorem dX10_done_8 : decode cX10_done 8 = .ok (.invokevirtual 88, 3) := by decide +kernel
theorem dX10_done_11 : decode cX10_done 11 = .ok (.aload_n 0, 1) := by decide +kernel
theorem dX10_done_12 : decode cX10_done 12 = .ok (.getfield 38, 3) := by decide +kernel
theorem dX10_done_15 : decode cX10_done 15 = .ok (.aload_n 0, 1) := by decide +kernel
theorem dX10_done_16 : decode cX10_done 16 = .ok (.getfield 34, 3) := by decide +kernel
theorem dX10_done_19 : decode cX10_done 19 = .ok (.getfield 261, 3) := by decide +kernel
theorem dX10_done_22 : decode cX10_done 22 = .ok (.invokevirtual 267, 3) := by decide +kernel
theorem dX10_done_25 : decode cX10_done 25 = .ok (.ireturn, 1) := by decide +kernel
theorem dX10_end_0 : decode cX10_end 0 = .ok (.iload_n 1, 1) := by decide +kernel
theorem dX10_end_1 : decode cX10_end 1 = .ok (.ifCond .lt 14, 3) := by decide +kernel
theorem dX10_end_4 : decode cX10_end 4 = .ok (.iload_n 1, 1) := by decide +kernel
theorem dX10_end_5 : decode cX10_end 5 = .ok (.aload_n 0, 1) := by decide +kernel
theorem dX10_end_6 : decode cX10_end 6 = .ok (.getfield 10, 3) := by decide +kernel
theorem dX10_end_9 : decode cX10_end 9 = .ok (.getfield 72, 3) := by decide +kernel
theorem dX10_end_12 : decode cX10_end 12 = .ok (.if_icmp .le 5, 3) := by decide +kernel
theorem dX10_end_15 : decode cX10_end 15 = .ok (.iconst (-1), 1) := by decide +kernel
theorem dX10_end_16 : decode cX10_end 16 = .ok (.ireturn, 1) := by decide +kernel
theorem dX10_end_17 : decode cX10_end 17 = .ok (.aload_n 0, 1) := by decide +kernel
theorem dX10_end_18 : decode cX10_end 18 = .ok (.getfield 10, 3) := by decide +kernel
theorem dX10_end_21 : decode cX10_end 21 = .ok (.iload_n 1, 1) := by decide +kernel
theorem dX10_end_22 : decode cX10_end 22 = .ok (.putfield 72, 3) := by decide +kernel
theorem dX10_end_25 : decode cX10_end 25 = .ok (.iload_n 1, 1) := by decide +kernel
theorem dX10_end_26 : decode cX10_end 26 = .ok (.ireturn, 1) := by decide +kernel
theorem dX10_far_0 : decode cX10_far 0 = .ok (.iload_n 1, 1) := by decide +kernel
theorem dX10_far_1 : decode cX10_far 1 = .ok (.invokestatic 157, 3) := by decide +kernel
theorem dX10_far_4 : decode cX10_far 4 = .ok (.ifCond .eq 10, 3) := by decide +kernel
theorem dX10_far_7 : decode cX10_far 7 = .ok (.iload_n 2, 1) := by decide +kernel
theorem dX10_far_8 : decode cX10_far 8 = .ok (.invokestatic 157, 3) := by decide +kernel
theorem dX10_far_11 : decode cX10_far 11 = .ok (.ifCond .ne 5, 3) := by decide +kernel
theorem dX10_far_14 : decode cX10_far 14 = .ok (.iconst (-1), 1) := by decide +kernel
theorem dX10_far_15 : decode cX10_far 15 = .ok (.ireturn, 1) := by decide +kernel
theorem dX10_far_16 : decode cX10_far 16 = .ok (.aload_n 0, 1) := by decide +kernel
theorem dX10_far_17 : decode cX10_far 17 = .ok (.getfield 34, 3) := by decide +kernel
