theorem dX4_directionsOf_38 : decode cX4_directionsOf 38 = .ok (.goto (-27), 3) := by decide +kernel
theorem dX4_directionsOf_41 : decode cX4_directionsOf 41 = .ok (.iconst 1, 1) := by decide +kernel
theorem dX4_directionsOf_42 : decode cX4_directionsOf 42 = .ok (.istore 7, 2) := by decide +kernel
theorem dX4_directionsOf_44 : decode cX4_directionsOf 44 = .ok (.iload 7, 2) := by decide +kernel
theorem dX4_directionsOf_46 : decode cX4_directionsOf 46 = .ok (.iconst 1, 1) := by decide +kernel
theorem dX4_directionsOf_47 : decode cX4_directionsOf 47 = .ok (.aload_n 0, 1) := by decide +kernel
theorem dX4_directionsOf_48 : decode cX4_directionsOf 48 = .ok (.getfield 9, 3) := by decide +kernel
theorem dX4_directionsOf_51 : decode cX4_directionsOf 51 = .ok (.ishl, 1) := by decide +kernel
theorem dX4_directionsOf_52 : decode cX4_directionsOf 52 = .ok (.if_icmp .gt 90, 3) := by decide +kernel
theorem dX4_directionsOf_55 : decode cX4_directionsOf 55 = .ok (.lload 4, 2) := by decide +kernel
theorem dX4_directionsOf_57 : decode cX4_directionsOf 57 = .ok (.lload_n 1, 1) := by decide +kernel
theorem dX4_directionsOf_58 : decode cX4_directionsOf 58 = .ok (.lcmp, 1) := by decide +kernel
theorem dX4_directionsOf_59 : decode cX4_directionsOf 59 = .ok (.ifCond .ne 6, 3) := by decide +kernel
theorem dX4_directionsOf_62 : decode cX4_directionsOf 62 = .ok (.iinc 3 1, 3) := by decide +kernel
theorem dX4_directionsOf_65 : decode cX4_directionsOf 65 = .ok (.iload 7, 2) := by decide +kernel
theorem dX4_directionsOf_67 : decode cX4_directionsOf 67 = .ok (.invokestatic 64, 3) := by decide +kernel
theorem dX4_directionsOf_70 : decode cX4_directionsOf 70 = .ok (.istore 8, 2) := by decide +kernel
theorem dX4_directionsOf_72 : decode cX4_directionsOf 72 = .ok (.iload 8, 2) := by decide +kernel
theorem dX4_directionsOf_74 : decode cX4_directionsOf 74 = .ok (.aload_n 0, 1) := by decide +kernel
theorem dX4_directionsOf_75 : decode cX4_directionsOf 75 = .ok (.getfield 9, 3) := by decide +kernel
theorem dX4_directionsOf_78 : decode cX4_directionsOf 78 = .ok (.if_icmp .ge 58, 3) := by decide +kernel
theorem dX4_directionsOf_81 : decode cX4_directionsOf 81 = .ok (.aload_n 0, 1) := by decide +kernel
theorem dX4_directionsOf_82 : decode cX4_directionsOf 82 = .ok (.getfield 22, 3) := by decide +kernel
theorem dX4_directionsOf_85 : decode cX4_directionsOf 85 = .ok (.iload 8, 2) := by decide +kernel
theorem dX4_directionsOf_87 : decode cX4_directionsOf 87 = .ok (.iaload, 1) := by decide +kernel
theorem dX4_directionsOf_88 : decode cX4_directionsOf 88 = .ok (.invokestatic 60, 3) := by decide +kernel
theorem dX4_directionsOf_91 : decode cX4_directionsOf 91 = .ok (.aload_n 0, 1) := by decide +kernel
theorem dX4_directionsOf_92 : decode cX4_directionsOf 92 = .ok (.getfield 18, 3) := by decide +kernel
theorem dX4_directionsOf_95 : decode cX4_directionsOf 95 = .ok (.iload 8, 2) := by decide +kernel
theorem dX4_directionsOf_97 : decode cX4_directionsOf 97 = .ok (.iaload, 1) := by decide +kernel
theorem dX4_directionsOf_98 : decode cX4_directionsOf 98 = .ok (.invokestatic 60, 3) := by decide +kernel
theorem dX4_directionsOf_101 : decode cX4_directionsOf 101 = .ok (.lsub, 1) := by decide +kernel
theorem dX4_directionsOf_102 : decode cX4_directionsOf 102 = .ok (.lstore 9, 2) := by decide +kernel
theorem dX4_directionsOf_104 : decode cX4_directionsOf 104 = .ok (.lload 4, 2) := by decide +kernel
theorem dX4_directionsOf_106 : decode cX4_directionsOf 106 = .ok (.iload 6, 2) := by decide +kernel
theorem dX4_directionsOf_108 : decode cX4_directionsOf 108 = .ok (.iload 8, 2) := by decide +kernel
theorem dX4_directionsOf_110 : decode cX4_directionsOf 110 = .ok (.ishr, 1) := by decide +kernel
theorem dX4_directionsOf_111 : decode cX4_directionsOf 111 = .ok (.iconst 1, 1) := by decide +kernel
theorem dX4_directionsOf_112 : decode cX4_directionsOf 112 = .ok (.iand, 1) := by decide +kernel
theorem dX4_directionsOf_113 : decode cX4_directionsOf 113 = .ok (.ifCond .ne 8, 3) := by decide +kernel
theorem dX4_directionsOf_116 : decode cX4_directionsOf 116 = .ok (.lload 9, 2) := by decide +kernel
theorem dX4_directionsOf_118 : decode cX4_directionsOf 118 = .ok (.goto 6, 3) := by decide +kernel
theorem dX4_directionsOf_121 : decode cX4_directionsOf 121 = .ok (.lload 9, 2) := by decide +kernel
theorem dX4_directionsOf_123 : decode cX4_directionsOf 123 = .ok (.lneg, 1) := by decide +kernel
theorem dX4_directionsOf_124 : decode cX4_directionsOf 124 = .ok (.ladd, 1) := by decide +kernel
theorem dX4_directionsOf_125 : decode cX4_directionsOf 125 = .ok (.lstore 4, 2) := by decide +kernel
theorem dX4_directionsOf_127 : decode cX4_directionsOf 127 = .ok (.iload 6, 2) := by decide +kernel
theorem dX4_directionsOf_129 : decode cX4_directionsOf 129 = .ok (.iconst 1, 1) := by decide +kernel
theorem dX4_directionsOf_130 : decode cX4_directionsOf 130 = .ok (.iload 8, 2) := by decide +kernel
theorem dX4_directionsOf_132 : decode cX4_directionsOf 132 = .ok (.ishl, 1) := by decide +kernel
theorem dX4_directionsOf_133 : decode cX4_directionsOf 133 = .ok (.ixor, 1) := by decide +kernel
theorem dX4_directionsOf_134 : decode cX4_directionsOf 134 = .ok (.istore 6, 2) := by decide +kernel
theorem dX4_directionsOf_136 : decode cX4_directionsOf 136 = .ok (.iinc 7 1, 3) := by decide +kernel
theorem dX4_directionsOf_139 : decode cX4_directionsOf 139 = .ok (.goto (-95), 3) := by decide +kernel
theorem dX4_directionsOf_142 : decode cX4_directionsOf 142 = .ok (.iload_n 3, 1) := by decide +kernel
theorem dX4_directionsOf_143 : decode cX4_directionsOf 143 = .ok (.ireturn, 1) := by decide +kernel
theorem dX4_distance_0 : decode cX4_distance 0 = .ok (.iconst 1, 1) := by decide +kernel
theorem dX4_distance_1 : decode cX4_distance 1 = .ok (.iload_n 1, 1) := by decide +kernel
theorem dX4_distance_2 : decode cX4_distance 2 = .ok (.ishl, 1) := by decide +kernel
theorem dX4_distance_3 : decode cX4_distance 3 = .ok (.istore_n 3, 1) := by decide +kernel
theorem dX4_distance_4 : decode cX4_distance 4 = .ok (.iconst 0, 1) := by decide +kernel
theorem dX4_distance_5 : decode cX4_distance 5 = .ok (.istore 4, 2) := by decide +kernel
theorem dX4_distance_7 : decode cX4_distance 7 = .ok (.iload 4, 2) := by decide +kernel
theorem dX4_distance_9 : decode cX4_distance 9 = .ok (.bipush 8, 2) := by decide +kernel
theorem dX4_distance_11 : decode cX4_distance 11 = .ok (.if_icmp .ge 26, 3) := by decide +kernel
theorem dX4_distance_14 : decode cX4_distance 14 = .ok (.iload_n 3, 1) := by decide +kernel
theorem dX4_distance_15 : decode cX4_distance 15 = .ok (.iload_n 2, 1) := by decide +kernel
theorem dX4_distance_16 : decode cX4_distance 16 = .ok (.ishr, 1) := by decide +kernel
theorem dX4_distance_17 : decode cX4_distance 17 = .ok (.iconst 1, 1) := by decide +kernel
theorem dX4_distance_18 : decode cX4_distance 18 = .ok (.iand, 1) := by decide +kernel
theorem dX4_distance_19 : decode cX4_distance 19 = .ok (.ifCond .eq 6, 3) := by decide +kernel
theorem dX4_distance_22 : decode cX4_distance 22 = .ok (.iload 4, 2) := by decide +kernel
theorem dX4_distance_24 : decode cX4_distance 24 = .ok (.ireturn, 1) := by decide +kernel
theorem dX4_distance_25 : decode cX4_distance 25 = .ok (.aload_n 0, 1) := by decide +kernel
theorem dX4_distance_26 : decode cX4_distance 26 = .ok (.iload_n 3, 1) := by decide +kernel
theorem dX4_distance_27 : decode cX4_distance 27 = .ok (.invokevirtual 57, 3) := by decide +kernel
theorem dX4_distance_30 : decode cX4_distance 30 = .ok (.istore_n 3, 1) := by decide +kernel
theorem dX4_distance_31 : decode cX4_distance 31 = .ok (.iinc 4 1, 3) := by decide +kernel
theorem dX4_distance_34 : decode cX4_distance 34 = .ok (.goto (-27), 3) := by decide +kernel
theorem dX4_distance_37 : decode cX4_distance 37 = .ok (.iconst (-1), 1) := by decide +kernel
theorem dX4_distance_38 : decode cX4_distance 38 = .ok (.ireturn, 1) := by decide +kernel
theorem dX4_has_0 : decode cX4_has 0 = .ok (.iload_n 1, 1) := by decide +kernel
theorem dX4_has_1 : decode cX4_has 1 = .ok (.ifCond .lt 15, 3) := by decide +kernel
theorem dX4_has_4 : decode cX4_has 4 = .ok (.iload_n 1, 1) := by decide +kernel
theorem dX4_has_5 : decode cX4_has 5 = .ok (.aload_n 0, 1) := by decide +kernel
theorem dX4_has_6 : decode cX4_has 6 = .ok (.getfield 9, 3) := by decide +kernel
theorem dX4_has_9 : decode cX4_has 9 = .ok (.if_icmp .ge 7, 3) := by decide +kernel
theorem dX4_has_12 : decode cX4_has 12 = .ok (.iconst 1, 1) := by decide +kernel
theorem dX4_has_13 : decode cX4_has 13 = .ok (.goto 4, 3) := by decide +kernel
theorem dX4_has_16 : decode cX4_has 16 = .ok (.iconst 0, 1) := by decide +kernel
theorem dX4_has_17 : decode cX4_has 17 = .ok (.ireturn, 1) := by decide +kernel
theorem dX4_head_0 : decode cX4_head 0 = .ok (.aload_n 0, 1) := by decide +kernel
theorem dX4_head_1 : decode cX4_head 1 = .ok (.getfield 15, 3) := by decide +kernel
theorem dX4_head_4 : decode cX4_head 4 = .ok (.iload_n 1, 1) := by decide +kernel
theorem dX4_head_5 : decode cX4_head 5 = .ok (.ishr, 1) := by decide +kernel
theorem dX4_head_6 : decode cX4_head 6 = .ok (.iconst 1, 1) := by decide +kernel
theorem dX4_head_7 : decode cX4_head 7 = .ok (.iand, 1) := by decide +kernel
theorem dX4_head_8 : decode cX4_head 8 = .ok (.ifCond .ne 12, 3) := by decide +kernel
theorem dX4_head_11 : decode cX4_head 11 = .ok (.aload_n 0, 1) := by decide +kernel
theorem dX4_head_12 : decode cX4_head 12 = .ok (.getfield 22, 3) := by decide +kernel
theorem dX4_head_15 : decode cX4_head 15 = .ok (.iload_n 1, 1) := by decide +kernel
theorem dX4_head_16 : decode cX4_head 16 = .ok (.iaload, 1) := by decide +kernel
theorem dX4_head_17 : decode cX4_head 17 = .ok (.goto 9, 3) := by decide +kernel
theorem dX4_head_20 : decode cX4_head 20 = .ok (.aload_n 0, 1) := by decide +kernel
theorem dX4_head_21 : decode cX4_head 21 = .ok (.getfield 18, 3) := by decide +kernel
theorem dX4_head_24 : decode cX4_head 24 = .ok (.iload_n 1, 1) := by decide +kernel
theorem dX4_head_25 : decode cX4_head 25 = .ok (.iaload, 1) := by decide +kernel
theorem dX4_head_26 : decode cX4_head 26 = .ok (.ireturn, 1) := by decide +kernel
theorem dX4_hither_0 : decode cX4_hither 0 = .ok (.aload_n 0, 1) := by decide +kernel
theorem dX4_hither_1 : decode cX4_hither 1 = .ok (.getfield 37, 3) := by decide +kernel
theorem dX4_hither_4 : decode cX4_hither 4 = .ok (.iload_n 1, 1) := by decide +kernel
theorem dX4_hither_5 : decode cX4_hither 5 = .ok (.iaload, 1) := by decide +kernel
theorem dX4_hither_6 : decode cX4_hither 6 = .ok (.aload_n 0, 1) := by decide +kernel
theorem dX4_hither_7 : decode cX4_hither 7 = .ok (.getfield 15, 3) := by decide +kernel
theorem dX4_hither_10 : decode cX4_hither 10 = .ok (.iconst (-1), 1) := by decide +kernel
theorem dX4_hither_11 : decode cX4_hither 11 = .ok (.ixor, 1) := by decide +kernel
theorem dX4_hither_12 : decode cX4_hither 12 = .ok (.iand, 1) := by decide +kernel
theorem dX4_hither_13 : decode cX4_hither 13 = .ok (.aload_n 0, 1) := by decide +kernel
theorem dX4_hither_14 : decode cX4_hither 14 = .ok (.getfield 34, 3) := by decide +kernel
theorem dX4_hither_17 : decode cX4_hither 17 = .ok (.iload_n 1, 1) := by decide +kernel
theorem dX4_hither_18 : decode cX4_hither 18 = .ok (.iaload, 1) := by decide +kernel
theorem dX4_hither_19 : decode cX4_hither 19 = .ok (.aload_n 0, 1) := by decide +kernel
theorem dX4_hither_20 : decode cX4_hither 20 = .ok (.getfield 15, 3) := by decide +kernel
theorem dX4_hither_23 : decode cX4_hither 23 = .ok (.iand, 1) := by decide +kernel
theorem dX4_hither_24 : decode cX4_hither 24 = .ok (.ior, 1) := by decide +kernel
theorem dX4_hither_25 : decode cX4_hither 25 = .ok (.ireturn, 1) := by decide +kernel
theorem dX4_init_0 : decode cX4_init 0 = .ok (.aload_n 0, 1) := by decide +kernel
theorem dX4_init_1 : decode cX4_init 1 = .ok (.invokespecial 3, 3) := by decide +kernel
theorem dX4_init_4 : decode cX4_init 4 = .ok (.aload_n 0, 1) := by decide +kernel
theorem dX4_init_5 : decode cX4_init 5 = .ok (.iconst 0, 1) := by decide +kernel
theorem dX4_init_6 : decode cX4_init 6 = .ok (.putfield 9, 3) := by decide +kernel
theorem dX4_init_9 : decode cX4_init 9 = .ok (.aload_n 0, 1) := by decide +kernel
theorem dX4_init_10 : decode cX4_init 10 = .ok (.iconst 0, 1) := by decide +kernel
theorem dX4_init_11 : decode cX4_init 11 = .ok (.putfield 15, 3) := by decide +kernel
theorem dX4_init_14 : decode cX4_init 14 = .ok (.aload_n 0, 1) := by decide +kernel
theorem dX4_init_15 : decode cX4_init 15 = .ok (.bipush 14, 2) := by decide +kernel
theorem dX4_init_17 : decode cX4_init 17 = .ok (.newarray .int, 2) := by decide +kernel
theorem dX4_init_19 : decode cX4_init 19 = .ok (.putfield 18, 3) := by decide +kernel
theorem dX4_init_22 : decode cX4_init 22 = .ok (.aload_n 0, 1) := by decide +kernel
theorem dX4_init_23 : decode cX4_init 23 = .ok (.bipush 14, 2) := by decide +kernel
theorem dX4_init_25 : decode cX4_init 25 = .ok (.newarray .int, 2) := by decide +kernel
theorem dX4_init_27 : decode cX4_init 27 = .ok (.putfield 22, 3) := by decide +kernel
theorem dX4_init_30 : decode cX4_init 30 = .ok (.aload_n 0, 1) := by decide +kernel
theorem dX4_init_31 : decode cX4_init 31 = .ok (.bipush 14, 2) := by decide +kernel
theorem dX4_init_33 : decode cX4_init 33 = .ok (.newarray .int, 2) := by decide +kernel
theorem dX4_init_35 : decode cX4_init 35 = .ok (.putfield 25, 3) := by decide +kernel
theorem dX4_init_38 : decode cX4_init 38 = .ok (.aload_n 0, 1) := by decide +kernel
theorem dX4_init_39 : decode cX4_init 39 = .ok (.bipush 14, 2) := by decide +kernel
theorem dX4_init_41 : decode cX4_init 41 = .ok (.newarray .int, 2) := by decide +kernel
theorem dX4_init_43 : decode cX4_init 43 = .ok (.putfield 28, 3) := by decide +kernel
theorem dX4_init_46 : decode cX4_init 46 = .ok (.aload_n 0, 1) := by decide +kernel
theorem dX4_init_47 : decode cX4_init 47 = .ok (.bipush 14, 2) := by decide +kernel
theorem dX4_init_49 : decode cX4_init 49 = .ok (.newarray .int, 2) := by decide +kernel
theorem dX4_init_51 : decode cX4_init 51 = .ok (.putfield 31, 3) := by decide +kernel
theorem dX4_init_54 : decode cX4_init 54 = .ok (.aload_n 0, 1) := by decide +kernel
theorem dX4_init_55 : decode cX4_init 55 = .ok (.bipush 8, 2) := by decide +kernel
theorem dX4_init_57 : decode cX4_init 57 = .ok (.newarray .int, 2) := by decide +kernel
theorem dX4_init_59 : decode cX4_init 59 = .ok (.putfield 34, 3) := by decide +kernel
theorem dX4_init_62 : decode cX4_init 62 = .ok (.aload_n 0, 1) := by decide +kernel
theorem dX4_init_63 : decode cX4_init 63 = .ok (.bipush 8, 2) := by decide +kernel
theorem dX4_init_65 : decode cX4_init 65 = .ok (.newarray .int, 2) := by decide +kernel
theorem dX4_init_67 : decode cX4_init 67 = .ok (.putfield 37, 3) := by decide +kernel
theorem dX4_init_70 : decode cX4_init 70 = .ok (.return_, 1) := by decide +kernel
theorem dX4_outwards_0 : decode cX4_outwards 0 = .ok (.lconst 0, 1) := by decide +kernel
theorem dX4_outwards_1 : decode cX4_outwards 1 = .ok (.lstore_n 1, 1) := by decide +kernel
theorem dX4_outwards_2 : decode cX4_outwards 2 = .ok (.iconst 0, 1) := by decide +kernel
theorem dX4_outwards_3 : decode cX4_outwards 3 = .ok (.istore_n 3, 1) := by decide +kernel
theorem dX4_outwards_4 : decode cX4_outwards 4 = .ok (.iload_n 3, 1) := by decide +kernel
theorem dX4_outwards_5 : decode cX4_outwards 5 = .ok (.aload_n 0, 1) := by decide +kernel
theorem dX4_outwards_6 : decode cX4_outwards 6 = .ok (.getfield 9, 3) := by decide +kernel
theorem dX4_outwards_9 : decode cX4_outwards 9 = .ok (.if_icmp .ge 20, 3) := by decide +kernel
theorem dX4_outwards_12 : decode cX4_outwards 12 = .ok (.lload_n 1, 1) := by decide +kernel
theorem dX4_outwards_13 : decode cX4_outwards 13 = .ok (.aload_n 0, 1) := by decide +kernel
theorem dX4_outwards_14 : decode cX4_outwards 14 = .ok (.iload_n 3, 1) := by decide +kernel
theorem dX4_outwards_15 : decode cX4_outwards 15 = .ok (.invokevirtual 50, 3) := by decide +kernel
theorem dX4_outwards_18 : decode cX4_outwards 18 = .ok (.invokestatic 60, 3) := by decide +kernel
theorem dX4_outwards_21 : decode cX4_outwards 21 = .ok (.ladd, 1) := by decide +kernel
theorem dX4_outwards_22 : decode cX4_outwards 22 = .ok (.lstore_n 1, 1) := by decide +kernel
theorem dX4_outwards_23 : decode cX4_outwards 23 = .ok (.iinc 3 1, 3) := by decide +kernel
theorem dX4_outwards_26 : decode cX4_outwards 26 = .ok (.goto (-22), 3) := by decide +kernel
theorem dX4_outwards_29 : decode cX4_outwards 29 = .ok (.lload_n 1, 1) := by decide +kernel
theorem dX4_outwards_30 : decode cX4_outwards 30 = .ok (.lreturn, 1) := by decide +kernel
theorem dX4_reach_0 : decode cX4_reach 0 = .ok (.iconst 1, 1) := by decide +kernel
theorem dX4_reach_1 : decode cX4_reach 1 = .ok (.iload_n 1, 1) := by decide +kernel
theorem dX4_reach_2 : decode cX4_reach 2 = .ok (.ishl, 1) := by decide +kernel
theorem dX4_reach_3 : decode cX4_reach 3 = .ok (.istore_n 2, 1) := by decide +kernel
theorem dX4_reach_4 : decode cX4_reach 4 = .ok (.iconst 1, 1) := by decide +kernel
theorem dX4_reach_5 : decode cX4_reach 5 = .ok (.istore_n 3, 1) := by decide +kernel
theorem dX4_reach_6 : decode cX4_reach 6 = .ok (.iload_n 3, 1) := by decide +kernel
theorem dX4_reach_7 : decode cX4_reach 7 = .ok (.bipush 8, 2) := by decide +kernel
theorem dX4_reach_9 : decode cX4_reach 9 = .ok (.if_icmp .ge 15, 3) := by decide +kernel
theorem dX4_reach_12 : decode cX4_reach 12 = .ok (.aload_n 0, 1) := by decide +kernel
theorem dX4_reach_13 : decode cX4_reach 13 = .ok (.iload_n 2, 1) := by decide +kernel
theorem dX4_reach_14 : decode cX4_reach 14 = .ok (.invokevirtual 57, 3) := by decide +kernel
theorem dX4_reach_17 : decode cX4_reach 17 = .ok (.istore_n 2, 1) := by decide +kernel
theorem dX4_reach_18 : decode cX4_reach 18 = .ok (.iinc 3 1, 3) := by decide +kernel
theorem dX4_reach_21 : decode cX4_reach 21 = .ok (.goto (-15), 3) := by decide +kernel
theorem dX4_reach_24 : decode cX4_reach 24 = .ok (.iload_n 2, 1) := by decide +kernel
theorem dX4_reach_25 : decode cX4_reach 25 = .ok (.ireturn, 1) := by decide +kernel
theorem dX4_spread_0 : decode cX4_spread 0 = .ok (.iload_n 1, 1) := by decide +kernel
theorem dX4_spread_1 : decode cX4_spread 1 = .ok (.istore_n 2, 1) := by decide +kernel
theorem dX4_spread_2 : decode cX4_spread 2 = .ok (.iconst 0, 1) := by decide +kernel
theorem dX4_spread_3 : decode cX4_spread 3 = .ok (.istore_n 3, 1) := by decide +kernel
theorem dX4_spread_4 : decode cX4_spread 4 = .ok (.iload_n 3, 1) := by decide +kernel
theorem dX4_spread_5 : decode cX4_spread 5 = .ok (.aload_n 0, 1) := by decide +kernel
theorem dX4_spread_6 : decode cX4_spread 6 = .ok (.getfield 9, 3) := by decide +kernel
theorem dX4_spread_9 : decode cX4_spread 9 = .ok (.if_icmp .ge 31, 3) := by decide +kernel
theorem dX4_spread_12 : decode cX4_spread 12 = .ok (.iload_n 1, 1) := by decide +kernel
theorem dX4_spread_13 : decode cX4_spread 13 = .ok (.aload_n 0, 1) := by decide +kernel
theorem dX4_spread_14 : decode cX4_spread 14 = .ok (.iload_n 3, 1) := by decide +kernel
theorem dX4_spread_15 : decode cX4_spread 15 = .ok (.invokevirtual 50, 3) := by decide +kernel
theorem dX4_spread_18 : decode cX4_spread 18 = .ok (.ishr, 1) := by decide +kernel
theorem dX4_spread_19 : decode cX4_spread 19 = .ok (.iconst 1, 1) := by decide +kernel
theorem dX4_spread_20 : decode cX4_spread 20 = .ok (.iand, 1) := by decide +kernel
theorem dX4_spread_21 : decode cX4_spread 21 = .ok (.ifCond .eq 13, 3) := by decide +kernel
theorem dX4_spread_24 : decode cX4_spread 24 = .ok (.iload_n 2, 1) := by decide +kernel
theorem dX4_spread_25 : decode cX4_spread 25 = .ok (.iconst 1, 1) := by decide +kernel
theorem dX4_spread_26 : decode cX4_spread 26 = .ok (.aload_n 0, 1) := by decide +kernel
theorem dX4_spread_27 : decode cX4_spread 27 = .ok (.iload_n 3, 1) := by decide +kernel
theorem dX4_spread_28 : decode cX4_spread 28 = .ok (.invokevirtual 54, 3) := by decide +kernel
theorem dX4_spread_31 : decode cX4_spread 31 = .ok (.ishl, 1) := by decide +kernel
theorem dX4_spread_32 : decode cX4_spread 32 = .ok (.ior, 1) := by decide +kernel
theorem dX4_spread_33 : decode cX4_spread 33 = .ok (.istore_n 2, 1) := by decide +kernel
theorem dX4_spread_34 : decode cX4_spread 34 = .ok (.iinc 3 1, 3) := by decide +kernel
theorem dX4_spread_37 : decode cX4_spread 37 = .ok (.goto (-33), 3) := by decide +kernel
theorem dX4_spread_40 : decode cX4_spread 40 = .ok (.iload_n 2, 1) := by decide +kernel
theorem dX4_spread_41 : decode cX4_spread 41 = .ok (.ireturn, 1) := by decide +kernel
theorem dX4_tail_0 : decode cX4_tail 0 = .ok (.aload_n 0, 1) := by decide +kernel
theorem dX4_tail_1 : decode cX4_tail 1 = .ok (.getfield 15, 3) := by decide +kernel
theorem dX4_tail_4 : decode cX4_tail 4 = .ok (.iload_n 1, 1) := by decide +kernel
theorem dX4_tail_5 : decode cX4_tail 5 = .ok (.ishr, 1) := by decide +kernel
theorem dX4_tail_6 : decode cX4_tail 6 = .ok (.iconst 1, 1) := by decide +kernel
theorem dX4_tail_7 : decode cX4_tail 7 = .ok (.iand, 1) := by decide +kernel
theorem dX4_tail_8 : decode cX4_tail 8 = .ok (.ifCond .ne 12, 3) := by decide +kernel
theorem dX4_tail_11 : decode cX4_tail 11 = .ok (.aload_n 0, 1) := by decide +kernel
theorem dX4_tail_12 : decode cX4_tail 12 = .ok (.getfield 18, 3) := by decide +kernel
theorem dX4_tail_15 : decode cX4_tail 15 = .ok (.iload_n 1, 1) := by decide +kernel
theorem dX4_tail_16 : decode cX4_tail 16 = .ok (.iaload, 1) := by decide +kernel
theorem dX4_tail_17 : decode cX4_tail 17 = .ok (.goto 9, 3) := by decide +kernel
theorem dX4_tail_20 : decode cX4_tail 20 = .ok (.aload_n 0, 1) := by decide +kernel
theorem dX4_tail_21 : decode cX4_tail 21 = .ok (.getfield 22, 3) := by decide +kernel
theorem dX4_tail_24 : decode cX4_tail 24 = .ok (.iload_n 1, 1) := by decide +kernel
theorem dX4_tail_25 : decode cX4_tail 25 = .ok (.iaload, 1) := by decide +kernel
theorem dX4_tail_26 : decode cX4_tail 26 = .ok (.ireturn, 1) := by decide +kernel
theorem dX4_unit_0 : decode cX4_unit 0 = .ok (.iload_n 0, 1) := by decide +kernel
theorem dX4_unit_1 : decode cX4_unit 1 = .ok (.ifCond .lt 18, 3) := by decide +kernel
theorem dX4_unit_4 : decode cX4_unit 4 = .ok (.iload_n 0, 1) := by decide +kernel
theorem dX4_unit_5 : decode cX4_unit 5 = .ok (.bipush 8, 2) := by decide +kernel
theorem dX4_unit_7 : decode cX4_unit 7 = .ok (.if_icmp .ge 12, 3) := by decide +kernel
theorem dX4_unit_10 : decode cX4_unit 10 = .ok (.lconst 1, 1) := by decide +kernel
theorem dX4_unit_11 : decode cX4_unit 11 = .ok (.bipush 8, 2) := by decide +kernel
theorem dX4_unit_13 : decode cX4_unit 13 = .ok (.iload_n 0, 1) := by decide +kernel
theorem dX4_unit_14 : decode cX4_unit 14 = .ok (.imul, 1) := by decide +kernel
theorem dX4_unit_15 : decode cX4_unit 15 = .ok (.lshl, 1) := by decide +kernel
theorem dX4_unit_16 : decode cX4_unit 16 = .ok (.goto 4, 3) := by decide +kernel
theorem dX4_unit_19 : decode cX4_unit 19 = .ok (.lconst 0, 1) := by decide +kernel
theorem dX4_unit_20 : decode cX4_unit 20 = .ok (.lreturn, 1) := by decide +kernel
theorem dX5_begin_0 : decode cX5_begin 0 = .ok (.aload_n 0, 1) := by decide +kernel
theorem dX5_begin_1 : decode cX5_begin 1 = .ok (.getfield 13, 3) := by decide +kernel
theorem dX5_begin_4 : decode cX5_begin 4 = .ok (.iconst 3, 1) := by decide +kernel
theorem dX5_begin_5 : decode cX5_begin 5 = .ok (.iload_n 1, 1) := by decide +kernel
theorem dX5_begin_6 : decode cX5_begin 6 = .ok (.imul, 1) := by decide +kernel
theorem dX5_begin_7 : decode cX5_begin 7 = .ok (.iaload, 1) := by decide +kernel
theorem dX5_begin_8 : decode cX5_begin 8 = .ok (.ireturn, 1) := by decide +kernel
theorem dX5_close_0 : decode cX5_close 0 = .ok (.aload_n 0, 1) := by decide +kernel
theorem dX5_close_1 : decode cX5_close 1 = .ok (.getfield 13, 3) := by decide +kernel
theorem dX5_close_4 : decode cX5_close 4 = .ok (.iconst 3, 1) := by decide +kernel
theorem dX5_close_5 : decode cX5_close 5 = .ok (.iload_n 1, 1) := by decide +kernel
theorem dX5_close_6 : decode cX5_close 6 = .ok (.imul, 1) := by decide +kernel
theorem dX5_close_7 : decode cX5_close 7 = .ok (.iconst 2, 1) := by decide +kernel
theorem dX5_close_8 : decode cX5_close 8 = .ok (.iadd, 1) := by decide +kernel
theorem dX5_close_9 : decode cX5_close 9 = .ok (.iaload, 1) := by decide +kernel
theorem dX5_close_10 : decode cX5_close 10 = .ok (.ireturn, 1) := by decide +kernel
theorem dX5_hasTest_0 : decode cX5_hasTest 0 = .ok (.aload_n 0, 1) := by decide +kernel
theorem dX5_hasTest_1 : decode cX5_hasTest 1 = .ok (.iload_n 1, 1) := by decide +kernel
theorem dX5_hasTest_2 : decode cX5_hasTest 2 = .ok (.invokevirtual 26, 3) := by decide +kernel
theorem dX5_hasTest_5 : decode cX5_hasTest 5 = .ok (.aload_n 0, 1) := by decide +kernel
theorem dX5_hasTest_6 : decode cX5_hasTest 6 = .ok (.iload_n 1, 1) := by decide +kernel
theorem dX5_hasTest_7 : decode cX5_hasTest 7 = .ok (.invokevirtual 30, 3) := by decide +kernel
theorem dX5_hasTest_10 : decode cX5_hasTest 10 = .ok (.if_icmp .ge 7, 3) := by decide +kernel
theorem dX5_hasTest_13 : decode cX5_hasTest 13 = .ok (.iconst 1, 1) := by decide +kernel
theorem dX5_hasTest_14 : decode cX5_hasTest 14 = .ok (.goto 4, 3) := by decide +kernel
theorem dX5_hasTest_17 : decode cX5_hasTest 17 = .ok (.iconst 0, 1) := by decide +kernel
theorem dX5_hasTest_18 : decode cX5_hasTest 18 = .ok (.ireturn, 1) := by decide +kernel
theorem dX5_init_0 : decode cX5_init 0 = .ok (.aload_n 0, 1) := by decide +kernel
theorem dX5_init_1 : decode cX5_init 1 = .ok (.invokespecial 1, 3) := by decide +kernel
theorem dX5_init_4 : decode cX5_init 4 = .ok (.aload_n 0, 1) := by decide +kernel
theorem dX5_init_5 : decode cX5_init 5 = .ok (.aload_n 1, 1) := by decide +kernel
theorem dX5_init_6 : decode cX5_init 6 = .ok (.putfield 7, 3) := by decide +kernel
theorem dX5_init_9 : decode cX5_init 9 = .ok (.aload_n 0, 1) := by decide +kernel
theorem dX5_init_10 : decode cX5_init 10 = .ok (.aload_n 2, 1) := by decide +kernel
theorem dX5_init_11 : decode cX5_init 11 = .ok (.putfield 13, 3) := by decide +kernel
theorem dX5_init_14 : decode cX5_init 14 = .ok (.aload_n 0, 1) := by decide +kernel
theorem dX5_init_15 : decode cX5_init 15 = .ok (.iload_n 3, 1) := by decide +kernel
theorem dX5_init_16 : decode cX5_init 16 = .ok (.putfield 16, 3) := by decide +kernel
theorem dX5_init_19 : decode cX5_init 19 = .ok (.aload_n 0, 1) := by decide +kernel
theorem dX5_init_20 : decode cX5_init 20 = .ok (.iload 4, 2) := by decide +kernel
theorem dX5_init_22 : decode cX5_init 22 = .ok (.putfield 20, 3) := by decide +kernel
theorem dX5_init_25 : decode cX5_init 25 = .ok (.iconst 0, 1) := by decide +kernel
theorem dX5_init_26 : decode cX5_init 26 = .ok (.istore 5, 2) := by decide +kernel
theorem dX5_init_28 : decode cX5_init 28 = .ok (.iconst 0, 1) := by decide +kernel
theorem dX5_init_29 : decode cX5_init 29 = .ok (.istore 6, 2) := by decide +kernel
theorem dX5_init_31 : decode cX5_init 31 = .ok (.iload 6, 2) := by decide +kernel
theorem dX5_init_33 : decode cX5_init 33 = .ok (.aload_n 1, 1) := by decide +kernel
theorem dX5_init_34 : decode cX5_init 34 = .ok (.arraylength, 1) := by decide +kernel
theorem dX5_init_35 : decode cX5_init 35 = .ok (.if_icmp .ge 54, 3) := by decide +kernel
theorem dX5_init_38 : decode cX5_init 38 = .ok (.aload_n 1, 1) := by decide +kernel
theorem dX5_init_39 : decode cX5_init 39 = .ok (.iload 6, 2) := by decide +kernel
theorem dX5_init_41 : decode cX5_init 41 = .ok (.iaload, 1) := by decide +kernel
theorem dX5_init_42 : decode cX5_init 42 = .ok (.ifCond .ge 16, 3) := by decide +kernel
theorem dX5_init_45 : decode cX5_init 45 = .ok (.aload_n 1, 1) := by decide +kernel
theorem dX5_init_46 : decode cX5_init 46 = .ok (.iload 6, 2) := by decide +kernel
theorem dX5_init_48 : decode cX5_init 48 = .ok (.iaload, 1) := by decide +kernel
theorem dX5_init_49 : decode cX5_init 49 = .ok (.bipush (-21), 2) := by decide +kernel
theorem dX5_init_51 : decode cX5_init 51 = .ok (.if_icmp .le 7, 3) := by decide +kernel
theorem dX5_init_54 : decode cX5_init 54 = .ok (.iconst 1, 1) := by decide +kernel
theorem dX5_init_55 : decode cX5_init 55 = .ok (.goto 4, 3) := by decide +kernel
theorem dX5_init_58 : decode cX5_init 58 = .ok (.iconst 0, 1) := by decide +kernel
theorem dX5_init_59 : decode cX5_init 59 = .ok (.istore 7, 2) := by decide +kernel
theorem dX5_init_61 : decode cX5_init 61 = .ok (.iload 5, 2) := by decide +kernel
theorem dX5_init_63 : decode cX5_init 63 = .ok (.iload 7, 2) := by decide +kernel
theorem dX5_init_65 : decode cX5_init 65 = .ok (.ifCond .eq 14, 3) := by decide +kernel
theorem dX5_init_68 : decode cX5_init 68 = .ok (.iconst 1, 1) := by decide +kernel
theorem dX5_init_69 : decode cX5_init 69 = .ok (.iconst (-1), 1) := by decide +kernel
theorem dX5_init_70 : decode cX5_init 70 = .ok (.aload_n 1, 1) := by decide +kernel
theorem dX5_init_71 : decode cX5_init 71 = .ok (.iload 6, 2) := by decide +kernel
theorem dX5_init_73 : decode cX5_init 73 = .ok (.iaload, 1) := by decide +kernel
theorem dX5_init_74 : decode cX5_init 74 = .ok (.isub, 1) := by decide +kernel
theorem dX5_init_75 : decode cX5_init 75 = .ok (.ishl, 1) := by decide +kernel
theorem dX5_init_76 : decode cX5_init 76 = .ok (.goto 4, 3) := by decide +kernel
theorem dX5_init_79 : decode cX5_init 79 = .ok (.iconst 0, 1) := by decide +kernel
theorem dX5_init_80 : decode cX5_init 80 = .ok (.ior, 1) := by decide +kernel
theorem dX5_init_81 : decode cX5_init 81 = .ok (.istore 5, 2) := by decide +kernel
theorem dX5_init_83 : decode cX5_init 83 = .ok (.iinc 6 1, 3) := by decide +kernel
theorem dX5_init_86 : decode cX5_init 86 = .ok (.goto (-55), 3) := by decide +kernel
theorem dX5_init_89 : decode cX5_init 89 = .ok (.aload_n 0, 1) := by decide +kernel
theorem dX5_init_90 : decode cX5_init 90 = .ok (.iload 5, 2) := by decide +kernel
theorem dX5_init_92 : decode cX5_init 92 = .ok (.putfield 23, 3) := by decide +kernel
theorem dX5_init_95 : decode cX5_init 95 = .ok (.return_, 1) := by decide +kernel
theorem dX5_isWait_0 : decode cX5_isWait 0 = .ok (.aload_n 0, 1) := by decide +kernel
theorem dX5_isWait_1 : decode cX5_isWait 1 = .ok (.getfield 20, 3) := by decide +kernel
theorem dX5_isWait_4 : decode cX5_isWait 4 = .ok (.iload_n 1, 1) := by decide +kernel
theorem dX5_isWait_5 : decode cX5_isWait 5 = .ok (.ishr, 1) := by decide +kernel
theorem dX5_isWait_6 : decode cX5_isWait 6 = .ok (.iconst 1, 1) := by decide +kernel
theorem dX5_isWait_7 : decode cX5_isWait 7 = .ok (.iand, 1) := by decide +kernel
theorem dX5_isWait_8 : decode cX5_isWait 8 = .ok (.ifCond .eq 7, 3) := by decide +kernel
theorem dX5_isWait_11 : decode cX5_isWait 11 = .ok (.iconst 1, 1) := by decide +kernel
theorem dX5_isWait_12 : decode cX5_isWait 12 = .ok (.goto 4, 3) := by decide +kernel
theorem dX5_isWait_15 : decode cX5_isWait 15 = .ok (.iconst 0, 1) := by decide +kernel
theorem dX5_isWait_16 : decode cX5_isWait 16 = .ok (.ireturn, 1) := by decide +kernel
theorem dX5_split_0 : decode cX5_split 0 = .ok (.aload_n 0, 1) := by decide +kernel
theorem dX5_split_1 : decode cX5_split 1 = .ok (.getfield 13, 3) := by decide +kernel
theorem dX5_split_4 : decode cX5_split 4 = .ok (.iconst 3, 1) := by decide +kernel
theorem dX5_split_5 : decode cX5_split 5 = .ok (.iload_n 1, 1) := by decide +kernel
theorem dX5_split_6 : decode cX5_split 6 = .ok (.imul, 1) := by decide +kernel
theorem dX5_split_7 : decode cX5_split 7 = .ok (.iconst 1, 1) := by decide +kernel
theorem dX5_split_8 : decode cX5_split 8 = .ok (.iadd, 1) := by decide +kernel
theorem dX5_split_9 : decode cX5_split 9 = .ok (.iaload, 1) := by decide +kernel
theorem dX5_split_10 : decode cX5_split 10 = .ok (.ireturn, 1) := by decide +kernel
theorem dX5_uses_0 : decode cX5_uses 0 = .ok (.aload_n 0, 1) := by decide +kernel
theorem dX5_uses_1 : decode cX5_uses 1 = .ok (.getfield 23, 3) := by decide +kernel
theorem dX5_uses_4 : decode cX5_uses 4 = .ok (.iload_n 1, 1) := by decide +kernel
theorem dX5_uses_5 : decode cX5_uses 5 = .ok (.ishr, 1) := by decide +kernel
theorem dX5_uses_6 : decode cX5_uses 6 = .ok (.iconst 1, 1) := by decide +kernel
theorem dX5_uses_7 : decode cX5_uses 7 = .ok (.iand, 1) := by decide +kernel
theorem dX5_uses_8 : decode cX5_uses 8 = .ok (.ifCond .eq 7, 3) := by decide +kernel
theorem dX5_uses_11 : decode cX5_uses 11 = .ok (.iconst 1, 1) := by decide +kernel
theorem dX5_uses_12 : decode cX5_uses 12 = .ok (.goto 4, 3) := by decide +kernel
theorem dX5_uses_15 : decode cX5_uses 15 = .ok (.iconst 0, 1) := by decide +kernel
theorem dX5_uses_16 : decode cX5_uses 16 = .ok (.ireturn, 1) := by decide +kernel
theorem dX6_emit_0 : decode cX6_emit 0 = .ok (.aload_n 0, 1) := by decide +kernel
theorem dX6_emit_1 : decode cX6_emit 1 = .ok (.getfield 20, 3) := by decide +kernel
theorem dX6_emit_4 : decode cX6_emit 4 = .ok (.aload_n 0, 1) := by decide +kernel
theorem dX6_emit_5 : decode cX6_emit 5 = .ok (.getfield 9, 3) := by decide +kernel
theorem dX6_emit_8 : decode cX6_emit 8 = .ok (.arraylength, 1) := by decide +kernel
theorem dX6_emit_9 : decode cX6_emit 9 = .ok (.if_icmp .ge 23, 3) := by decide +kernel
theorem dX6_emit_12 : decode cX6_emit 12 = .ok (.aload_n 0, 1) := by decide +kernel
theorem dX6_emit_13 : decode cX6_emit 13 = .ok (.getfield 9, 3) := by decide +kernel
theorem dX6_emit_16 : decode cX6_emit 16 = .ok (.aload_n 0, 1) := by decide +kernel
theorem dX6_emit_17 : decode cX6_emit 17 = .ok (.getfield 20, 3) := by decide +kernel
theorem dX6_emit_20 : decode cX6_emit 20 = .ok (.iload_n 1, 1) := by decide +kernel
theorem dX6_emit_21 : decode cX6_emit 21 = .ok (.iastore, 1) := by decide +kernel
theorem dX6_emit_22 : decode cX6_emit 22 = .ok (.aload_n 0, 1) := by decide +kernel
theorem dX6_emit_23 : decode cX6_emit 23 = .ok (.dup, 1) := by decide +kernel
theorem dX6_emit_24 : decode cX6_emit 24 = .ok (.getfield 20, 3) := by decide +kernel
theorem dX6_emit_27 : decode cX6_emit 27 = .ok (.iconst 1, 1) := by decide +kernel
theorem dX6_emit_28 : decode cX6_emit 28 = .ok (.iadd, 1) := by decide +kernel
theorem dX6_emit_29 : decode cX6_emit 29 = .ok (.putfield 20, 3) := by decide +kernel
theorem dX6_emit_32 : decode cX6_emit 32 = .ok (.return_, 1) := by decide +kernel
theorem dX6_init_0 : decode cX6_init 0 = .ok (.aload_n 0, 1) := by decide +kernel
theorem dX6_init_1 : decode cX6_init 1 = .ok (.invokespecial 3, 3) := by decide +kernel
theorem dX6_init_4 : decode cX6_init 4 = .ok (.aload_n 0, 1) := by decide +kernel
theorem dX6_init_5 : decode cX6_init 5 = .ok (.sipush 400, 3) := by decide +kernel
theorem dX6_init_8 : decode cX6_init 8 = .ok (.newarray .int, 2) := by decide +kernel
theorem dX6_init_10 : decode cX6_init 10 = .ok (.putfield 9, 3) := by decide +kernel
theorem dX6_init_13 : decode cX6_init 13 = .ok (.aload_n 0, 1) := by decide +kernel
theorem dX6_init_14 : decode cX6_init 14 = .ok (.bipush 36, 2) := by decide +kernel
theorem dX6_init_16 : decode cX6_init 16 = .ok (.newarray .int, 2) := by decide +kernel
theorem dX6_init_18 : decode cX6_init 18 = .ok (.putfield 17, 3) := by decide +kernel
theorem dX6_init_21 : decode cX6_init 21 = .ok (.aload_n 0, 1) := by decide +kernel
theorem dX6_init_22 : decode cX6_init 22 = .ok (.iconst 0, 1) := by decide +kernel
theorem dX6_init_23 : decode cX6_init 23 = .ok (.putfield 20, 3) := by decide +kernel
theorem dX6_init_26 : decode cX6_init 26 = .ok (.aload_n 0, 1) := by decide +kernel
theorem dX6_init_27 : decode cX6_init 27 = .ok (.iconst 0, 1) := by decide +kernel
theorem dX6_init_28 : decode cX6_init 28 = .ok (.putfield 24, 3) := by decide +kernel
theorem dX6_init_31 : decode cX6_init 31 = .ok (.aload_n 0, 1) := by decide +kernel
theorem dX6_init_32 : decode cX6_init 32 = .ok (.aload_n 1, 1) := by decide +kernel
theorem dX6_init_33 : decode cX6_init 33 = .ok (.putfield 27, 3) := by decide +kernel
theorem dX6_init_36 : decode cX6_init 36 = .ok (.return_, 1) := by decide +kernel
theorem dX6_made_0 : decode cX6_made 0 = .ok (.aload_n 0, 1) := by decide +kernel
theorem dX6_made_1 : decode cX6_made 1 = .ok (.getfield 20, 3) := by decide +kernel
theorem dX6_made_4 : decode cX6_made 4 = .ok (.newarray .int, 2) := by decide +kernel
theorem dX6_made_6 : decode cX6_made 6 = .ok (.astore_n 3, 1) := by decide +kernel
theorem dX6_made_7 : decode cX6_made 7 = .ok (.aload_n 0, 1) := by decide +kernel
theorem dX6_made_8 : decode cX6_made 8 = .ok (.getfield 9, 3) := by decide +kernel
theorem dX6_made_11 : decode cX6_made 11 = .ok (.iconst 0, 1) := by decide +kernel
theorem dX6_made_12 : decode cX6_made 12 = .ok (.aload_n 3, 1) := by decide +kernel
theorem dX6_made_13 : decode cX6_made 13 = .ok (.iconst 0, 1) := by decide +kernel
theorem dX6_made_14 : decode cX6_made 14 = .ok (.aload_n 0, 1) := by decide +kernel
theorem dX6_made_15 : decode cX6_made 15 = .ok (.getfield 20, 3) := by decide +kernel
theorem dX6_made_18 : decode cX6_made 18 = .ok (.invokestatic 65, 3) := by decide +kernel
theorem dX6_made_21 : decode cX6_made 21 = .ok (.iconst 3, 1) := by decide +kernel
theorem dX6_made_22 : decode cX6_made 22 = .ok (.iload_n 1, 1) := by decide +kernel
theorem dX6_made_23 : decode cX6_made 23 = .ok (.imul, 1) := by decide +kernel
theorem dX6_made_24 : decode cX6_made 24 = .ok (.newarray .int, 2) := by decide +kernel
theorem dX6_made_26 : decode cX6_made 26 = .ok (.astore 4, 2) := by decide +kernel
theorem dX6_made_28 : decode cX6_made 28 = .ok (.aload_n 0, 1) := by decide +kernel
theorem dX6_made_29 : decode cX6_made 29 = .ok (.getfield 17, 3) := by decide +kernel
theorem dX6_made_32 : decode cX6_made 32 = .ok (.iconst 0, 1) := by decide +kernel
theorem dX6_made_33 : decode cX6_made 33 = .ok (.aload 4, 2) := by decide +kernel
theorem dX6_made_35 : decode cX6_made 35 = .ok (.iconst 0, 1) := by decide +kernel
theorem dX6_made_36 : decode cX6_made 36 = .ok (.iconst 3, 1) := by decide +kernel
theorem dX6_made_37 : decode cX6_made 37 = .ok (.iload_n 1, 1) := by decide +kernel
theorem dX6_made_38 : decode cX6_made 38 = .ok (.imul, 1) := by decide +kernel
theorem dX6_made_39 : decode cX6_made 39 = .ok (.invokestatic 65, 3) := by decide +kernel
theorem dX6_made_42 : decode cX6_made 42 = .ok (.new 15, 3) := by decide +kernel
theorem dX6_made_45 : decode cX6_made 45 = .ok (.dup, 1) := by decide +kernel
theorem dX6_made_46 : decode cX6_made 46 = .ok (.aload_n 3, 1) := by decide +kernel
theorem dX6_made_47 : decode cX6_made 47 = .ok (.aload 4, 2) := by decide +kernel
theorem dX6_made_49 : decode cX6_made 49 = .ok (.iload_n 1, 1) := by decide +kernel
theorem dX6_made_50 : decode cX6_made 50 = .ok (.iload_n 2, 1) := by decide +kernel
theorem dX6_made_51 : decode cX6_made 51 = .ok (.invokespecial 71, 3) := by decide +kernel
theorem dX6_made_54 : decode cX6_made 54 = .ok (.areturn, 1) := by decide +kernel
theorem dX6_read_0 : decode cX6_read 0 = .ok (.aload_n 0, 1) := by decide +kernel
theorem dX6_read_1 : decode cX6_read 1 = .ok (.getfield 27, 3) := by decide +kernel
theorem dX6_read_4 : decode cX6_read 4 = .ok (.invokevirtual 31, 3) := by decide +kernel
theorem dX6_read_7 : decode cX6_read 7 = .ok (.aload_n 0, 1) := by decide +kernel
theorem dX6_read_8 : decode cX6_read 8 = .ok (.iconst 0, 1) := by decide +kernel
theorem dX6_read_9 : decode cX6_read 9 = .ok (.putfield 20, 3) := by decide +kernel
theorem dX6_read_12 : decode cX6_read 12 = .ok (.aload_n 0, 1) := by decide +kernel
theorem dX6_read_13 : decode cX6_read 13 = .ok (.iconst 0, 1) := by decide +kernel
theorem dX6_read_14 : decode cX6_read 14 = .ok (.putfield 24, 3) := by decide +kernel
theorem dX6_read_17 : decode cX6_read 17 = .ok (.iconst 0, 1) := by decide +kernel
theorem dX6_read_18 : decode cX6_read 18 = .ok (.istore_n 1, 1) := by decide +kernel
theorem dX6_read_19 : decode cX6_read 19 = .ok (.iconst 0, 1) := by decide +kernel
theorem dX6_read_20 : decode cX6_read 20 = .ok (.istore_n 2, 1) := by decide +kernel
theorem dX6_read_21 : decode cX6_read 21 = .ok (.iload_n 2, 1) := by decide +kernel
theorem dX6_read_22 : decode cX6_read 22 = .ok (.bipush 12, 2) := by decide +kernel
theorem dX6_read_24 : decode cX6_read 24 = .ok (.if_icmp .gt 269, 3) := by decide +kernel
theorem dX6_read_27 : decode cX6_read 27 = .ok (.aload_n 0, 1) := by decide +kernel
theorem dX6_read_28 : decode cX6_read 28 = .ok (.getfield 27, 3) := by decide +kernel
theorem dX6_read_31 : decode cX6_read 31 = .ok (.invokevirtual 36, 3) := by decide +kernel
theorem dX6_read_34 : decode cX6_read 34 = .ok (.istore_n 3, 1) := by decide +kernel
theorem dX6_read_35 : decode cX6_read 35 = .ok (.iload_n 3, 1) := by decide +kernel
theorem dX6_read_36 : decode cX6_read 36 = .ok (.bipush 12, 2) := by decide +kernel
theorem dX6_read_38 : decode cX6_read 38 = .ok (.if_icmp .eq 9, 3) := by decide +kernel
theorem dX6_read_41 : decode cX6_read 41 = .ok (.iload_n 3, 1) := by decide +kernel
theorem dX6_read_42 : decode cX6_read 42 = .ok (.bipush 13, 2) := by decide +kernel
theorem dX6_read_44 : decode cX6_read 44 = .ok (.if_icmp .ne 7, 3) := by decide +kernel
theorem dX6_read_47 : decode cX6_read 47 = .ok (.iconst 1, 1) := by decide +kernel
theorem dX6_read_48 : decode cX6_read 48 = .ok (.goto 4, 3) := by decide +kernel
theorem dX6_read_51 : decode cX6_read 51 = .ok (.iconst 0, 1) := by decide +kernel
theorem dX6_read_52 : decode cX6_read 52 = .ok (.istore 4, 2) := by decide +kernel
theorem dX6_read_54 : decode cX6_read 54 = .ok (.iload 4, 2) := by decide +kernel
theorem dX6_read_56 : decode cX6_read 56 = .ok (.ifCond .eq 9, 3) := by decide +kernel
theorem dX6_read_59 : decode cX6_read 59 = .ok (.iload_n 2, 1) := by decide +kernel
theorem dX6_read_60 : decode cX6_read 60 = .ok (.bipush 12, 2) := by decide +kernel
theorem dX6_read_62 : decode cX6_read 62 = .ok (.if_icmp .lt 30, 3) := by decide +kernel
theorem dX6_read_65 : decode cX6_read 65 = .ok (.aload_n 0, 1) := by decide +kernel
theorem dX6_read_66 : decode cX6_read 66 = .ok (.getfield 27, 3) := by decide +kernel
theorem dX6_read_69 : decode cX6_read 69 = .ok (.aload_n 0, 1) := by decide +kernel
theorem dX6_read_70 : decode cX6_read 70 = .ok (.getfield 27, 3) := by decide +kernel
theorem dX6_read_73 : decode cX6_read 73 = .ok (.getfield 40, 3) := by decide +kernel
theorem dX6_read_76 : decode cX6_read 76 = .ok (.iload 4, 2) := by decide +kernel
theorem dX6_read_78 : decode cX6_read 78 = .ok (.ifCond .eq 7, 3) := by decide +kernel
theorem dX6_read_81 : decode cX6_read 81 = .ok (.iconst 4, 1) := by decide +kernel
theorem dX6_read_82 : decode cX6_read 82 = .ok (.goto 4, 3) := by decide +kernel
theorem dX6_read_85 : decode cX6_read 85 = .ok (.iconst 0, 1) := by decide +kernel
theorem dX6_read_86 : decode cX6_read 86 = .ok (.invokevirtual 43, 3) := by decide +kernel
theorem dX6_read_89 : decode cX6_read 89 = .ok (.pop, 1) := by decide +kernel
theorem dX6_read_90 : decode cX6_read 90 = .ok (.aconst_null, 1) := by decide +kernel
theorem dX6_read_91 : decode cX6_read 91 = .ok (.areturn, 1) := by decide +kernel
theorem dX6_read_92 : decode cX6_read 92 = .ok (.aload_n 0, 1) := by decide +kernel
theorem dX6_read_93 : decode cX6_read 93 = .ok (.getfield 27, 3) := by decide +kernel
theorem dX6_read_96 : decode cX6_read 96 = .ok (.invokevirtual 47, 3) := by decide +kernel
theorem dX6_read_99 : decode cX6_read 99 = .ok (.aload_n 0, 1) := by decide +kernel
theorem dX6_read_100 : decode cX6_read 100 = .ok (.getfield 17, 3) := by decide +kernel
theorem dX6_read_103 : decode cX6_read 103 = .ok (.iconst 3, 1) := by decide +kernel
theorem dX6_read_104 : decode cX6_read 104 = .ok (.iload_n 2, 1) := by decide +kernel
theorem dX6_read_105 : decode cX6_read 105 = .ok (.imul, 1) := by decide +kernel
