theorem dX4_copyFrom_0 : decode cX4_copyFrom 0 = .ok (.aload_n 0, 1) := by decide +kernel
theorem dX4_copyFrom_1 : decode cX4_copyFrom 1 = .ok (.aload_n 1, 1) := by decide +kernel
theorem dX4_copyFrom_2 : decode cX4_copyFrom 2 = .ok (.getfield 9, 3) := by decide +kernel
theorem dX4_copyFrom_5 : decode cX4_copyFrom 5 = .ok (.putfield 9, 3) := by decide +kernel
theorem dX4_copyFrom_8 : decode cX4_copyFrom 8 = .ok (.aload_n 0, 1) := by decide +kernel
theorem dX4_copyFrom_9 : decode cX4_copyFrom 9 = .ok (.aload_n 1, 1) := by decide +kernel
theorem dX4_copyFrom_10 : decode cX4_copyFrom 10 = .ok (.getfield 15, 3) := by decide +kernel
theorem dX4_copyFrom_13 : decode cX4_copyFrom 13 = .ok (.putfield 15, 3) := by decide +kernel
theorem dX4_copyFrom_16 : decode cX4_copyFrom 16 = .ok (.aload_n 1, 1) := by decide +kernel
theorem dX4_copyFrom_17 : decode cX4_copyFrom 17 = .ok (.getfield 18, 3) := by decide +kernel
theorem dX4_copyFrom_20 : decode cX4_copyFrom 20 = .ok (.iconst 0, 1) := by decide +kernel
theorem dX4_copyFrom_21 : decode cX4_copyFrom 21 = .ok (.aload_n 0, 1) := by decide +kernel
theorem dX4_copyFrom_22 : decode cX4_copyFrom 22 = .ok (.getfield 18, 3) := by decide +kernel
theorem dX4_copyFrom_25 : decode cX4_copyFrom 25 = .ok (.iconst 0, 1) := by decide +kernel
theorem dX4_copyFrom_26 : decode cX4_copyFrom 26 = .ok (.aload_n 0, 1) := by decide +kernel
theorem dX4_copyFrom_27 : decode cX4_copyFrom 27 = .ok (.getfield 9, 3) := by decide +kernel
theorem dX4_copyFrom_30 : decode cX4_copyFrom 30 = .ok (.invokestatic 44, 3) := by decide +kernel
theorem dX4_copyFrom_33 : decode cX4_copyFrom 33 = .ok (.aload_n 1, 1) := by decide +kernel
theorem dX4_copyFrom_34 : decode cX4_copyFrom 34 = .ok (.getfield 22, 3) := by decide +kernel
theorem dX4_copyFrom_37 : decode cX4_copyFrom 37 = .ok (.iconst 0, 1) := by decide +kernel
theorem dX4_copyFrom_38 : decode cX4_copyFrom 38 = .ok (.aload_n 0, 1) := by decide +kernel
theorem dX4_copyFrom_39 : decode cX4_copyFrom 39 = .ok (.getfield 22, 3) := by decide +kernel
theorem dX4_copyFrom_42 : decode cX4_copyFrom 42 = .ok (.iconst 0, 1) := by decide +kernel
theorem dX4_copyFrom_43 : decode cX4_copyFrom 43 = .ok (.aload_n 0, 1) := by decide +kernel
theorem dX4_copyFrom_44 : decode cX4_copyFrom 44 = .ok (.getfield 9, 3) := by decide +kernel
theorem dX4_copyFrom_47 : decode cX4_copyFrom 47 = .ok (.invokestatic 44, 3) := by decide +kernel
theorem dX4_copyFrom_50 : decode cX4_copyFrom 50 = .ok (.aload_n 1, 1) := by decide +kernel
theorem dX4_copyFrom_51 : decode cX4_copyFrom 51 = .ok (.getfield 25, 3) := by decide +kernel
theorem dX4_copyFrom_54 : decode cX4_copyFrom 54 = .ok (.iconst 0, 1) := by decide +kernel
theorem dX4_copyFrom_55 : decode cX4_copyFrom 55 = .ok (.aload_n 0, 1) := by decide +kernel
theorem dX4_copyFrom_56 : decode cX4_copyFrom 56 = .ok (.getfield 25, 3) := by decide +kernel
theorem dX4_copyFrom_59 : decode cX4_copyFrom 59 = .ok (.iconst 0, 1) := by decide +kernel
theorem dX4_copyFrom_60 : decode cX4_copyFrom 60 = .ok (.aload_n 0, 1) := by decide +kernel
theorem dX4_copyFrom_61 : decode cX4_copyFrom 61 = .ok (.getfield 9, 3) := by decide +kernel
theorem dX4_copyFrom_64 : decode cX4_copyFrom 64 = .ok (.invokestatic 44, 3) := by decide +kernel
theorem dX4_copyFrom_67 : decode cX4_copyFrom 67 = .ok (.aload_n 1, 1) := by decide +kernel
theorem dX4_copyFrom_68 : decode cX4_copyFrom 68 = .ok (.getfield 28, 3) := by decide +kernel
theorem dX4_copyFrom_71 : decode cX4_copyFrom 71 = .ok (.iconst 0, 1) := by decide +kernel
theorem dX4_copyFrom_72 : decode cX4_copyFrom 72 = .ok (.aload_n 0, 1) := by decide +kernel
theorem dX4_copyFrom_73 : decode cX4_copyFrom 73 = .ok (.getfield 28, 3) := by decide +kernel
theorem dX4_copyFrom_76 : decode cX4_copyFrom 76 = .ok (.iconst 0, 1) := by decide +kernel
theorem dX4_copyFrom_77 : decode cX4_copyFrom 77 = .ok (.aload_n 0, 1) := by decide +kernel
theorem dX4_copyFrom_78 : decode cX4_copyFrom 78 = .ok (.getfield 9, 3) := by decide +kernel
theorem dX4_copyFrom_81 : decode cX4_copyFrom 81 = .ok (.invokestatic 44, 3) := by decide +kernel
theorem dX4_copyFrom_84 : decode cX4_copyFrom 84 = .ok (.aload_n 1, 1) := by decide +kernel
theorem dX4_copyFrom_85 : decode cX4_copyFrom 85 = .ok (.getfield 31, 3) := by decide +kernel
theorem dX4_copyFrom_88 : decode cX4_copyFrom 88 = .ok (.iconst 0, 1) := by decide +kernel
theorem dX4_copyFrom_89 : decode cX4_copyFrom 89 = .ok (.aload_n 0, 1) := by decide +kernel
theorem dX4_copyFrom_90 : decode cX4_copyFrom 90 = .ok (.getfield 31, 3) := by decide +kernel
theorem dX4_copyFrom_93 : decode cX4_copyFrom 93 = .ok (.iconst 0, 1) := by decide +kernel
theorem dX4_copyFrom_94 : decode cX4_copyFrom 94 = .ok (.aload_n 0, 1) := by decide +kernel
theorem dX4_copyFrom_95 : decode cX4_copyFrom 95 = .ok (.getfield 9, 3) := by decide +kernel
theorem dX4_copyFrom_98 : decode cX4_copyFrom 98 = .ok (.invokestatic 44, 3) := by decide +kernel
theorem dX4_copyFrom_101 : decode cX4_copyFrom 101 = .ok (.aload_n 1, 1) := by decide +kernel
theorem dX4_copyFrom_102 : decode cX4_copyFrom 102 = .ok (.getfield 34, 3) := by decide +kernel
theorem dX4_copyFrom_105 : decode cX4_copyFrom 105 = .ok (.iconst 0, 1) := by decide +kernel
theorem dX4_copyFrom_106 : decode cX4_copyFrom 106 = .ok (.aload_n 0, 1) := by decide +kernel
theorem dX4_copyFrom_107 : decode cX4_copyFrom 107 = .ok (.getfield 34, 3) := by decide +kernel
theorem dX4_copyFrom_110 : decode cX4_copyFrom 110 = .ok (.iconst 0, 1) := by decide +kernel
theorem dX4_copyFrom_111 : decode cX4_copyFrom 111 = .ok (.bipush 8, 2) := by decide +kernel
theorem dX4_copyFrom_113 : decode cX4_copyFrom 113 = .ok (.invokestatic 44, 3) := by decide +kernel
theorem dX4_copyFrom_116 : decode cX4_copyFrom 116 = .ok (.aload_n 1, 1) := by decide +kernel
theorem dX4_copyFrom_117 : decode cX4_copyFrom 117 = .ok (.getfield 37, 3) := by decide +kernel
theorem dX4_copyFrom_120 : decode cX4_copyFrom 120 = .ok (.iconst 0, 1) := by decide +kernel
theorem dX4_copyFrom_121 : decode cX4_copyFrom 121 = .ok (.aload_n 0, 1) := by decide +kernel
theorem dX4_copyFrom_122 : decode cX4_copyFrom 122 = .ok (.getfield 37, 3) := by decide +kernel
theorem dX4_copyFrom_125 : decode cX4_copyFrom 125 = .ok (.iconst 0, 1) := by decide +kernel
theorem dX4_copyFrom_126 : decode cX4_copyFrom 126 = .ok (.bipush 8, 2) := by decide +kernel
theorem dX4_copyFrom_128 : decode cX4_copyFrom 128 = .ok (.invokestatic 44, 3) := by decide +kernel
theorem dX4_copyFrom_131 : decode cX4_copyFrom 131 = .ok (.return_, 1) := by decide +kernel
theorem dX4_directionsOf_0 : decode cX4_directionsOf 0 = .ok (.iconst 0, 1) := by decide +kernel
theorem dX4_directionsOf_1 : decode cX4_directionsOf 1 = .ok (.istore_n 3, 1) := by decide +kernel
theorem dX4_directionsOf_2 : decode cX4_directionsOf 2 = .ok (.lconst 0, 1) := by decide +kernel
theorem dX4_directionsOf_3 : decode cX4_directionsOf 3 = .ok (.lstore 4, 2) := by decide +kernel
theorem dX4_directionsOf_5 : decode cX4_directionsOf 5 = .ok (.iconst 0, 1) := by decide +kernel
theorem dX4_directionsOf_6 : decode cX4_directionsOf 6 = .ok (.istore 6, 2) := by decide +kernel
theorem dX4_directionsOf_8 : decode cX4_directionsOf 8 = .ok (.iconst 0, 1) := by decide +kernel
theorem dX4_directionsOf_9 : decode cX4_directionsOf 9 = .ok (.istore 7, 2) := by decide +kernel
theorem dX4_directionsOf_11 : decode cX4_directionsOf 11 = .ok (.iload 7, 2) := by decide +kernel
theorem dX4_directionsOf_13 : decode cX4_directionsOf 13 = .ok (.aload_n 0, 1) := by decide +kernel
theorem dX4_directionsOf_14 : decode cX4_directionsOf 14 = .ok (.getfield 9, 3) := by decide +kernel
theorem dX4_directionsOf_17 : decode cX4_directionsOf 17 = .ok (.if_icmp .ge 24, 3) := by decide +kernel
theorem dX4_directionsOf_41 : decode cX4_directionsOf 41 = .ok (.iconst 1, 1) := by decide +kernel
theorem dX4_directionsOf_42 : decode cX4_directionsOf 42 = .ok (.istore 7, 2) := by decide +kernel
theorem dX4_directionsOf_44 : decode cX4_directionsOf 44 = .ok (.iload 7, 2) := by decide +kernel
theorem dX4_directionsOf_46 : decode cX4_directionsOf 46 = .ok (.iconst 1, 1) := by decide +kernel
theorem dX4_directionsOf_47 : decode cX4_directionsOf 47 = .ok (.aload_n 0, 1) := by decide +kernel
theorem dX4_directionsOf_48 : decode cX4_directionsOf 48 = .ok (.getfield 9, 3) := by decide +kernel
theorem dX4_directionsOf_51 : decode cX4_directionsOf 51 = .ok (.ishl, 1) := by decide +kernel
theorem dX4_directionsOf_52 : decode cX4_directionsOf 52 = .ok (.if_icmp .gt 90, 3) := by decide +kernel
theorem dX4_directionsOf_55 : decode cX4_directionsOf 55 = .ok (.lload 4, 2) := by decide +kernel
theorem dX4_directionsOf_57 : decode cX4_directionsOf 57 = .ok (.lload_n 1, 1) := by decide +kernel
theorem dX4_directionsOf_58 : decode cX4_directionsOf 58 = .ok (.lcmp, 1) := by decide +kernel
theorem dX4_directionsOf_59 : decode cX4_directionsOf 59 = .ok (.ifCond .ne 6, 3) := by decide +kernel
theorem dX4_directionsOf_62 : decode cX4_directionsOf 62 = .ok (.iinc 3 1, 3) := by decide +kernel
theorem dX4_directionsOf_65 : decode cX4_directionsOf 65 = .ok (.iload 7, 2) := by decide +kernel
theorem dX4_directionsOf_67 : decode cX4_directionsOf 67 = .ok (.invokestatic 64, 3) := by decide +kernel
theorem dX4_directionsOf_70 : decode cX4_directionsOf 70 = .ok (.istore 8, 2) := by decide +kernel
theorem dX4_directionsOf_72 : decode cX4_directionsOf 72 = .ok (.iload 8, 2) := by decide +kernel
theorem dX4_directionsOf_74 : decode cX4_directionsOf 74 = .ok (.aload_n 0, 1) := by decide +kernel
theorem dX4_directionsOf_75 : decode cX4_directionsOf 75 = .ok (.getfield 9, 3) := by decide +kernel
theorem dX4_directionsOf_78 : decode cX4_directionsOf 78 = .ok (.if_icmp .ge 58, 3) := by decide +kernel
theorem dX4_directionsOf_136 : decode cX4_directionsOf 136 = .ok (.iinc 7 1, 3) := by decide +kernel
theorem dX4_directionsOf_139 : decode cX4_directionsOf 139 = .ok (.goto (-95), 3) := by decide +kernel
theorem dX4_directionsOf_142 : decode cX4_directionsOf 142 = .ok (.iload_n 3, 1) := by decide +kernel
theorem dX4_directionsOf_143 : decode cX4_directionsOf 143 = .ok (.ireturn, 1) := by decide +kernel
theorem dX4_distance_0 : decode cX4_distance 0 = .ok (.iconst 1, 1) := by decide +kernel
theorem dX4_distance_1 : decode cX4_distance 1 = .ok (.iload_n 1, 1) := by decide +kernel
theorem dX4_distance_2 : decode cX4_distance 2 = .ok (.ishl, 1) := by decide +kernel
theorem dX4_distance_3 : decode cX4_distance 3 = .ok (.istore_n 3, 1) := by decide +kernel
theorem dX4_distance_4 : decode cX4_distance 4 = .ok (.iconst 0, 1) := by decide +kernel
theorem dX4_distance_5 : decode cX4_distance 5 = .ok (.istore 4, 2) := by decide +kernel
theorem dX4_distance_7 : decode cX4_distance 7 = .ok (.iload 4, 2) := by decide +kernel
theorem dX4_distance_9 : decode cX4_distance 9 = .ok (.bipush 8, 2) := by decide +kernel
theorem dX4_distance_11 : decode cX4_distance 11 = .ok (.if_icmp .ge 26, 3) := by decide +kernel
theorem dX4_distance_14 : decode cX4_distance 14 = .ok (.iload_n 3, 1) := by decide +kernel
theorem dX4_distance_15 : decode cX4_distance 15 = .ok (.iload_n 2, 1) := by decide +kernel
theorem dX4_distance_16 : decode cX4_distance 16 = .ok (.ishr, 1) := by decide +kernel
theorem dX4_distance_17 : decode cX4_distance 17 = .ok (.iconst 1, 1) := by decide +kernel
theorem dX4_distance_18 : decode cX4_distance 18 = .ok (.iand, 1) := by decide +kernel
theorem dX4_distance_19 : decode cX4_distance 19 = .ok (.ifCond .eq 6, 3) := by decide +kernel
theorem dX4_distance_22 : decode cX4_distance 22 = .ok (.iload 4, 2) := by decide +kernel
theorem dX4_distance_24 : decode cX4_distance 24 = .ok (.ireturn, 1) := by decide +kernel
theorem dX4_distance_25 : decode cX4_distance 25 = .ok (.aload_n 0, 1) := by decide +kernel
theorem dX4_distance_26 : decode cX4_distance 26 = .ok (.iload_n 3, 1) := by decide +kernel
theorem dX4_distance_27 : decode cX4_distance 27 = .ok (.invokevirtual 57, 3) := by decide +kernel
theorem dX4_distance_30 : decode cX4_distance 30 = .ok (.istore_n 3, 1) := by decide +kernel
theorem dX4_distance_31 : decode cX4_distance 31 = .ok (.iinc 4 1, 3) := by decide +kernel
theorem dX4_distance_34 : decode cX4_distance 34 = .ok (.goto (-27), 3) := by decide +kernel
theorem dX4_distance_37 : decode cX4_distance 37 = .ok (.iconst (-1), 1) := by decide +kernel
theorem dX4_distance_38 : decode cX4_distance 38 = .ok (.ireturn, 1) := by decide +kernel
theorem dX4_has_0 : decode cX4_has 0 = .ok (.iload_n 1, 1) := by decide +kernel
theorem dX4_has_1 : decode cX4_has 1 = .ok (.ifCond .lt 15, 3) := by decide +kernel
theorem dX4_has_4 : decode cX4_has 4 = .ok (.iload_n 1, 1) := by decide +kernel
theorem dX4_has_5 : decode cX4_has 5 = .ok (.aload_n 0, 1) := by decide +kernel
theorem dX4_has_6 : decode cX4_has 6 = .ok (.getfield 9, 3) := by decide +kernel
theorem dX4_has_9 : decode cX4_has 9 = .ok (.if_icmp .ge 7, 3) := by decide +kernel
theorem dX4_has_16 : decode cX4_has 16 = .ok (.iconst 0, 1) := by decide +kernel
theorem dX4_has_17 : decode cX4_has 17 = .ok (.ireturn, 1) := by decide +kernel
theorem dX4_hither_0 : decode cX4_hither 0 = .ok (.aload_n 0, 1) := by decide +kernel
theorem dX4_hither_1 : decode cX4_hither 1 = .ok (.getfield 37, 3) := by decide +kernel
theorem dX4_hither_4 : decode cX4_hither 4 = .ok (.iload_n 1, 1) := by decide +kernel
theorem dX4_hither_5 : decode cX4_hither 5 = .ok (.iaload, 1) := by decide +kernel
theorem dX4_hither_6 : decode cX4_hither 6 = .ok (.aload_n 0, 1) := by decide +kernel
theorem dX4_hither_7 : decode cX4_hither 7 = .ok (.getfield 15, 3) := by decide +kernel
theorem dX4_hither_10 : decode cX4_hither 10 = .ok (.iconst (-1), 1) := by decide +kernel
theorem dX4_hither_11 : decode cX4_hither 11 = .ok (.ixor, 1) := by decide +kernel
theorem dX4_hither_12 : decode cX4_hither 12 = .ok (.iand, 1) := by decide +kernel
theorem dX4_hither_13 : decode cX4_hither 13 = .ok (.aload_n 0, 1) := by decide +kernel
theorem dX4_hither_14 : decode cX4_hither 14 = .ok (.getfield 34, 3) := by decide +kernel
theorem dX4_hither_17 : decode cX4_hither 17 = .ok (.iload_n 1, 1) := by decide +kernel
theorem dX4_hither_18 : decode cX4_hither 18 = .ok (.iaload, 1) := by decide +kernel
theorem dX4_hither_19 : decode cX4_hither 19 = .ok (.aload_n 0, 1) := by decide +kernel
theorem dX4_hither_20 : decode cX4_hither 20 = .ok (.getfield 15, 3) := by decide +kernel
theorem dX4_hither_23 : decode cX4_hither 23 = .ok (.iand, 1) := by decide +kernel
theorem dX4_hither_24 : decode cX4_hither 24 = .ok (.ior, 1) := by decide +kernel
theorem dX4_hither_25 : decode cX4_hither 25 = .ok (.ireturn, 1) := by decide +kernel
theorem dX4_init_0 : decode cX4_init 0 = .ok (.aload_n 0, 1) := by decide +kernel
theorem dX4_init_1 : decode cX4_init 1 = .ok (.invokespecial 3, 3) := by decide +kernel
theorem dX4_init_4 : decode cX4_init 4 = .ok (.aload_n 0, 1) := by decide +kernel
theorem dX4_init_5 : decode cX4_init 5 = .ok (.iconst 0, 1) := by decide +kernel
theorem dX4_init_6 : decode cX4_init 6 = .ok (.putfield 9, 3) := by decide +kernel
theorem dX4_init_9 : decode cX4_init 9 = .ok (.aload_n 0, 1) := by decide +kernel
theorem dX4_init_10 : decode cX4_init 10 = .ok (.iconst 0, 1) := by decide +kernel
theorem dX4_init_11 : decode cX4_init 11 = .ok (.putfield 15, 3) := by decide +kernel
theorem dX4_init_14 : decode cX4_init 14 = .ok (.aload_n 0, 1) := by decide +kernel
theorem dX4_init_15 : decode cX4_init 15 = .ok (.bipush 14, 2) := by decide +kernel
theorem dX4_init_17 : decode cX4_init 17 = .ok (.newarray .int, 2) := by decide +kernel
theorem dX4_init_19 : decode cX4_init 19 = .ok (.putfield 18, 3) := by decide +kernel
theorem dX4_init_22 : decode cX4_init 22 = .ok (.aload_n 0, 1) := by decide +kernel
theorem dX4_init_23 : decode cX4_init 23 = .ok (.bipush 14, 2) := by decide +kernel
theorem dX4_init_25 : decode cX4_init 25 = .ok (.newarray .int, 2) := by decide +kernel
theorem dX4_init_27 : decode cX4_init 27 = .ok (.putfield 22, 3) := by decide +kernel
theorem dX4_init_30 : decode cX4_init 30 = .ok (.aload_n 0, 1) := by decide +kernel
theorem dX4_init_31 : decode cX4_init 31 = .ok (.bipush 14, 2) := by decide +kernel
theorem dX4_init_33 : decode cX4_init 33 = .ok (.newarray .int, 2) := by decide +kernel
theorem dX4_init_35 : decode cX4_init 35 = .ok (.putfield 25, 3) := by decide +kernel
theorem dX4_init_38 : decode cX4_init 38 = .ok (.aload_n 0, 1) := by decide +kernel
theorem dX4_init_39 : decode cX4_init 39 = .ok (.bipush 14, 2) := by decide +kernel
theorem dX4_init_41 : decode cX4_init 41 = .ok (.newarray .int, 2) := by decide +kernel
theorem dX4_init_43 : decode cX4_init 43 = .ok (.putfield 28, 3) := by decide +kernel
theorem dX4_init_46 : decode cX4_init 46 = .ok (.aload_n 0, 1) := by decide +kernel
theorem dX4_init_47 : decode cX4_init 47 = .ok (.bipush 14, 2) := by decide +kernel
theorem dX4_init_49 : decode cX4_init 49 = .ok (.newarray .int, 2) := by decide +kernel
theorem dX4_init_51 : decode cX4_init 51 = .ok (.putfield 31, 3) := by decide +kernel
theorem dX4_init_54 : decode cX4_init 54 = .ok (.aload_n 0, 1) := by decide +kernel
theorem dX4_init_55 : decode cX4_init 55 = .ok (.bipush 8, 2) := by decide +kernel
theorem dX4_init_57 : decode cX4_init 57 = .ok (.newarray .int, 2) := by decide +kernel
theorem dX4_init_59 : decode cX4_init 59 = .ok (.putfield 34, 3) := by decide +kernel
theorem dX4_init_62 : decode cX4_init 62 = .ok (.aload_n 0, 1) := by decide +kernel
theorem dX4_init_63 : decode cX4_init 63 = .ok (.bipush 8, 2) := by decide +kernel
theorem dX4_init_65 : decode cX4_init 65 = .ok (.newarray .int, 2) := by decide +kernel
theorem dX4_init_67 : decode cX4_init 67 = .ok (.putfield 37, 3) := by decide +kernel
theorem dX4_init_70 : decode cX4_init 70 = .ok (.return_, 1) := by decide +kernel
theorem dX4_outwards_0 : decode cX4_outwards 0 = .ok (.lconst 0, 1) := by decide +kernel
theorem dX4_outwards_1 : decode cX4_outwards 1 = .ok (.lstore_n 1, 1) := by decide +kernel
theorem dX4_outwards_2 : decode cX4_outwards 2 = .ok (.iconst 0, 1) := by decide +kernel
theorem dX4_outwards_3 : decode cX4_outwards 3 = .ok (.istore_n 3, 1) := by decide +kernel
theorem dX4_outwards_4 : decode cX4_outwards 4 = .ok (.iload_n 3, 1) := by decide +kernel
theorem dX4_outwards_5 : decode cX4_outwards 5 = .ok (.aload_n 0, 1) := by decide +kernel
theorem dX4_outwards_6 : decode cX4_outwards 6 = .ok (.getfield 9, 3) := by decide +kernel
theorem dX4_outwards_9 : decode cX4_outwards 9 = .ok (.if_icmp .ge 20, 3) := by decide +kernel
theorem dX4_outwards_29 : decode cX4_outwards 29 = .ok (.lload_n 1, 1) := by decide +kernel
theorem dX4_outwards_30 : decode cX4_outwards 30 = .ok (.lreturn, 1) := by decide +kernel
theorem dX4_reach_0 : decode cX4_reach 0 = .ok (.iconst 1, 1) := by decide +kernel
theorem dX4_reach_1 : decode cX4_reach 1 = .ok (.iload_n 1, 1) := by decide +kernel
theorem dX4_reach_2 : decode cX4_reach 2 = .ok (.ishl, 1) := by decide +kernel
theorem dX4_reach_3 : decode cX4_reach 3 = .ok (.istore_n 2, 1) := by decide +kernel
theorem dX4_reach_4 : decode cX4_reach 4 = .ok (.iconst 1, 1) := by decide +kernel
theorem dX4_reach_5 : decode cX4_reach 5 = .ok (.istore_n 3, 1) := by decide +kernel
theorem dX4_reach_6 : decode cX4_reach 6 = .ok (.iload_n 3, 1) := by decide +kernel
theorem dX4_reach_7 : decode cX4_reach 7 = .ok (.bipush 8, 2) := by decide +kernel
theorem dX4_reach_9 : decode cX4_reach 9 = .ok (.if_icmp .ge 15, 3) := by decide +kernel
theorem dX4_reach_12 : decode cX4_reach 12 = .ok (.aload_n 0, 1) := by decide +kernel
theorem dX4_reach_13 : decode cX4_reach 13 = .ok (.iload_n 2, 1) := by decide +kernel
theorem dX4_reach_14 : decode cX4_reach 14 = .ok (.invokevirtual 57, 3) := by decide +kernel
theorem dX4_reach_17 : decode cX4_reach 17 = .ok (.istore_n 2, 1) := by decide +kernel
theorem dX4_reach_18 : decode cX4_reach 18 = .ok (.iinc 3 1, 3) := by decide +kernel
theorem dX4_reach_21 : decode cX4_reach 21 = .ok (.goto (-15), 3) := by decide +kernel
theorem dX4_reach_24 : decode cX4_reach 24 = .ok (.iload_n 2, 1) := by decide +kernel
theorem dX4_reach_25 : decode cX4_reach 25 = .ok (.ireturn, 1) := by decide +kernel
theorem dX4_spread_0 : decode cX4_spread 0 = .ok (.iload_n 1, 1) := by decide +kernel
theorem dX4_spread_1 : decode cX4_spread 1 = .ok (.istore_n 2, 1) := by decide +kernel
theorem dX4_spread_2 : decode cX4_spread 2 = .ok (.iconst 0, 1) := by decide +kernel
theorem dX4_spread_3 : decode cX4_spread 3 = .ok (.istore_n 3, 1) := by decide +kernel
theorem dX4_spread_4 : decode cX4_spread 4 = .ok (.iload_n 3, 1) := by decide +kernel
theorem dX4_spread_5 : decode cX4_spread 5 = .ok (.aload_n 0, 1) := by decide +kernel
theorem dX4_spread_6 : decode cX4_spread 6 = .ok (.getfield 9, 3) := by decide +kernel
theorem dX4_spread_9 : decode cX4_spread 9 = .ok (.if_icmp .ge 31, 3) := by decide +kernel
theorem dX4_spread_40 : decode cX4_spread 40 = .ok (.iload_n 2, 1) := by decide +kernel
theorem dX4_spread_41 : decode cX4_spread 41 = .ok (.ireturn, 1) := by decide +kernel
theorem dX6_init_0 : decode cX6_init 0 = .ok (.aload_n 0, 1) := by decide +kernel
theorem dX6_init_1 : decode cX6_init 1 = .ok (.invokespecial 3, 3) := by decide +kernel
theorem dX6_init_4 : decode cX6_init 4 = .ok (.aload_n 0, 1) := by decide +kernel
theorem dX6_init_5 : decode cX6_init 5 = .ok (.sipush 400, 3) := by decide +kernel
theorem dX6_init_8 : decode cX6_init 8 = .ok (.newarray .int, 2) := by decide +kernel
theorem dX6_init_10 : decode cX6_init 10 = .ok (.putfield 9, 3) := by decide +kernel
theorem dX6_init_13 : decode cX6_init 13 = .ok (.aload_n 0, 1) := by decide +kernel
theorem dX6_init_14 : decode cX6_init 14 = .ok (.bipush 36, 2) := by decide +kernel
theorem dX6_init_16 : decode cX6_init 16 = .ok (.newarray .int, 2) := by decide +kernel
theorem dX6_init_18 : decode cX6_init 18 = .ok (.putfield 17, 3) := by decide +kernel
theorem dX6_init_21 : decode cX6_init 21 = .ok (.aload_n 0, 1) := by decide +kernel
theorem dX6_init_22 : decode cX6_init 22 = .ok (.iconst 0, 1) := by decide +kernel
theorem dX6_init_23 : decode cX6_init 23 = .ok (.putfield 20, 3) := by decide +kernel
theorem dX6_init_26 : decode cX6_init 26 = .ok (.aload_n 0, 1) := by decide +kernel
theorem dX6_init_27 : decode cX6_init 27 = .ok (.iconst 0, 1) := by decide +kernel
theorem dX6_init_28 : decode cX6_init 28 = .ok (.putfield 24, 3) := by decide +kernel
theorem dX6_init_31 : decode cX6_init 31 = .ok (.aload_n 0, 1) := by decide +kernel
theorem dX6_init_32 : decode cX6_init 32 = .ok (.aload_n 1, 1) := by decide +kernel
theorem dX6_init_33 : decode cX6_init 33 = .ok (.putfield 27, 3) := by decide +kernel
theorem dX6_init_36 : decode cX6_init 36 = .ok (.return_, 1) := by decide +kernel
theorem dX6_read_0 : decode cX6_read 0 = .ok (.aload_n 0, 1) := by decide +kernel
theorem dX6_read_1 : decode cX6_read 1 = .ok (.getfield 27, 3) := by decide +kernel
theorem dX6_read_4 : decode cX6_read 4 = .ok (.invokevirtual 31, 3) := by decide +kernel
theorem dX6_read_7 : decode cX6_read 7 = .ok (.aload_n 0, 1) := by decide +kernel
theorem dX6_read_8 : decode cX6_read 8 = .ok (.iconst 0, 1) := by decide +kernel
theorem dX6_read_9 : decode cX6_read 9 = .ok (.putfield 20, 3) := by decide +kernel
theorem dX6_read_12 : decode cX6_read 12 = .ok (.aload_n 0, 1) := by decide +kernel
theorem dX6_read_13 : decode cX6_read 13 = .ok (.iconst 0, 1) := by decide +kernel
theorem dX6_read_14 : decode cX6_read 14 = .ok (.putfield 24, 3) := by decide +kernel
theorem dX6_read_17 : decode cX6_read 17 = .ok (.iconst 0, 1) := by decide +kernel
theorem dX6_read_18 : decode cX6_read 18 = .ok (.istore_n 1, 1) := by decide +kernel
theorem dX6_read_19 : decode cX6_read 19 = .ok (.iconst 0, 1) := by decide +kernel
theorem dX6_read_20 : decode cX6_read 20 = .ok (.istore_n 2, 1) := by decide +kernel
theorem dX6_read_21 : decode cX6_read 21 = .ok (.iload_n 2, 1) := by decide +kernel
theorem dX6_read_22 : decode cX6_read 22 = .ok (.bipush 12, 2) := by decide +kernel
theorem dX6_read_24 : decode cX6_read 24 = .ok (.if_icmp .gt 269, 3) := by decide +kernel
theorem dX6_read_27 : decode cX6_read 27 = .ok (.aload_n 0, 1) := by decide +kernel
theorem dX6_read_28 : decode cX6_read 28 = .ok (.getfield 27, 3) := by decide +kernel
theorem dX6_read_31 : decode cX6_read 31 = .ok (.invokevirtual 36, 3) := by decide +kernel
theorem dX6_read_34 : decode cX6_read 34 = .ok (.istore_n 3, 1) := by decide +kernel
theorem dX6_read_35 : decode cX6_read 35 = .ok (.iload_n 3, 1) := by decide +kernel
theorem dX6_read_36 : decode cX6_read 36 = .ok (.bipush 12, 2) := by decide +kernel
theorem dX6_read_38 : decode cX6_read 38 = .ok (.if_icmp .eq 9, 3) := by decide +kernel
theorem dX6_read_41 : decode cX6_read 41 = .ok (.iload_n 3, 1) := by decide +kernel
theorem dX6_read_42 : decode cX6_read 42 = .ok (.bipush 13, 2) := by decide +kernel
theorem dX6_read_44 : decode cX6_read 44 = .ok (.if_icmp .ne 7, 3) := by decide +kernel
theorem dX6_read_51 : decode cX6_read 51 = .ok (.iconst 0, 1) := by decide +kernel
theorem dX6_read_52 : decode cX6_read 52 = .ok (.istore 4, 2) := by decide +kernel
theorem dX6_read_54 : decode cX6_read 54 = .ok (.iload 4, 2) := by decide +kernel
theorem dX6_read_56 : decode cX6_read 56 = .ok (.ifCond .eq 9, 3) := by decide +kernel
theorem dX6_read_65 : decode cX6_read 65 = .ok (.aload_n 0, 1) := by decide +kernel
theorem dX6_read_66 : decode cX6_read 66 = .ok (.getfield 27, 3) := by decide +kernel
theorem dX6_read_69 : decode cX6_read 69 = .ok (.aload_n 0, 1) := by decide +kernel
theorem dX6_read_70 : decode cX6_read 70 = .ok (.getfield 27, 3) := by decide +kernel
theorem dX6_read_73 : decode cX6_read 73 = .ok (.getfield 40, 3) := by decide +kernel
theorem dX6_read_76 : decode cX6_read 76 = .ok (.iload 4, 2) := by decide +kernel
theorem dX6_read_78 : decode cX6_read 78 = .ok (.ifCond .eq 7, 3) := by decide +kernel
theorem dX6_read_85 : decode cX6_read 85 = .ok (.iconst 0, 1) := by decide +kernel
theorem dX6_read_86 : decode cX6_read 86 = .ok (.invokevirtual 43, 3) := by decide +kernel
theorem dX6_read_89 : decode cX6_read 89 = .ok (.pop, 1) := by decide +kernel
theorem dX6_read_90 : decode cX6_read 90 = .ok (.aconst_null, 1) := by decide +kernel
theorem dX6_read_91 : decode cX6_read 91 = .ok (.areturn, 1) := by decide +kernel
theorem dX7_init_0 : decode cX7_init 0 = .ok (.aload_n 0, 1) := by decide +kernel
theorem dX7_init_1 : decode cX7_init 1 = .ok (.invokespecial 5, 3) := by decide +kernel
theorem dX7_init_4 : decode cX7_init 4 = .ok (.aload_n 0, 1) := by decide +kernel
theorem dX7_init_5 : decode cX7_init 5 = .ok (.iconst 0, 1) := by decide +kernel
theorem dX7_init_6 : decode cX7_init 6 = .ok (.newarray .int, 2) := by decide +kernel
theorem dX7_init_8 : decode cX7_init 8 = .ok (.putfield 11, 3) := by decide +kernel
theorem dX7_init_11 : decode cX7_init 11 = .ok (.aload_n 0, 1) := by decide +kernel
