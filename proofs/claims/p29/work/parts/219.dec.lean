theorem dX6_readValue_70 : decode cX6_readValue 70 = .ok (.bipush 11, 2) := by decide +kernel
theorem dX6_readValue_72 : decode cX6_readValue 72 = .ok (.if_icmp .le 13, 3) := by decide +kernel
theorem dX6_readValue_75 : decode cX6_readValue 75 = .ok (.aload_n 0, 1) := by decide +kernel
theorem dX6_readValue_76 : decode cX6_readValue 76 = .ok (.getfield 27, 3) := by decide +kernel
theorem dX6_readValue_79 : decode cX6_readValue 79 = .ok (.iload_n 2, 1) := by decide +kernel
theorem dX6_readValue_80 : decode cX6_readValue 80 = .ok (.iconst 0, 1) := by decide +kernel
theorem dX6_readValue_81 : decode cX6_readValue 81 = .ok (.invokevirtual 43, 3) := by decide +kernel
theorem dX6_readValue_84 : decode cX6_readValue 84 = .ok (.ireturn, 1) := by decide +kernel
theorem dX6_readValue_85 : decode cX6_readValue 85 = .ok (.aload_n 0, 1) := by decide +kernel
theorem dX6_readValue_86 : decode cX6_readValue 86 = .ok (.getfield 27, 3) := by decide +kernel
theorem dX6_readValue_89 : decode cX6_readValue 89 = .ok (.invokevirtual 47, 3) := by decide +kernel
theorem dX6_readValue_92 : decode cX6_readValue 92 = .ok (.iconst (-1), 1) := by decide +kernel
theorem dX6_readValue_93 : decode cX6_readValue 93 = .ok (.iload 4, 2) := by decide +kernel
theorem dX6_readValue_95 : decode cX6_readValue 95 = .ok (.isub, 1) := by decide +kernel
theorem dX6_readValue_96 : decode cX6_readValue 96 = .ok (.istore_n 3, 1) := by decide +kernel
theorem dX6_readValue_97 : decode cX6_readValue 97 = .ok (.aload_n 0, 1) := by decide +kernel
theorem dX6_readValue_98 : decode cX6_readValue 98 = .ok (.getfield 24, 3) := by decide +kernel
theorem dX6_readValue_101 : decode cX6_readValue 101 = .ok (.bipush 60, 2) := by decide +kernel
theorem dX6_readValue_103 : decode cX6_readValue 103 = .ok (.if_icmp .lt 13, 3) := by decide +kernel
theorem dX6_readValue_106 : decode cX6_readValue 106 = .ok (.aload_n 0, 1) := by decide +kernel
theorem dX6_readValue_107 : decode cX6_readValue 107 = .ok (.getfield 27, 3) := by decide +kernel
theorem dX6_readValue_110 : decode cX6_readValue 110 = .ok (.iload_n 2, 1) := by decide +kernel
theorem dX6_readValue_111 : decode cX6_readValue 111 = .ok (.iconst 3, 1) := by decide +kernel
theorem dX6_readValue_112 : decode cX6_readValue 112 = .ok (.invokevirtual 43, 3) := by decide +kernel
theorem dX6_readValue_115 : decode cX6_readValue 115 = .ok (.ireturn, 1) := by decide +kernel
theorem dX6_readValue_116 : decode cX6_readValue 116 = .ok (.aload_n 0, 1) := by decide +kernel
theorem dX6_readValue_117 : decode cX6_readValue 117 = .ok (.dup, 1) := by decide +kernel
theorem dX6_readValue_118 : decode cX6_readValue 118 = .ok (.getfield 24, 3) := by decide +kernel
theorem dX6_readValue_121 : decode cX6_readValue 121 = .ok (.iconst 1, 1) := by decide +kernel
theorem dX6_readValue_122 : decode cX6_readValue 122 = .ok (.iadd, 1) := by decide +kernel
theorem dX6_readValue_123 : decode cX6_readValue 123 = .ok (.putfield 24, 3) := by decide +kernel
theorem dX6_readValue_126 : decode cX6_readValue 126 = .ok (.aload_n 0, 1) := by decide +kernel
theorem dX6_readValue_127 : decode cX6_readValue 127 = .ok (.iload_n 3, 1) := by decide +kernel
theorem dX6_readValue_128 : decode cX6_readValue 128 = .ok (.invokevirtual 77, 3) := by decide +kernel
theorem dX6_readValue_131 : decode cX6_readValue 131 = .ok (.iconst 1, 1) := by decide +kernel
theorem dX6_readValue_132 : decode cX6_readValue 132 = .ok (.ireturn, 1) := by decide +kernel
theorem dX7_aims_0 : decode cX7_aims 0 = .ok (.iconst 0, 1) := by decide +kernel
theorem dX7_aims_1 : decode cX7_aims 1 = .ok (.istore_n 1, 1) := by decide +kernel
theorem dX7_aims_2 : decode cX7_aims 2 = .ok (.iconst 0, 1) := by decide +kernel
theorem dX7_aims_3 : decode cX7_aims 3 = .ok (.istore_n 2, 1) := by decide +kernel
theorem dX7_aims_4 : decode cX7_aims 4 = .ok (.iload_n 2, 1) := by decide +kernel
theorem dX7_aims_5 : decode cX7_aims 5 = .ok (.aload_n 0, 1) := by decide +kernel
theorem dX7_aims_6 : decode cX7_aims 6 = .ok (.getfield 28, 3) := by decide +kernel
theorem dX7_aims_9 : decode cX7_aims 9 = .ok (.if_icmp .ge 32, 3) := by decide +kernel
theorem dX7_aims_12 : decode cX7_aims 12 = .ok (.iload_n 1, 1) := by decide +kernel
theorem dX7_aims_13 : decode cX7_aims 13 = .ok (.aload_n 0, 1) := by decide +kernel
theorem dX7_aims_14 : decode cX7_aims 14 = .ok (.getfield 54, 3) := by decide +kernel
theorem dX7_aims_17 : decode cX7_aims 17 = .ok (.getfield 102, 3) := by decide +kernel
theorem dX7_aims_20 : decode cX7_aims 20 = .ok (.aload_n 0, 1) := by decide +kernel
theorem dX7_aims_21 : decode cX7_aims 21 = .ok (.getfield 25, 3) := by decide +kernel
theorem dX7_aims_24 : decode cX7_aims 24 = .ok (.iload_n 2, 1) := by decide +kernel
theorem dX7_aims_25 : decode cX7_aims 25 = .ok (.iaload, 1) := by decide +kernel
theorem dX7_aims_26 : decode cX7_aims 26 = .ok (.iaload, 1) := by decide +kernel
theorem dX7_aims_27 : decode cX7_aims 27 = .ok (.aload_n 0, 1) := by decide +kernel
theorem dX7_aims_28 : decode cX7_aims 28 = .ok (.iload_n 2, 1) := by decide +kernel
theorem dX7_aims_29 : decode cX7_aims 29 = .ok (.invokevirtual 71, 3) := by decide +kernel
theorem dX7_aims_32 : decode cX7_aims 32 = .ok (.ishl, 1) := by decide +kernel
theorem dX7_aims_33 : decode cX7_aims 33 = .ok (.ior, 1) := by decide +kernel
theorem dX7_aims_34 : decode cX7_aims 34 = .ok (.istore_n 1, 1) := by decide +kernel
theorem dX7_aims_35 : decode cX7_aims 35 = .ok (.iinc 2 1, 3) := by decide +kernel
theorem dX7_aims_38 : decode cX7_aims 38 = .ok (.goto (-34), 3) := by decide +kernel
theorem dX7_aims_41 : decode cX7_aims 41 = .ok (.iload_n 1, 1) := by decide +kernel
theorem dX7_aims_42 : decode cX7_aims 42 = .ok (.ireturn, 1) := by decide +kernel
theorem dX7_begin_0 : decode cX7_begin 0 = .ok (.aload_n 0, 1) := by decide +kernel
theorem dX7_begin_1 : decode cX7_begin 1 = .ok (.aload_n 0, 1) := by decide +kernel
theorem dX7_begin_2 : decode cX7_begin 2 = .ok (.getfield 49, 3) := by decide +kernel
theorem dX7_begin_5 : decode cX7_begin 5 = .ok (.getfield 55, 3) := by decide +kernel
theorem dX7_begin_8 : decode cX7_begin 8 = .ok (.putfield 31, 3) := by decide +kernel
theorem dX7_begin_11 : decode cX7_begin 11 = .ok (.aload_n 0, 1) := by decide +kernel
theorem dX7_begin_12 : decode cX7_begin 12 = .ok (.aload_n 0, 1) := by decide +kernel
theorem dX7_begin_13 : decode cX7_begin 13 = .ok (.getfield 54, 3) := by decide +kernel
theorem dX7_begin_16 : decode cX7_begin 16 = .ok (.invokevirtual 58, 3) := by decide +kernel
theorem dX7_begin_19 : decode cX7_begin 19 = .ok (.iconst (-1), 1) := by decide +kernel
theorem dX7_begin_20 : decode cX7_begin 20 = .ok (.ixor, 1) := by decide +kernel
theorem dX7_begin_21 : decode cX7_begin 21 = .ok (.putfield 34, 3) := by decide +kernel
theorem dX7_begin_24 : decode cX7_begin 24 = .ok (.aload_n 0, 1) := by decide +kernel
theorem dX7_begin_25 : decode cX7_begin 25 = .ok (.iconst 0, 1) := by decide +kernel
theorem dX7_begin_26 : decode cX7_begin 26 = .ok (.putfield 40, 3) := by decide +kernel
theorem dX7_begin_29 : decode cX7_begin 29 = .ok (.aload_n 0, 1) := by decide +kernel
theorem dX7_begin_30 : decode cX7_begin 30 = .ok (.iconst 0, 1) := by decide +kernel
theorem dX7_begin_31 : decode cX7_begin 31 = .ok (.putfield 28, 3) := by decide +kernel
theorem dX7_begin_34 : decode cX7_begin 34 = .ok (.aload_n 0, 1) := by decide +kernel
theorem dX7_begin_35 : decode cX7_begin 35 = .ok (.aload_n 0, 1) := by decide +kernel
theorem dX7_begin_36 : decode cX7_begin 36 = .ok (.getfield 49, 3) := by decide +kernel
theorem dX7_begin_39 : decode cX7_begin 39 = .ok (.getfield 64, 3) := by decide +kernel
theorem dX7_begin_42 : decode cX7_begin 42 = .ok (.putfield 37, 3) := by decide +kernel
theorem dX7_begin_45 : decode cX7_begin 45 = .ok (.iconst 0, 1) := by decide +kernel
theorem dX7_begin_46 : decode cX7_begin 46 = .ok (.istore_n 2, 1) := by decide +kernel
theorem dX7_begin_47 : decode cX7_begin 47 = .ok (.iload_n 2, 1) := by decide +kernel
theorem dX7_begin_48 : decode cX7_begin 48 = .ok (.aload_n 0, 1) := by decide +kernel
theorem dX7_begin_49 : decode cX7_begin 49 = .ok (.getfield 54, 3) := by decide +kernel
theorem dX7_begin_52 : decode cX7_begin 52 = .ok (.getfield 67, 3) := by decide +kernel
theorem dX7_begin_55 : decode cX7_begin 55 = .ok (.if_icmp .ge 67, 3) := by decide +kernel
theorem dX7_begin_58 : decode cX7_begin 58 = .ok (.iload_n 1, 1) := by decide +kernel
theorem dX7_begin_59 : decode cX7_begin 59 = .ok (.iload_n 2, 1) := by decide +kernel
theorem dX7_begin_60 : decode cX7_begin 60 = .ok (.ishr, 1) := by decide +kernel
theorem dX7_begin_61 : decode cX7_begin 61 = .ok (.iconst 1, 1) := by decide +kernel
theorem dX7_begin_62 : decode cX7_begin 62 = .ok (.iand, 1) := by decide +kernel
theorem dX7_begin_63 : decode cX7_begin 63 = .ok (.ifCond .eq 53, 3) := by decide +kernel
theorem dX7_begin_66 : decode cX7_begin 66 = .ok (.aload_n 0, 1) := by decide +kernel
theorem dX7_begin_67 : decode cX7_begin 67 = .ok (.getfield 25, 3) := by decide +kernel
theorem dX7_begin_70 : decode cX7_begin 70 = .ok (.aload_n 0, 1) := by decide +kernel
theorem dX7_begin_71 : decode cX7_begin 71 = .ok (.getfield 28, 3) := by decide +kernel
theorem dX7_begin_74 : decode cX7_begin 74 = .ok (.iload_n 2, 1) := by decide +kernel
theorem dX7_begin_75 : decode cX7_begin 75 = .ok (.iastore, 1) := by decide +kernel
theorem dX7_begin_76 : decode cX7_begin 76 = .ok (.aload_n 0, 1) := by decide +kernel
theorem dX7_begin_77 : decode cX7_begin 77 = .ok (.dup, 1) := by decide +kernel
theorem dX7_begin_78 : decode cX7_begin 78 = .ok (.getfield 37, 3) := by decide +kernel
theorem dX7_begin_81 : decode cX7_begin 81 = .ok (.aload_n 0, 1) := by decide +kernel
theorem dX7_begin_82 : decode cX7_begin 82 = .ok (.getfield 54, 3) := by decide +kernel
theorem dX7_begin_85 : decode cX7_begin 85 = .ok (.getfield 68, 3) := by decide +kernel
theorem dX7_begin_88 : decode cX7_begin 88 = .ok (.iload_n 2, 1) := by decide +kernel
theorem dX7_begin_89 : decode cX7_begin 89 = .ok (.iaload, 1) := by decide +kernel
theorem dX7_begin_90 : decode cX7_begin 90 = .ok (.bipush 7, 2) := by decide +kernel
theorem dX7_begin_92 : decode cX7_begin 92 = .ok (.iand, 1) := by decide +kernel
theorem dX7_begin_93 : decode cX7_begin 93 = .ok (.aload_n 0, 1) := by decide +kernel
theorem dX7_begin_94 : decode cX7_begin 94 = .ok (.aload_n 0, 1) := by decide +kernel
theorem dX7_begin_95 : decode cX7_begin 95 = .ok (.getfield 28, 3) := by decide +kernel
theorem dX7_begin_98 : decode cX7_begin 98 = .ok (.invokevirtual 71, 3) := by decide +kernel
theorem dX7_begin_101 : decode cX7_begin 101 = .ok (.ishl, 1) := by decide +kernel
theorem dX7_begin_102 : decode cX7_begin 102 = .ok (.ior, 1) := by decide +kernel
theorem dX7_begin_103 : decode cX7_begin 103 = .ok (.putfield 37, 3) := by decide +kernel
theorem dX7_begin_106 : decode cX7_begin 106 = .ok (.aload_n 0, 1) := by decide +kernel
theorem dX7_begin_107 : decode cX7_begin 107 = .ok (.dup, 1) := by decide +kernel
theorem dX7_begin_108 : decode cX7_begin 108 = .ok (.getfield 28, 3) := by decide +kernel
theorem dX7_begin_111 : decode cX7_begin 111 = .ok (.iconst 1, 1) := by decide +kernel
theorem dX7_begin_112 : decode cX7_begin 112 = .ok (.iadd, 1) := by decide +kernel
theorem dX7_begin_113 : decode cX7_begin 113 = .ok (.putfield 28, 3) := by decide +kernel
theorem dX7_begin_116 : decode cX7_begin 116 = .ok (.iinc 2 1, 3) := by decide +kernel
theorem dX7_begin_119 : decode cX7_begin 119 = .ok (.goto (-72), 3) := by decide +kernel
theorem dX7_begin_122 : decode cX7_begin 122 = .ok (.return_, 1) := by decide +kernel
theorem dX7_behind_0 : decode cX7_behind 0 = .ok (.iload_n 1, 1) := by decide +kernel
theorem dX7_behind_1 : decode cX7_behind 1 = .ok (.iconst 1, 1) := by decide +kernel
theorem dX7_behind_2 : decode cX7_behind 2 = .ok (.iload_n 3, 1) := by decide +kernel
theorem dX7_behind_3 : decode cX7_behind 3 = .ok (.ishl, 1) := by decide +kernel
theorem dX7_behind_4 : decode cX7_behind 4 = .ok (.ixor, 1) := by decide +kernel
theorem dX7_behind_5 : decode cX7_behind 5 = .ok (.aload_n 0, 1) := by decide +kernel
theorem dX7_behind_6 : decode cX7_behind 6 = .ok (.getfield 49, 3) := by decide +kernel
theorem dX7_behind_9 : decode cX7_behind 9 = .ok (.getfield 138, 3) := by decide +kernel
theorem dX7_behind_12 : decode cX7_behind 12 = .ok (.iload_n 3, 1) := by decide +kernel
theorem dX7_behind_13 : decode cX7_behind 13 = .ok (.iaload, 1) := by decide +kernel
theorem dX7_behind_14 : decode cX7_behind 14 = .ok (.aload_n 0, 1) := by decide +kernel
theorem dX7_behind_15 : decode cX7_behind 15 = .ok (.getfield 49, 3) := by decide +kernel
theorem dX7_behind_18 : decode cX7_behind 18 = .ok (.getfield 141, 3) := by decide +kernel
theorem dX7_behind_21 : decode cX7_behind 21 = .ok (.iload_n 3, 1) := by decide +kernel
theorem dX7_behind_22 : decode cX7_behind 22 = .ok (.iaload, 1) := by decide +kernel
theorem dX7_behind_23 : decode cX7_behind 23 = .ok (.ixor, 1) := by decide +kernel
theorem dX7_behind_24 : decode cX7_behind 24 = .ok (.aload_n 0, 1) := by decide +kernel
theorem dX7_behind_25 : decode cX7_behind 25 = .ok (.iload_n 2, 1) := by decide +kernel
theorem dX7_behind_26 : decode cX7_behind 26 = .ok (.invokevirtual 71, 3) := by decide +kernel
theorem dX7_behind_29 : decode cX7_behind 29 = .ok (.ishl, 1) := by decide +kernel
theorem dX7_behind_30 : decode cX7_behind 30 = .ok (.ixor, 1) := by decide +kernel
theorem dX7_behind_31 : decode cX7_behind 31 = .ok (.istore 4, 2) := by decide +kernel
theorem dX7_behind_33 : decode cX7_behind 33 = .ok (.aload_n 0, 1) := by decide +kernel
theorem dX7_behind_34 : decode cX7_behind 34 = .ok (.getfield 40, 3) := by decide +kernel
theorem dX7_behind_37 : decode cX7_behind 37 = .ok (.ifCond .eq 32, 3) := by decide +kernel
theorem dX7_behind_40 : decode cX7_behind 40 = .ok (.iload 4, 2) := by decide +kernel
theorem dX7_behind_42 : decode cX7_behind 42 = .ok (.iconst 1, 1) := by decide +kernel
theorem dX7_behind_43 : decode cX7_behind 43 = .ok (.iload 4, 2) := by decide +kernel
theorem dX7_behind_45 : decode cX7_behind 45 = .ok (.aload_n 0, 1) := by decide +kernel
theorem dX7_behind_46 : decode cX7_behind 46 = .ok (.getfield 31, 3) := by decide +kernel
theorem dX7_behind_49 : decode cX7_behind 49 = .ok (.ishr, 1) := by decide +kernel
theorem dX7_behind_50 : decode cX7_behind 50 = .ok (.bipush 7, 2) := by decide +kernel
theorem dX7_behind_52 : decode cX7_behind 52 = .ok (.iand, 1) := by decide +kernel
theorem dX7_behind_53 : decode cX7_behind 53 = .ok (.ishl, 1) := by decide +kernel
theorem dX7_behind_54 : decode cX7_behind 54 = .ok (.aload_n 0, 1) := by decide +kernel
theorem dX7_behind_55 : decode cX7_behind 55 = .ok (.getfield 40, 3) := by decide +kernel
theorem dX7_behind_58 : decode cX7_behind 58 = .ok (.iand, 1) := by decide +kernel
theorem dX7_behind_59 : decode cX7_behind 59 = .ok (.aload_n 0, 1) := by decide +kernel
theorem dX7_behind_60 : decode cX7_behind 60 = .ok (.getfield 31, 3) := by decide +kernel
theorem dX7_behind_63 : decode cX7_behind 63 = .ok (.iconst 3, 1) := by decide +kernel
theorem dX7_behind_64 : decode cX7_behind 64 = .ok (.iadd, 1) := by decide +kernel
theorem dX7_behind_65 : decode cX7_behind 65 = .ok (.ishl, 1) := by decide +kernel
theorem dX7_behind_66 : decode cX7_behind 66 = .ok (.ior, 1) := by decide +kernel
theorem dX7_behind_67 : decode cX7_behind 67 = .ok (.istore 4, 2) := by decide +kernel
theorem dX7_behind_69 : decode cX7_behind 69 = .ok (.iload 4, 2) := by decide +kernel
theorem dX7_behind_71 : decode cX7_behind 71 = .ok (.ireturn, 1) := by decide +kernel
theorem dX7_canReachAim_0 : decode cX7_canReachAim 0 = .ok (.aload_n 0, 1) := by decide +kernel
theorem dX7_canReachAim_1 : decode cX7_canReachAim 1 = .ok (.aload_n 0, 1) := by decide +kernel
theorem dX7_canReachAim_2 : decode cX7_canReachAim 2 = .ok (.getfield 37, 3) := by decide +kernel
theorem dX7_canReachAim_5 : decode cX7_canReachAim 5 = .ok (.aload_n 0, 1) := by decide +kernel
theorem dX7_canReachAim_6 : decode cX7_canReachAim 6 = .ok (.aload_n 0, 1) := by decide +kernel
theorem dX7_canReachAim_7 : decode cX7_canReachAim 7 = .ok (.getfield 28, 3) := by decide +kernel
theorem dX7_canReachAim_10 : decode cX7_canReachAim 10 = .ok (.invokevirtual 71, 3) := by decide +kernel
theorem dX7_canReachAim_13 : decode cX7_canReachAim 13 = .ok (.invokevirtual 75, 3) := by decide +kernel
theorem dX7_canReachAim_16 : decode cX7_canReachAim 16 = .ok (.iconst 0, 1) := by decide +kernel
theorem dX7_canReachAim_17 : decode cX7_canReachAim 17 = .ok (.istore_n 2, 1) := by decide +kernel
theorem dX7_canReachAim_18 : decode cX7_canReachAim 18 = .ok (.iconst 0, 1) := by decide +kernel
theorem dX7_canReachAim_19 : decode cX7_canReachAim 19 = .ok (.istore_n 3, 1) := by decide +kernel
theorem dX7_canReachAim_20 : decode cX7_canReachAim 20 = .ok (.iload_n 3, 1) := by decide +kernel
theorem dX7_canReachAim_21 : decode cX7_canReachAim 21 = .ok (.aload_n 0, 1) := by decide +kernel
theorem dX7_canReachAim_22 : decode cX7_canReachAim 22 = .ok (.getfield 28, 3) := by decide +kernel
theorem dX7_canReachAim_25 : decode cX7_canReachAim 25 = .ok (.if_icmp .ge 29, 3) := by decide +kernel
theorem dX7_canReachAim_28 : decode cX7_canReachAim 28 = .ok (.aload_n 0, 1) := by decide +kernel
theorem dX7_canReachAim_29 : decode cX7_canReachAim 29 = .ok (.getfield 25, 3) := by decide +kernel
theorem dX7_canReachAim_32 : decode cX7_canReachAim 32 = .ok (.iload_n 3, 1) := by decide +kernel
theorem dX7_canReachAim_33 : decode cX7_canReachAim 33 = .ok (.iaload, 1) := by decide +kernel
theorem dX7_canReachAim_34 : decode cX7_canReachAim 34 = .ok (.iload_n 1, 1) := by decide +kernel
theorem dX7_canReachAim_35 : decode cX7_canReachAim 35 = .ok (.if_icmp .ne 11, 3) := by decide +kernel
theorem dX7_canReachAim_38 : decode cX7_canReachAim 38 = .ok (.aload_n 0, 1) := by decide +kernel
theorem dX7_canReachAim_39 : decode cX7_canReachAim 39 = .ok (.iload_n 3, 1) := by decide +kernel
theorem dX7_canReachAim_40 : decode cX7_canReachAim 40 = .ok (.invokevirtual 71, 3) := by decide +kernel
theorem dX7_canReachAim_43 : decode cX7_canReachAim 43 = .ok (.goto 4, 3) := by decide +kernel
theorem dX7_canReachAim_46 : decode cX7_canReachAim 46 = .ok (.iload_n 2, 1) := by decide +kernel
theorem dX7_canReachAim_47 : decode cX7_canReachAim 47 = .ok (.istore_n 2, 1) := by decide +kernel
theorem dX7_canReachAim_48 : decode cX7_canReachAim 48 = .ok (.iinc 3 1, 3) := by decide +kernel
theorem dX7_canReachAim_51 : decode cX7_canReachAim 51 = .ok (.goto (-31), 3) := by decide +kernel
theorem dX7_canReachAim_54 : decode cX7_canReachAim 54 = .ok (.aload_n 0, 1) := by decide +kernel
theorem dX7_canReachAim_55 : decode cX7_canReachAim 55 = .ok (.bipush 7, 2) := by decide +kernel
theorem dX7_canReachAim_57 : decode cX7_canReachAim 57 = .ok (.iload_n 2, 1) := by decide +kernel
theorem dX7_canReachAim_58 : decode cX7_canReachAim 58 = .ok (.ishl, 1) := by decide +kernel
theorem dX7_canReachAim_59 : decode cX7_canReachAim 59 = .ok (.aload_n 0, 1) := by decide +kernel
theorem dX7_canReachAim_60 : decode cX7_canReachAim 60 = .ok (.getfield 54, 3) := by decide +kernel
theorem dX7_canReachAim_63 : decode cX7_canReachAim 63 = .ok (.getfield 102, 3) := by decide +kernel
theorem dX7_canReachAim_66 : decode cX7_canReachAim 66 = .ok (.iload_n 1, 1) := by decide +kernel
theorem dX7_canReachAim_67 : decode cX7_canReachAim 67 = .ok (.iaload, 1) := by decide +kernel
theorem dX7_canReachAim_68 : decode cX7_canReachAim 68 = .ok (.iload_n 2, 1) := by decide +kernel
theorem dX7_canReachAim_69 : decode cX7_canReachAim 69 = .ok (.ishl, 1) := by decide +kernel
theorem dX7_canReachAim_70 : decode cX7_canReachAim 70 = .ok (.invokevirtual 85, 3) := by decide +kernel
theorem dX7_canReachAim_73 : decode cX7_canReachAim 73 = .ok (.istore_n 3, 1) := by decide +kernel
theorem dX7_canReachAim_74 : decode cX7_canReachAim 74 = .ok (.aload_n 0, 1) := by decide +kernel
theorem dX7_canReachAim_75 : decode cX7_canReachAim 75 = .ok (.invokevirtual 89, 3) := by decide +kernel
theorem dX7_canReachAim_78 : decode cX7_canReachAim 78 = .ok (.iload_n 3, 1) := by decide +kernel
theorem dX7_canReachAim_79 : decode cX7_canReachAim 79 = .ok (.ifCond .lt 7, 3) := by decide +kernel
theorem dX7_canReachAim_82 : decode cX7_canReachAim 82 = .ok (.iconst 1, 1) := by decide +kernel
theorem dX7_canReachAim_83 : decode cX7_canReachAim 83 = .ok (.goto 4, 3) := by decide +kernel
theorem dX7_canReachAim_86 : decode cX7_canReachAim 86 = .ok (.iconst 0, 1) := by decide +kernel
theorem dX7_canReachAim_87 : decode cX7_canReachAim 87 = .ok (.ireturn, 1) := by decide +kernel
theorem dX7_closedDirections_0 : decode cX7_closedDirections 0 = .ok (.aload_n 0, 1) := by decide +kernel
theorem dX7_closedDirections_1 : decode cX7_closedDirections 1 = .ok (.aload_n 0, 1) := by decide +kernel
theorem dX7_closedDirections_2 : decode cX7_closedDirections 2 = .ok (.getfield 37, 3) := by decide +kernel
theorem dX7_closedDirections_5 : decode cX7_closedDirections 5 = .ok (.aload_n 0, 1) := by decide +kernel
theorem dX7_closedDirections_6 : decode cX7_closedDirections 6 = .ok (.aload_n 0, 1) := by decide +kernel
theorem dX7_closedDirections_7 : decode cX7_closedDirections 7 = .ok (.getfield 28, 3) := by decide +kernel
theorem dX7_closedDirections_10 : decode cX7_closedDirections 10 = .ok (.invokevirtual 71, 3) := by decide +kernel
theorem dX7_closedDirections_13 : decode cX7_closedDirections 13 = .ok (.invokevirtual 75, 3) := by decide +kernel
theorem dX7_closedDirections_16 : decode cX7_closedDirections 16 = .ok (.aload_n 0, 1) := by decide +kernel
theorem dX7_closedDirections_17 : decode cX7_closedDirections 17 = .ok (.iconst 0, 1) := by decide +kernel
theorem dX7_closedDirections_18 : decode cX7_closedDirections 18 = .ok (.iconst 1, 1) := by decide +kernel
theorem dX7_closedDirections_19 : decode cX7_closedDirections 19 = .ok (.invokevirtual 85, 3) := by decide +kernel
theorem dX7_closedDirections_22 : decode cX7_closedDirections 22 = .ok (.pop, 1) := by decide +kernel
theorem dX7_closedDirections_23 : decode cX7_closedDirections 23 = .ok (.aload_n 0, 1) := by decide +kernel
theorem dX7_closedDirections_24 : decode cX7_closedDirections 24 = .ok (.invokevirtual 79, 3) := by decide +kernel
theorem dX7_closedDirections_27 : decode cX7_closedDirections 27 = .ok (.istore_n 1, 1) := by decide +kernel
theorem dX7_closedDirections_28 : decode cX7_closedDirections 28 = .ok (.iconst 0, 1) := by decide +kernel
theorem dX7_closedDirections_29 : decode cX7_closedDirections 29 = .ok (.istore_n 2, 1) := by decide +kernel
theorem dX7_closedDirections_30 : decode cX7_closedDirections 30 = .ok (.iconst 0, 1) := by decide +kernel
theorem dX7_closedDirections_31 : decode cX7_closedDirections 31 = .ok (.istore_n 3, 1) := by decide +kernel
theorem dX7_closedDirections_32 : decode cX7_closedDirections 32 = .ok (.iload_n 3, 1) := by decide +kernel
theorem dX7_closedDirections_33 : decode cX7_closedDirections 33 = .ok (.aload_n 0, 1) := by decide +kernel
theorem dX7_closedDirections_34 : decode cX7_closedDirections 34 = .ok (.getfield 18, 3) := by decide +kernel
theorem dX7_closedDirections_37 : decode cX7_closedDirections 37 = .ok (.if_icmp .ge 34, 3) := by decide +kernel
theorem dX7_closedDirections_40 : decode cX7_closedDirections 40 = .ok (.iload_n 2, 1) := by decide +kernel
theorem dX7_closedDirections_41 : decode cX7_closedDirections 41 = .ok (.aload_n 0, 1) := by decide +kernel
theorem dX7_closedDirections_42 : decode cX7_closedDirections 42 = .ok (.getfield 15, 3) := by decide +kernel
theorem dX7_closedDirections_45 : decode cX7_closedDirections 45 = .ok (.iload_n 3, 1) := by decide +kernel
theorem dX7_closedDirections_46 : decode cX7_closedDirections 46 = .ok (.iaload, 1) := by decide +kernel
theorem dX7_closedDirections_47 : decode cX7_closedDirections 47 = .ok (.iload_n 1, 1) := by decide +kernel
theorem dX7_closedDirections_48 : decode cX7_closedDirections 48 = .ok (.iand, 1) := by decide +kernel
theorem dX7_closedDirections_49 : decode cX7_closedDirections 49 = .ok (.aload_n 0, 1) := by decide +kernel
theorem dX7_closedDirections_50 : decode cX7_closedDirections 50 = .ok (.getfield 37, 3) := by decide +kernel
theorem dX7_closedDirections_53 : decode cX7_closedDirections 53 = .ok (.iload_n 1, 1) := by decide +kernel
theorem dX7_closedDirections_54 : decode cX7_closedDirections 54 = .ok (.iand, 1) := by decide +kernel
theorem dX7_closedDirections_55 : decode cX7_closedDirections 55 = .ok (.if_icmp .ne 7, 3) := by decide +kernel
theorem dX7_closedDirections_58 : decode cX7_closedDirections 58 = .ok (.iconst 1, 1) := by decide +kernel
theorem dX7_closedDirections_59 : decode cX7_closedDirections 59 = .ok (.goto 4, 3) := by decide +kernel
theorem dX7_closedDirections_62 : decode cX7_closedDirections 62 = .ok (.iconst 0, 1) := by decide +kernel
theorem dX7_closedDirections_63 : decode cX7_closedDirections 63 = .ok (.iadd, 1) := by decide +kernel
theorem dX7_closedDirections_64 : decode cX7_closedDirections 64 = .ok (.istore_n 2, 1) := by decide +kernel
theorem dX7_closedDirections_65 : decode cX7_closedDirections 65 = .ok (.iinc 3 1, 3) := by decide +kernel
theorem dX7_closedDirections_68 : decode cX7_closedDirections 68 = .ok (.goto (-36), 3) := by decide +kernel
theorem dX7_closedDirections_71 : decode cX7_closedDirections 71 = .ok (.aload_n 0, 1) := by decide +kernel
theorem dX7_closedDirections_72 : decode cX7_closedDirections 72 = .ok (.invokevirtual 89, 3) := by decide +kernel
theorem dX7_closedDirections_75 : decode cX7_closedDirections 75 = .ok (.iload_n 2, 1) := by decide +kernel
theorem dX7_closedDirections_76 : decode cX7_closedDirections 76 = .ok (.ireturn, 1) := by decide +kernel
theorem dX7_comesTo_0 : decode cX7_comesTo 0 = .ok (.aload_n 0, 1) := by decide +kernel
theorem dX7_comesTo_1 : decode cX7_comesTo 1 = .ok (.aload_n 0, 1) := by decide +kernel
theorem dX7_comesTo_2 : decode cX7_comesTo 2 = .ok (.getfield 37, 3) := by decide +kernel
theorem dX7_comesTo_5 : decode cX7_comesTo 5 = .ok (.aload_n 0, 1) := by decide +kernel
theorem dX7_comesTo_6 : decode cX7_comesTo 6 = .ok (.aload_n 0, 1) := by decide +kernel
theorem dX7_comesTo_7 : decode cX7_comesTo 7 = .ok (.getfield 28, 3) := by decide +kernel
theorem dX7_comesTo_10 : decode cX7_comesTo 10 = .ok (.invokevirtual 71, 3) := by decide +kernel
theorem dX7_comesTo_13 : decode cX7_comesTo 13 = .ok (.invokevirtual 75, 3) := by decide +kernel
theorem dX7_comesTo_16 : decode cX7_comesTo 16 = .ok (.aload_n 0, 1) := by decide +kernel
theorem dX7_comesTo_17 : decode cX7_comesTo 17 = .ok (.iconst (-1), 1) := by decide +kernel
theorem dX7_comesTo_18 : decode cX7_comesTo 18 = .ok (.aload_n 0, 1) := by decide +kernel
theorem dX7_comesTo_19 : decode cX7_comesTo 19 = .ok (.getfield 37, 3) := by decide +kernel
theorem dX7_comesTo_22 : decode cX7_comesTo 22 = .ok (.aload_n 0, 1) := by decide +kernel
theorem dX7_comesTo_23 : decode cX7_comesTo 23 = .ok (.invokevirtual 79, 3) := by decide +kernel
theorem dX7_comesTo_26 : decode cX7_comesTo 26 = .ok (.iand, 1) := by decide +kernel
theorem dX7_comesTo_27 : decode cX7_comesTo 27 = .ok (.iload_n 1, 1) := by decide +kernel
theorem dX7_comesTo_28 : decode cX7_comesTo 28 = .ok (.ior, 1) := by decide +kernel
theorem dX7_comesTo_29 : decode cX7_comesTo 29 = .ok (.invokevirtual 85, 3) := by decide +kernel
theorem dX7_comesTo_32 : decode cX7_comesTo 32 = .ok (.istore_n 2, 1) := by decide +kernel
theorem dX7_comesTo_33 : decode cX7_comesTo 33 = .ok (.aload_n 0, 1) := by decide +kernel
theorem dX7_comesTo_34 : decode cX7_comesTo 34 = .ok (.invokevirtual 89, 3) := by decide +kernel
theorem dX7_comesTo_37 : decode cX7_comesTo 37 = .ok (.iload_n 2, 1) := by decide +kernel
theorem dX7_comesTo_38 : decode cX7_comesTo 38 = .ok (.ifCond .lt 7, 3) := by decide +kernel
theorem dX7_comesTo_41 : decode cX7_comesTo 41 = .ok (.iconst 1, 1) := by decide +kernel
theorem dX7_comesTo_42 : decode cX7_comesTo 42 = .ok (.goto 4, 3) := by decide +kernel
theorem dX7_comesTo_45 : decode cX7_comesTo 45 = .ok (.iconst 0, 1) := by decide +kernel
theorem dX7_comesTo_46 : decode cX7_comesTo 46 = .ok (.ireturn, 1) := by decide +kernel
theorem dX7_fewestGoings_0 : decode cX7_fewestGoings 0 = .ok (.aload_n 0, 1) := by decide +kernel
theorem dX7_fewestGoings_1 : decode cX7_fewestGoings 1 = .ok (.aload_n 0, 1) := by decide +kernel
theorem dX7_fewestGoings_2 : decode cX7_fewestGoings 2 = .ok (.getfield 37, 3) := by decide +kernel
theorem dX7_fewestGoings_5 : decode cX7_fewestGoings 5 = .ok (.aload_n 0, 1) := by decide +kernel
theorem dX7_fewestGoings_6 : decode cX7_fewestGoings 6 = .ok (.aload_n 0, 1) := by decide +kernel
theorem dX7_fewestGoings_7 : decode cX7_fewestGoings 7 = .ok (.getfield 28, 3) := by decide +kernel
theorem dX7_fewestGoings_10 : decode cX7_fewestGoings 10 = .ok (.invokevirtual 71, 3) := by decide +kernel
theorem dX7_fewestGoings_13 : decode cX7_fewestGoings 13 = .ok (.invokevirtual 75, 3) := by decide +kernel
theorem dX7_fewestGoings_16 : decode cX7_fewestGoings 16 = .ok (.aload_n 0, 1) := by decide +kernel
theorem dX7_fewestGoings_17 : decode cX7_fewestGoings 17 = .ok (.aload_n 0, 1) := by decide +kernel
theorem dX7_fewestGoings_18 : decode cX7_fewestGoings 18 = .ok (.invokevirtual 79, 3) := by decide +kernel
theorem dX7_fewestGoings_21 : decode cX7_fewestGoings 21 = .ok (.aload_n 0, 1) := by decide +kernel
theorem dX7_fewestGoings_22 : decode cX7_fewestGoings 22 = .ok (.invokevirtual 82, 3) := by decide +kernel
theorem dX7_fewestGoings_25 : decode cX7_fewestGoings 25 = .ok (.invokevirtual 85, 3) := by decide +kernel
theorem dX7_fewestGoings_28 : decode cX7_fewestGoings 28 = .ok (.istore_n 1, 1) := by decide +kernel
theorem dX7_fewestGoings_29 : decode cX7_fewestGoings 29 = .ok (.aload_n 0, 1) := by decide +kernel
theorem dX7_fewestGoings_30 : decode cX7_fewestGoings 30 = .ok (.invokevirtual 89, 3) := by decide +kernel
theorem dX7_fewestGoings_33 : decode cX7_fewestGoings 33 = .ok (.iload_n 1, 1) := by decide +kernel
theorem dX7_fewestGoings_34 : decode cX7_fewestGoings 34 = .ok (.ireturn, 1) := by decide +kernel
theorem dX7_firstRow_0 : decode cX7_firstRow 0 = .ok (.aload_n 0, 1) := by decide +kernel
theorem dX7_firstRow_1 : decode cX7_firstRow 1 = .ok (.aload_n 0, 1) := by decide +kernel
theorem dX7_firstRow_2 : decode cX7_firstRow 2 = .ok (.getfield 37, 3) := by decide +kernel
theorem dX7_firstRow_5 : decode cX7_firstRow 5 = .ok (.aload_n 0, 1) := by decide +kernel
theorem dX7_firstRow_6 : decode cX7_firstRow 6 = .ok (.aload_n 0, 1) := by decide +kernel
theorem dX7_firstRow_7 : decode cX7_firstRow 7 = .ok (.getfield 28, 3) := by decide +kernel
theorem dX7_firstRow_10 : decode cX7_firstRow 10 = .ok (.invokevirtual 71, 3) := by decide +kernel
theorem dX7_firstRow_13 : decode cX7_firstRow 13 = .ok (.invokevirtual 75, 3) := by decide +kernel
theorem dX7_firstRow_16 : decode cX7_firstRow 16 = .ok (.aload_n 0, 1) := by decide +kernel
theorem dX7_firstRow_17 : decode cX7_firstRow 17 = .ok (.invokevirtual 82, 3) := by decide +kernel
theorem dX7_firstRow_20 : decode cX7_firstRow 20 = .ok (.istore_n 2, 1) := by decide +kernel
theorem dX7_firstRow_21 : decode cX7_firstRow 21 = .ok (.aload_n 0, 1) := by decide +kernel
theorem dX7_firstRow_22 : decode cX7_firstRow 22 = .ok (.aload_n 0, 1) := by decide +kernel
theorem dX7_firstRow_23 : decode cX7_firstRow 23 = .ok (.invokevirtual 79, 3) := by decide +kernel
theorem dX7_firstRow_26 : decode cX7_firstRow 26 = .ok (.iload_n 2, 1) := by decide +kernel
theorem dX7_firstRow_27 : decode cX7_firstRow 27 = .ok (.invokevirtual 85, 3) := by decide +kernel
theorem dX7_firstRow_30 : decode cX7_firstRow 30 = .ok (.istore_n 3, 1) := by decide +kernel
theorem dX7_firstRow_31 : decode cX7_firstRow 31 = .ok (.iload_n 1, 1) := by decide +kernel
theorem dX7_firstRow_32 : decode cX7_firstRow 32 = .ok (.iload_n 3, 1) := by decide +kernel
theorem dX7_firstRow_33 : decode cX7_firstRow 33 = .ok (.if_icmp .lt 10, 3) := by decide +kernel
theorem dX7_firstRow_36 : decode cX7_firstRow 36 = .ok (.aload_n 0, 1) := by decide +kernel
theorem dX7_firstRow_37 : decode cX7_firstRow 37 = .ok (.invokevirtual 89, 3) := by decide +kernel
theorem dX7_firstRow_40 : decode cX7_firstRow 40 = .ok (.bipush (-2), 2) := by decide +kernel
theorem dX7_firstRow_42 : decode cX7_firstRow 42 = .ok (.ireturn, 1) := by decide +kernel
theorem dX7_firstRow_43 : decode cX7_firstRow 43 = .ok (.aload_n 0, 1) := by decide +kernel
theorem dX7_firstRow_44 : decode cX7_firstRow 44 = .ok (.aload_n 0, 1) := by decide +kernel
theorem dX7_firstRow_45 : decode cX7_firstRow 45 = .ok (.invokevirtual 79, 3) := by decide +kernel
theorem dX7_firstRow_48 : decode cX7_firstRow 48 = .ok (.iload_n 2, 1) := by decide +kernel
theorem dX7_firstRow_49 : decode cX7_firstRow 49 = .ok (.invokevirtual 92, 3) := by decide +kernel
theorem dX7_firstRow_52 : decode cX7_firstRow 52 = .ok (.aload_n 0, 1) := by decide +kernel
theorem dX7_firstRow_53 : decode cX7_firstRow 53 = .ok (.iconst (-1), 1) := by decide +kernel
theorem dX7_firstRow_54 : decode cX7_firstRow 54 = .ok (.aload_n 0, 1) := by decide +kernel
theorem dX7_firstRow_55 : decode cX7_firstRow 55 = .ok (.getfield 37, 3) := by decide +kernel
theorem dX7_firstRow_58 : decode cX7_firstRow 58 = .ok (.invokevirtual 85, 3) := by decide +kernel
theorem dX7_firstRow_61 : decode cX7_firstRow 61 = .ok (.pop, 1) := by decide +kernel
theorem dX7_firstRow_62 : decode cX7_firstRow 62 = .ok (.aload_n 0, 1) := by decide +kernel
theorem dX7_firstRow_63 : decode cX7_firstRow 63 = .ok (.getfield 37, 3) := by decide +kernel
theorem dX7_firstRow_66 : decode cX7_firstRow 66 = .ok (.istore 4, 2) := by decide +kernel
theorem dX7_firstRow_68 : decode cX7_firstRow 68 = .ok (.bipush (-2), 2) := by decide +kernel
theorem dX7_firstRow_70 : decode cX7_firstRow 70 = .ok (.istore 5, 2) := by decide +kernel
theorem dX7_firstRow_72 : decode cX7_firstRow 72 = .ok (.iload_n 3, 1) := by decide +kernel
theorem dX7_firstRow_73 : decode cX7_firstRow 73 = .ok (.istore 6, 2) := by decide +kernel
theorem dX7_firstRow_75 : decode cX7_firstRow 75 = .ok (.iload 6, 2) := by decide +kernel
theorem dX7_firstRow_77 : decode cX7_firstRow 77 = .ok (.iload_n 3, 1) := by decide +kernel
theorem dX7_firstRow_78 : decode cX7_firstRow 78 = .ok (.iload_n 1, 1) := by decide +kernel
theorem dX7_firstRow_79 : decode cX7_firstRow 79 = .ok (.isub, 1) := by decide +kernel
theorem dX7_firstRow_80 : decode cX7_firstRow 80 = .ok (.if_icmp .lt 55, 3) := by decide +kernel
theorem dX7_firstRow_83 : decode cX7_firstRow 83 = .ok (.iload 6, 2) := by decide +kernel
theorem dX7_firstRow_85 : decode cX7_firstRow 85 = .ok (.ifCond .le 50, 3) := by decide +kernel
theorem dX7_firstRow_88 : decode cX7_firstRow 88 = .ok (.aload_n 0, 1) := by decide +kernel
theorem dX7_firstRow_89 : decode cX7_firstRow 89 = .ok (.iload 4, 2) := by decide +kernel
theorem dX7_firstRow_91 : decode cX7_firstRow 91 = .ok (.iconst 1, 1) := by decide +kernel
theorem dX7_firstRow_92 : decode cX7_firstRow 92 = .ok (.iload 6, 2) := by decide +kernel
theorem dX7_firstRow_94 : decode cX7_firstRow 94 = .ok (.iconst 1, 1) := by decide +kernel
theorem dX7_firstRow_95 : decode cX7_firstRow 95 = .ok (.isub, 1) := by decide +kernel
theorem dX7_firstRow_96 : decode cX7_firstRow 96 = .ok (.iconst 3, 1) := by decide +kernel
theorem dX7_firstRow_97 : decode cX7_firstRow 97 = .ok (.irem, 1) := by decide +kernel
theorem dX7_firstRow_98 : decode cX7_firstRow 98 = .ok (.iadd, 1) := by decide +kernel
theorem dX7_firstRow_99 : decode cX7_firstRow 99 = .ok (.invokevirtual 95, 3) := by decide +kernel
theorem dX7_firstRow_102 : decode cX7_firstRow 102 = .ok (.istore 5, 2) := by decide +kernel
theorem dX7_firstRow_104 : decode cX7_firstRow 104 = .ok (.iload 5, 2) := by decide +kernel
theorem dX7_firstRow_106 : decode cX7_firstRow 106 = .ok (.ifCond .ge 6, 3) := by decide +kernel
theorem dX7_firstRow_109 : decode cX7_firstRow 109 = .ok (.goto 26, 3) := by decide +kernel
theorem dX7_firstRow_112 : decode cX7_firstRow 112 = .ok (.aload_n 0, 1) := by decide +kernel
theorem dX7_firstRow_113 : decode cX7_firstRow 113 = .ok (.iload 4, 2) := by decide +kernel
theorem dX7_firstRow_115 : decode cX7_firstRow 115 = .ok (.iload 5, 2) := by decide +kernel
theorem dX7_firstRow_117 : decode cX7_firstRow 117 = .ok (.iconst 4, 1) := by decide +kernel
theorem dX7_firstRow_118 : decode cX7_firstRow 118 = .ok (.ishr, 1) := by decide +kernel
theorem dX7_firstRow_119 : decode cX7_firstRow 119 = .ok (.iload 5, 2) := by decide +kernel
theorem dX7_firstRow_121 : decode cX7_firstRow 121 = .ok (.bipush 15, 2) := by decide +kernel
theorem dX7_firstRow_123 : decode cX7_firstRow 123 = .ok (.iand, 1) := by decide +kernel
theorem dX7_firstRow_124 : decode cX7_firstRow 124 = .ok (.invokevirtual 98, 3) := by decide +kernel
theorem dX7_firstRow_127 : decode cX7_firstRow 127 = .ok (.istore 4, 2) := by decide +kernel
theorem dX7_firstRow_129 : decode cX7_firstRow 129 = .ok (.iinc 6 (-1), 3) := by decide +kernel
theorem dX7_firstRow_132 : decode cX7_firstRow 132 = .ok (.goto (-57), 3) := by decide +kernel
theorem dX7_firstRow_135 : decode cX7_firstRow 135 = .ok (.aload_n 0, 1) := by decide +kernel
theorem dX7_firstRow_136 : decode cX7_firstRow 136 = .ok (.invokevirtual 89, 3) := by decide +kernel
theorem dX7_firstRow_139 : decode cX7_firstRow 139 = .ok (.iload 5, 2) := by decide +kernel
theorem dX7_firstRow_141 : decode cX7_firstRow 141 = .ok (.ifCond .ge 8, 3) := by decide +kernel
theorem dX7_firstRow_144 : decode cX7_firstRow 144 = .ok (.bipush (-2), 2) := by decide +kernel
theorem dX7_firstRow_146 : decode cX7_firstRow 146 = .ok (.goto 21, 3) := by decide +kernel
theorem dX7_firstRow_149 : decode cX7_firstRow 149 = .ok (.bipush 16, 2) := by decide +kernel
theorem dX7_firstRow_151 : decode cX7_firstRow 151 = .ok (.aload_n 0, 1) := by decide +kernel
theorem dX7_firstRow_152 : decode cX7_firstRow 152 = .ok (.getfield 25, 3) := by decide +kernel
theorem dX7_firstRow_155 : decode cX7_firstRow 155 = .ok (.iload 5, 2) := by decide +kernel
theorem dX7_firstRow_157 : decode cX7_firstRow 157 = .ok (.iconst 4, 1) := by decide +kernel
theorem dX7_firstRow_158 : decode cX7_firstRow 158 = .ok (.ishr, 1) := by decide +kernel
theorem dX7_firstRow_159 : decode cX7_firstRow 159 = .ok (.iaload, 1) := by decide +kernel
theorem dX7_firstRow_160 : decode cX7_firstRow 160 = .ok (.imul, 1) := by decide +kernel
theorem dX7_firstRow_161 : decode cX7_firstRow 161 = .ok (.iload 5, 2) := by decide +kernel
theorem dX7_firstRow_163 : decode cX7_firstRow 163 = .ok (.bipush 15, 2) := by decide +kernel
theorem dX7_firstRow_165 : decode cX7_firstRow 165 = .ok (.iand, 1) := by decide +kernel
theorem dX7_firstRow_166 : decode cX7_firstRow 166 = .ok (.iadd, 1) := by decide +kernel
theorem dX7_firstRow_167 : decode cX7_firstRow 167 = .ok (.ireturn, 1) := by decide +kernel
theorem dX7_forget_0 : decode cX7_forget 0 = .ok (.iconst 0, 1) := by decide +kernel
theorem dX7_forget_1 : decode cX7_forget 1 = .ok (.istore_n 1, 1) := by decide +kernel
theorem dX7_forget_2 : decode cX7_forget 2 = .ok (.iload_n 1, 1) := by decide +kernel
theorem dX7_forget_3 : decode cX7_forget 3 = .ok (.aload_n 0, 1) := by decide +kernel
theorem dX7_forget_4 : decode cX7_forget 4 = .ok (.getfield 18, 3) := by decide +kernel
theorem dX7_forget_7 : decode cX7_forget 7 = .ok (.if_icmp .ge 23, 3) := by decide +kernel
theorem dX7_forget_10 : decode cX7_forget 10 = .ok (.aload_n 0, 1) := by decide +kernel
theorem dX7_forget_11 : decode cX7_forget 11 = .ok (.getfield 11, 3) := by decide +kernel
theorem dX7_forget_14 : decode cX7_forget 14 = .ok (.aload_n 0, 1) := by decide +kernel
theorem dX7_forget_15 : decode cX7_forget 15 = .ok (.getfield 15, 3) := by decide +kernel
theorem dX7_forget_18 : decode cX7_forget 18 = .ok (.iload_n 1, 1) := by decide +kernel
theorem dX7_forget_19 : decode cX7_forget 19 = .ok (.iaload, 1) := by decide +kernel
theorem dX7_forget_20 : decode cX7_forget 20 = .ok (.iconst 4, 1) := by decide +kernel
theorem dX7_forget_21 : decode cX7_forget 21 = .ok (.ishr, 1) := by decide +kernel
theorem dX7_forget_22 : decode cX7_forget 22 = .ok (.iconst 0, 1) := by decide +kernel
theorem dX7_forget_23 : decode cX7_forget 23 = .ok (.iastore, 1) := by decide +kernel
theorem dX7_forget_24 : decode cX7_forget 24 = .ok (.iinc 1 1, 3) := by decide +kernel
theorem dX7_forget_27 : decode cX7_forget 27 = .ok (.goto (-25), 3) := by decide +kernel
theorem dX7_forget_30 : decode cX7_forget 30 = .ok (.aload_n 0, 1) := by decide +kernel
theorem dX7_forget_31 : decode cX7_forget 31 = .ok (.iconst 0, 1) := by decide +kernel
theorem dX7_forget_32 : decode cX7_forget 32 = .ok (.putfield 18, 3) := by decide +kernel
theorem dX7_forget_35 : decode cX7_forget 35 = .ok (.return_, 1) := by decide +kernel
theorem dX7_init_0 : decode cX7_init 0 = .ok (.aload_n 0, 1) := by decide +kernel
theorem dX7_init_1 : decode cX7_init 1 = .ok (.invokespecial 5, 3) := by decide +kernel
theorem dX7_init_4 : decode cX7_init 4 = .ok (.aload_n 0, 1) := by decide +kernel
theorem dX7_init_5 : decode cX7_init 5 = .ok (.iconst 0, 1) := by decide +kernel
theorem dX7_init_6 : decode cX7_init 6 = .ok (.newarray .int, 2) := by decide +kernel
theorem dX7_init_8 : decode cX7_init 8 = .ok (.putfield 11, 3) := by decide +kernel
theorem dX7_init_11 : decode cX7_init 11 = .ok (.aload_n 0, 1) := by decide +kernel
theorem dX7_init_12 : decode cX7_init 12 = .ok (.iconst 0, 1) := by decide +kernel
theorem dX7_init_13 : decode cX7_init 13 = .ok (.newarray .int, 2) := by decide +kernel
theorem dX7_init_15 : decode cX7_init 15 = .ok (.putfield 15, 3) := by decide +kernel
theorem dX7_init_18 : decode cX7_init 18 = .ok (.aload_n 0, 1) := by decide +kernel
theorem dX7_init_19 : decode cX7_init 19 = .ok (.iconst 0, 1) := by decide +kernel
theorem dX7_init_20 : decode cX7_init 20 = .ok (.putfield 18, 3) := by decide +kernel
theorem dX7_init_23 : decode cX7_init 23 = .ok (.aload_n 0, 1) := by decide +kernel
theorem dX7_init_24 : decode cX7_init 24 = .ok (.iconst 0, 1) := by decide +kernel
theorem dX7_init_25 : decode cX7_init 25 = .ok (.putfield 22, 3) := by decide +kernel
theorem dX7_init_28 : decode cX7_init 28 = .ok (.aload_n 0, 1) := by decide +kernel
theorem dX7_init_29 : decode cX7_init 29 = .ok (.bipush 6, 2) := by decide +kernel
theorem dX7_init_31 : decode cX7_init 31 = .ok (.newarray .int, 2) := by decide +kernel
theorem dX7_init_33 : decode cX7_init 33 = .ok (.putfield 25, 3) := by decide +kernel
theorem dX7_init_36 : decode cX7_init 36 = .ok (.aload_n 0, 1) := by decide +kernel
theorem dX7_init_37 : decode cX7_init 37 = .ok (.iconst 0, 1) := by decide +kernel
theorem dX7_init_38 : decode cX7_init 38 = .ok (.putfield 28, 3) := by decide +kernel
theorem dX7_init_41 : decode cX7_init 41 = .ok (.aload_n 0, 1) := by decide +kernel
theorem dX7_init_42 : decode cX7_init 42 = .ok (.iconst 0, 1) := by decide +kernel
theorem dX7_init_43 : decode cX7_init 43 = .ok (.putfield 31, 3) := by decide +kernel
theorem dX7_init_46 : decode cX7_init 46 = .ok (.aload_n 0, 1) := by decide +kernel
theorem dX7_init_47 : decode cX7_init 47 = .ok (.iconst 0, 1) := by decide +kernel
theorem dX7_init_48 : decode cX7_init 48 = .ok (.putfield 34, 3) := by decide +kernel
theorem dX7_init_51 : decode cX7_init 51 = .ok (.aload_n 0, 1) := by decide +kernel
theorem dX7_init_52 : decode cX7_init 52 = .ok (.iconst 0, 1) := by decide +kernel
theorem dX7_init_53 : decode cX7_init 53 = .ok (.putfield 37, 3) := by decide +kernel
theorem dX7_init_56 : decode cX7_init 56 = .ok (.aload_n 0, 1) := by decide +kernel
theorem dX7_init_57 : decode cX7_init 57 = .ok (.iconst 0, 1) := by decide +kernel
theorem dX7_init_58 : decode cX7_init 58 = .ok (.putfield 40, 3) := by decide +kernel
theorem dX7_init_61 : decode cX7_init 61 = .ok (.aload_n 0, 1) := by decide +kernel
theorem dX7_init_62 : decode cX7_init 62 = .ok (.aload_n 1, 1) := by decide +kernel
theorem dX7_init_63 : decode cX7_init 63 = .ok (.getfield 43, 3) := by decide +kernel
theorem dX7_init_66 : decode cX7_init 66 = .ok (.putfield 49, 3) := by decide +kernel
theorem dX7_init_69 : decode cX7_init 69 = .ok (.aload_n 0, 1) := by decide +kernel
theorem dX7_init_70 : decode cX7_init 70 = .ok (.aload_n 1, 1) := by decide +kernel
theorem dX7_init_71 : decode cX7_init 71 = .ok (.getfield 50, 3) := by decide +kernel
theorem dX7_init_74 : decode cX7_init 74 = .ok (.putfield 54, 3) := by decide +kernel
theorem dX7_init_77 : decode cX7_init 77 = .ok (.return_, 1) := by decide +kernel
theorem dX7_launch_0 : decode cX7_launch 0 = .ok (.iconst 1, 1) := by decide +kernel
theorem dX7_launch_1 : decode cX7_launch 1 = .ok (.iload_n 2, 1) := by decide +kernel
theorem dX7_launch_2 : decode cX7_launch 2 = .ok (.bipush 20, 2) := by decide +kernel
theorem dX7_launch_4 : decode cX7_launch 4 = .ok (.invokestatic 105, 3) := by decide +kernel
theorem dX7_launch_7 : decode cX7_launch 7 = .ok (.ishl, 1) := by decide +kernel
theorem dX7_launch_8 : decode cX7_launch 8 = .ok (.bipush 15, 2) := by decide +kernel
theorem dX7_launch_10 : decode cX7_launch 10 = .ok (.iadd, 1) := by decide +kernel
theorem dX7_launch_11 : decode cX7_launch 11 = .ok (.iconst 4, 1) := by decide +kernel
theorem dX7_launch_12 : decode cX7_launch 12 = .ok (.ishr, 1) := by decide +kernel
theorem dX7_launch_13 : decode cX7_launch 13 = .ok (.istore_n 3, 1) := by decide +kernel
theorem dX7_launch_14 : decode cX7_launch 14 = .ok (.aload_n 0, 1) := by decide +kernel
theorem dX7_launch_15 : decode cX7_launch 15 = .ok (.getfield 11, 3) := by decide +kernel
theorem dX7_launch_18 : decode cX7_launch 18 = .ok (.arraylength, 1) := by decide +kernel
theorem dX7_launch_19 : decode cX7_launch 19 = .ok (.iload_n 3, 1) := by decide +kernel
theorem dX7_launch_20 : decode cX7_launch 20 = .ok (.if_icmp .ge 10, 3) := by decide +kernel
theorem dX7_launch_23 : decode cX7_launch 23 = .ok (.aload_n 0, 1) := by decide +kernel
theorem dX7_launch_24 : decode cX7_launch 24 = .ok (.iload_n 3, 1) := by decide +kernel
theorem dX7_launch_25 : decode cX7_launch 25 = .ok (.newarray .int, 2) := by decide +kernel
theorem dX7_launch_27 : decode cX7_launch 27 = .ok (.putfield 11, 3) := by decide +kernel
