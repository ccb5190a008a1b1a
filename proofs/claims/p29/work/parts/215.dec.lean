theorem dX3_arrive_39 : decode cX3_arrive 39 = .ok (.istore 4, 2) := by decide +kernel
theorem dX3_arrive_41 : decode cX3_arrive 41 = .ok (.iload 4, 2) := by decide +kernel
theorem dX3_arrive_43 : decode cX3_arrive 43 = .ok (.iconst (-1), 1) := by decide +kernel
theorem dX3_arrive_44 : decode cX3_arrive 44 = .ok (.if_icmp .ne 6, 3) := by decide +kernel
theorem dX3_arrive_47 : decode cX3_arrive 47 = .ok (.goto 56, 3) := by decide +kernel
theorem dX3_arrive_50 : decode cX3_arrive 50 = .ok (.aload_n 1, 1) := by decide +kernel
theorem dX3_arrive_51 : decode cX3_arrive 51 = .ok (.getfield 80, 3) := by decide +kernel
theorem dX3_arrive_54 : decode cX3_arrive 54 = .ok (.iload_n 3, 1) := by decide +kernel
theorem dX3_arrive_55 : decode cX3_arrive 55 = .ok (.dup2, 1) := by decide +kernel
theorem dX3_arrive_56 : decode cX3_arrive 56 = .ok (.iaload, 1) := by decide +kernel
theorem dX3_arrive_57 : decode cX3_arrive 57 = .ok (.iconst 1, 1) := by decide +kernel
theorem dX3_arrive_58 : decode cX3_arrive 58 = .ok (.iadd, 1) := by decide +kernel
theorem dX3_arrive_59 : decode cX3_arrive 59 = .ok (.iastore, 1) := by decide +kernel
theorem dX3_arrive_60 : decode cX3_arrive 60 = .ok (.aload_n 1, 1) := by decide +kernel
theorem dX3_arrive_61 : decode cX3_arrive 61 = .ok (.getfield 80, 3) := by decide +kernel
theorem dX3_arrive_64 : decode cX3_arrive 64 = .ok (.iload_n 3, 1) := by decide +kernel
theorem dX3_arrive_65 : decode cX3_arrive 65 = .ok (.iaload, 1) := by decide +kernel
theorem dX3_arrive_66 : decode cX3_arrive 66 = .ok (.aload_n 0, 1) := by decide +kernel
theorem dX3_arrive_67 : decode cX3_arrive 67 = .ok (.getfield 22, 3) := by decide +kernel
theorem dX3_arrive_70 : decode cX3_arrive 70 = .ok (.getfield 83, 3) := by decide +kernel
theorem dX3_arrive_73 : decode cX3_arrive 73 = .ok (.getfield 87, 3) := by decide +kernel
theorem dX3_arrive_76 : decode cX3_arrive 76 = .ok (.iload 4, 2) := by decide +kernel
theorem dX3_arrive_78 : decode cX3_arrive 78 = .ok (.iaload, 1) := by decide +kernel
theorem dX3_arrive_79 : decode cX3_arrive 79 = .ok (.if_icmp .lt 24, 3) := by decide +kernel
theorem dX3_arrive_82 : decode cX3_arrive 82 = .ok (.aload_n 1, 1) := by decide +kernel
theorem dX3_arrive_83 : decode cX3_arrive 83 = .ok (.iload_n 3, 1) := by decide +kernel
theorem dX3_arrive_84 : decode cX3_arrive 84 = .ok (.aload_n 1, 1) := by decide +kernel
theorem dX3_arrive_85 : decode cX3_arrive 85 = .ok (.getfield 92, 3) := by decide +kernel
theorem dX3_arrive_88 : decode cX3_arrive 88 = .ok (.iload_n 3, 1) := by decide +kernel
theorem dX3_arrive_89 : decode cX3_arrive 89 = .ok (.iaload, 1) := by decide +kernel
theorem dX3_arrive_90 : decode cX3_arrive 90 = .ok (.iload_n 2, 1) := by decide +kernel
theorem dX3_arrive_91 : decode cX3_arrive 91 = .ok (.invokevirtual 95, 3) := by decide +kernel
theorem dX3_arrive_94 : decode cX3_arrive 94 = .ok (.aload_n 0, 1) := by decide +kernel
theorem dX3_arrive_95 : decode cX3_arrive 95 = .ok (.getfield 22, 3) := by decide +kernel
theorem dX3_arrive_98 : decode cX3_arrive 98 = .ok (.iload 4, 2) := by decide +kernel
theorem dX3_arrive_100 : decode cX3_arrive 100 = .ok (.invokevirtual 99, 3) := by decide +kernel
theorem dX3_arrive_103 : decode cX3_arrive 103 = .ok (.iinc 3 1, 3) := by decide +kernel
theorem dX3_arrive_106 : decode cX3_arrive 106 = .ok (.goto (-81), 3) := by decide +kernel
theorem dX3_arrive_109 : decode cX3_arrive 109 = .ok (.return_, 1) := by decide +kernel
theorem dX3_choose_0 : decode cX3_choose 0 = .ok (.iconst (-1), 1) := by decide +kernel
theorem dX3_choose_1 : decode cX3_choose 1 = .ok (.istore_n 1, 1) := by decide +kernel
theorem dX3_choose_2 : decode cX3_choose 2 = .ok (.lconst 0, 1) := by decide +kernel
theorem dX3_choose_3 : decode cX3_choose 3 = .ok (.lstore_n 2, 1) := by decide +kernel
theorem dX3_choose_4 : decode cX3_choose 4 = .ok (.aload_n 0, 1) := by decide +kernel
theorem dX3_choose_5 : decode cX3_choose 5 = .ok (.getfield 22, 3) := by decide +kernel
theorem dX3_choose_8 : decode cX3_choose 8 = .ok (.getfield 83, 3) := by decide +kernel
theorem dX3_choose_11 : decode cX3_choose 11 = .ok (.aload_n 0, 1) := by decide +kernel
theorem dX3_choose_12 : decode cX3_choose 12 = .ok (.getfield 22, 3) := by decide +kernel
theorem dX3_choose_15 : decode cX3_choose 15 = .ok (.getfield 39, 3) := by decide +kernel
theorem dX3_choose_18 : decode cX3_choose 18 = .ok (.getfield 103, 3) := by decide +kernel
theorem dX3_choose_21 : decode cX3_choose 21 = .ok (.aload_n 0, 1) := by decide +kernel
theorem dX3_choose_22 : decode cX3_choose 22 = .ok (.getfield 35, 3) := by decide +kernel
theorem dX3_choose_25 : decode cX3_choose 25 = .ok (.iaload, 1) := by decide +kernel
theorem dX3_choose_26 : decode cX3_choose 26 = .ok (.invokevirtual 155, 3) := by decide +kernel
theorem dX3_choose_29 : decode cX3_choose 29 = .ok (.istore 4, 2) := by decide +kernel
theorem dX3_choose_31 : decode cX3_choose 31 = .ok (.iconst 0, 1) := by decide +kernel
theorem dX3_choose_32 : decode cX3_choose 32 = .ok (.istore 5, 2) := by decide +kernel
theorem dX3_choose_34 : decode cX3_choose 34 = .ok (.iload 5, 2) := by decide +kernel
theorem dX3_choose_36 : decode cX3_choose 36 = .ok (.aload_n 0, 1) := by decide +kernel
theorem dX3_choose_37 : decode cX3_choose 37 = .ok (.getfield 22, 3) := by decide +kernel
theorem dX3_choose_40 : decode cX3_choose 40 = .ok (.getfield 83, 3) := by decide +kernel
theorem dX3_choose_43 : decode cX3_choose 43 = .ok (.getfield 158, 3) := by decide +kernel
theorem dX3_choose_46 : decode cX3_choose 46 = .ok (.if_icmp .ge 101, 3) := by decide +kernel
theorem dX3_choose_49 : decode cX3_choose 49 = .ok (.iload 4, 2) := by decide +kernel
theorem dX3_choose_51 : decode cX3_choose 51 = .ok (.iload 5, 2) := by decide +kernel
theorem dX3_choose_53 : decode cX3_choose 53 = .ok (.ishr, 1) := by decide +kernel
theorem dX3_choose_54 : decode cX3_choose 54 = .ok (.iconst 1, 1) := by decide +kernel
theorem dX3_choose_55 : decode cX3_choose 55 = .ok (.iand, 1) := by decide +kernel
theorem dX3_choose_56 : decode cX3_choose 56 = .ok (.ifCond .ne 6, 3) := by decide +kernel
theorem dX3_choose_59 : decode cX3_choose 59 = .ok (.goto 82, 3) := by decide +kernel
theorem dX3_choose_62 : decode cX3_choose 62 = .ok (.aload_n 0, 1) := by decide +kernel
theorem dX3_choose_63 : decode cX3_choose 63 = .ok (.aload_n 0, 1) := by decide +kernel
theorem dX3_choose_64 : decode cX3_choose 64 = .ok (.getfield 22, 3) := by decide +kernel
theorem dX3_choose_67 : decode cX3_choose 67 = .ok (.getfield 83, 3) := by decide +kernel
theorem dX3_choose_70 : decode cX3_choose 70 = .ok (.iload 5, 2) := by decide +kernel
theorem dX3_choose_72 : decode cX3_choose 72 = .ok (.invokevirtual 127, 3) := by decide +kernel
theorem dX3_choose_75 : decode cX3_choose 75 = .ok (.invokevirtual 136, 3) := by decide +kernel
theorem dX3_choose_78 : decode cX3_choose 78 = .ok (.aload_n 0, 1) := by decide +kernel
theorem dX3_choose_79 : decode cX3_choose 79 = .ok (.iload 5, 2) := by decide +kernel
theorem dX3_choose_81 : decode cX3_choose 81 = .ok (.invokevirtual 159, 3) := by decide +kernel
theorem dX3_choose_84 : decode cX3_choose 84 = .ok (.aload_n 0, 1) := by decide +kernel
theorem dX3_choose_85 : decode cX3_choose 85 = .ok (.invokevirtual 162, 3) := by decide +kernel
theorem dX3_choose_88 : decode cX3_choose 88 = .ok (.istore 6, 2) := by decide +kernel
theorem dX3_choose_90 : decode cX3_choose 90 = .ok (.iload 6, 2) := by decide +kernel
theorem dX3_choose_92 : decode cX3_choose 92 = .ok (.iconst (-1), 1) := by decide +kernel
theorem dX3_choose_93 : decode cX3_choose 93 = .ok (.if_icmp .ne 6, 3) := by decide +kernel
theorem dX3_choose_96 : decode cX3_choose 96 = .ok (.goto 45, 3) := by decide +kernel
theorem dX3_choose_99 : decode cX3_choose 99 = .ok (.aload_n 0, 1) := by decide +kernel
theorem dX3_choose_100 : decode cX3_choose 100 = .ok (.aload_n 0, 1) := by decide +kernel
theorem dX3_choose_101 : decode cX3_choose 101 = .ok (.getfield 26, 3) := by decide +kernel
theorem dX3_choose_104 : decode cX3_choose 104 = .ok (.iload 6, 2) := by decide +kernel
theorem dX3_choose_106 : decode cX3_choose 106 = .ok (.invokevirtual 165, 3) := by decide +kernel
theorem dX3_choose_109 : decode cX3_choose 109 = .ok (.aload_n 0, 1) := by decide +kernel
theorem dX3_choose_110 : decode cX3_choose 110 = .ok (.getfield 26, 3) := by decide +kernel
theorem dX3_choose_113 : decode cX3_choose 113 = .ok (.iload 6, 2) := by decide +kernel
theorem dX3_choose_115 : decode cX3_choose 115 = .ok (.invokevirtual 145, 3) := by decide +kernel
theorem dX3_choose_118 : decode cX3_choose 118 = .ok (.invokevirtual 151, 3) := by decide +kernel
theorem dX3_choose_121 : decode cX3_choose 121 = .ok (.lstore 7, 2) := by decide +kernel
theorem dX3_choose_123 : decode cX3_choose 123 = .ok (.iload_n 1, 1) := by decide +kernel
theorem dX3_choose_124 : decode cX3_choose 124 = .ok (.iconst (-1), 1) := by decide +kernel
theorem dX3_choose_125 : decode cX3_choose 125 = .ok (.if_icmp .eq 10, 3) := by decide +kernel
theorem dX3_choose_128 : decode cX3_choose 128 = .ok (.lload 7, 2) := by decide +kernel
theorem dX3_choose_130 : decode cX3_choose 130 = .ok (.lload_n 2, 1) := by decide +kernel
theorem dX3_choose_131 : decode cX3_choose 131 = .ok (.lcmp, 1) := by decide +kernel
theorem dX3_choose_132 : decode cX3_choose 132 = .ok (.ifCond .le 9, 3) := by decide +kernel
theorem dX3_choose_135 : decode cX3_choose 135 = .ok (.iload 5, 2) := by decide +kernel
theorem dX3_choose_137 : decode cX3_choose 137 = .ok (.istore_n 1, 1) := by decide +kernel
theorem dX3_choose_138 : decode cX3_choose 138 = .ok (.lload 7, 2) := by decide +kernel
theorem dX3_choose_140 : decode cX3_choose 140 = .ok (.lstore_n 2, 1) := by decide +kernel
theorem dX3_choose_141 : decode cX3_choose 141 = .ok (.iinc 5 1, 3) := by decide +kernel
theorem dX3_choose_144 : decode cX3_choose 144 = .ok (.goto (-110), 3) := by decide +kernel
theorem dX3_choose_147 : decode cX3_choose 147 = .ok (.iload_n 1, 1) := by decide +kernel
theorem dX3_choose_148 : decode cX3_choose 148 = .ok (.ireturn, 1) := by decide +kernel
theorem dX3_evaluate_0 : decode cX3_evaluate 0 = .ok (.aload_n 0, 1) := by decide +kernel
theorem dX3_evaluate_1 : decode cX3_evaluate 1 = .ok (.getfield 26, 3) := by decide +kernel
theorem dX3_evaluate_4 : decode cX3_evaluate 4 = .ok (.getfield 171, 3) := by decide +kernel
theorem dX3_evaluate_7 : decode cX3_evaluate 7 = .ok (.astore_n 3, 1) := by decide +kernel
theorem dX3_evaluate_8 : decode cX3_evaluate 8 = .ok (.iconst 0, 1) := by decide +kernel
theorem dX3_evaluate_9 : decode cX3_evaluate 9 = .ok (.istore 4, 2) := by decide +kernel
theorem dX3_evaluate_11 : decode cX3_evaluate 11 = .ok (.iload_n 1, 1) := by decide +kernel
theorem dX3_evaluate_12 : decode cX3_evaluate 12 = .ok (.istore 5, 2) := by decide +kernel
theorem dX3_evaluate_14 : decode cX3_evaluate 14 = .ok (.iload 5, 2) := by decide +kernel
theorem dX3_evaluate_16 : decode cX3_evaluate 16 = .ok (.iload_n 2, 1) := by decide +kernel
theorem dX3_evaluate_17 : decode cX3_evaluate 17 = .ok (.if_icmp .ge 147, 3) := by decide +kernel
theorem dX3_evaluate_20 : decode cX3_evaluate 20 = .ok (.iload 5, 2) := by decide +kernel
theorem dX3_evaluate_22 : decode cX3_evaluate 22 = .ok (.aload_n 3, 1) := by decide +kernel
theorem dX3_evaluate_23 : decode cX3_evaluate 23 = .ok (.arraylength, 1) := by decide +kernel
theorem dX3_evaluate_24 : decode cX3_evaluate 24 = .ok (.if_icmp .ge 140, 3) := by decide +kernel
theorem dX3_evaluate_27 : decode cX3_evaluate 27 = .ok (.aload_n 3, 1) := by decide +kernel
theorem dX3_evaluate_28 : decode cX3_evaluate 28 = .ok (.iload 5, 2) := by decide +kernel
theorem dX3_evaluate_30 : decode cX3_evaluate 30 = .ok (.iaload, 1) := by decide +kernel
theorem dX3_evaluate_31 : decode cX3_evaluate 31 = .ok (.istore 6, 2) := by decide +kernel
theorem dX3_evaluate_33 : decode cX3_evaluate 33 = .ok (.iload 6, 2) := by decide +kernel
theorem dX3_evaluate_35 : decode cX3_evaluate 35 = .ok (.bipush (-21), 2) := by decide +kernel
theorem dX3_evaluate_37 : decode cX3_evaluate 37 = .ok (.if_icmp .le 46, 3) := by decide +kernel
theorem dX3_evaluate_40 : decode cX3_evaluate 40 = .ok (.iload 4, 2) := by decide +kernel
theorem dX3_evaluate_42 : decode cX3_evaluate 42 = .ok (.aload_n 0, 1) := by decide +kernel
theorem dX3_evaluate_43 : decode cX3_evaluate 43 = .ok (.getfield 9, 3) := by decide +kernel
theorem dX3_evaluate_46 : decode cX3_evaluate 46 = .ok (.arraylength, 1) := by decide +kernel
theorem dX3_evaluate_47 : decode cX3_evaluate 47 = .ok (.if_icmp .ge 111, 3) := by decide +kernel
theorem dX3_evaluate_50 : decode cX3_evaluate 50 = .ok (.aload_n 0, 1) := by decide +kernel
theorem dX3_evaluate_51 : decode cX3_evaluate 51 = .ok (.getfield 9, 3) := by decide +kernel
theorem dX3_evaluate_54 : decode cX3_evaluate 54 = .ok (.iload 4, 2) := by decide +kernel
theorem dX3_evaluate_56 : decode cX3_evaluate 56 = .ok (.iload 6, 2) := by decide +kernel
theorem dX3_evaluate_58 : decode cX3_evaluate 58 = .ok (.ifCond .lt 9, 3) := by decide +kernel
theorem dX3_evaluate_61 : decode cX3_evaluate 61 = .ok (.iload 6, 2) := by decide +kernel
theorem dX3_evaluate_63 : decode cX3_evaluate 63 = .ok (.i2l, 1) := by decide +kernel
theorem dX3_evaluate_64 : decode cX3_evaluate 64 = .ok (.goto 12, 3) := by decide +kernel
theorem dX3_evaluate_67 : decode cX3_evaluate 67 = .ok (.aload_n 0, 1) := by decide +kernel
theorem dX3_evaluate_68 : decode cX3_evaluate 68 = .ok (.getfield 32, 3) := by decide +kernel
theorem dX3_evaluate_71 : decode cX3_evaluate 71 = .ok (.iconst (-1), 1) := by decide +kernel
theorem dX3_evaluate_72 : decode cX3_evaluate 72 = .ok (.iload 6, 2) := by decide +kernel
theorem dX3_evaluate_74 : decode cX3_evaluate 74 = .ok (.isub, 1) := by decide +kernel
theorem dX3_evaluate_75 : decode cX3_evaluate 75 = .ok (.laload, 1) := by decide +kernel
theorem dX3_evaluate_76 : decode cX3_evaluate 76 = .ok (.lastore, 1) := by decide +kernel
theorem dX3_evaluate_77 : decode cX3_evaluate 77 = .ok (.iinc 4 1, 3) := by decide +kernel
theorem dX3_evaluate_80 : decode cX3_evaluate 80 = .ok (.goto 78, 3) := by decide +kernel
theorem dX3_evaluate_83 : decode cX3_evaluate 83 = .ok (.iload 6, 2) := by decide +kernel
theorem dX3_evaluate_85 : decode cX3_evaluate 85 = .ok (.bipush (-32), 2) := by decide +kernel
theorem dX3_evaluate_87 : decode cX3_evaluate 87 = .ok (.if_icmp .ne 32, 3) := by decide +kernel
theorem dX3_evaluate_90 : decode cX3_evaluate 90 = .ok (.iload 4, 2) := by decide +kernel
theorem dX3_evaluate_92 : decode cX3_evaluate 92 = .ok (.iconst 1, 1) := by decide +kernel
theorem dX3_evaluate_93 : decode cX3_evaluate 93 = .ok (.if_icmp .lt 65, 3) := by decide +kernel
theorem dX3_evaluate_96 : decode cX3_evaluate 96 = .ok (.aload_n 0, 1) := by decide +kernel
theorem dX3_evaluate_97 : decode cX3_evaluate 97 = .ok (.getfield 9, 3) := by decide +kernel
theorem dX3_evaluate_100 : decode cX3_evaluate 100 = .ok (.iload 4, 2) := by decide +kernel
theorem dX3_evaluate_102 : decode cX3_evaluate 102 = .ok (.iconst 1, 1) := by decide +kernel
theorem dX3_evaluate_103 : decode cX3_evaluate 103 = .ok (.isub, 1) := by decide +kernel
theorem dX3_evaluate_104 : decode cX3_evaluate 104 = .ok (.lconst 1, 1) := by decide +kernel
theorem dX3_evaluate_105 : decode cX3_evaluate 105 = .ok (.aload_n 0, 1) := by decide +kernel
theorem dX3_evaluate_106 : decode cX3_evaluate 106 = .ok (.getfield 9, 3) := by decide +kernel
theorem dX3_evaluate_109 : decode cX3_evaluate 109 = .ok (.iload 4, 2) := by decide +kernel
theorem dX3_evaluate_111 : decode cX3_evaluate 111 = .ok (.iconst 1, 1) := by decide +kernel
theorem dX3_evaluate_112 : decode cX3_evaluate 112 = .ok (.isub, 1) := by decide +kernel
theorem dX3_evaluate_113 : decode cX3_evaluate 113 = .ok (.laload, 1) := by decide +kernel
theorem dX3_evaluate_114 : decode cX3_evaluate 114 = .ok (.lsub, 1) := by decide +kernel
theorem dX3_evaluate_115 : decode cX3_evaluate 115 = .ok (.lastore, 1) := by decide +kernel
theorem dX3_evaluate_116 : decode cX3_evaluate 116 = .ok (.goto 42, 3) := by decide +kernel
theorem dX3_evaluate_119 : decode cX3_evaluate 119 = .ok (.iload 4, 2) := by decide +kernel
theorem dX3_evaluate_121 : decode cX3_evaluate 121 = .ok (.iconst 2, 1) := by decide +kernel
theorem dX3_evaluate_122 : decode cX3_evaluate 122 = .ok (.if_icmp .lt 36, 3) := by decide +kernel
theorem dX3_evaluate_125 : decode cX3_evaluate 125 = .ok (.iinc 4 (-1), 3) := by decide +kernel
theorem dX3_evaluate_128 : decode cX3_evaluate 128 = .ok (.aload_n 0, 1) := by decide +kernel
theorem dX3_evaluate_129 : decode cX3_evaluate 129 = .ok (.getfield 9, 3) := by decide +kernel
theorem dX3_evaluate_132 : decode cX3_evaluate 132 = .ok (.iload 4, 2) := by decide +kernel
theorem dX3_evaluate_134 : decode cX3_evaluate 134 = .ok (.iconst 1, 1) := by decide +kernel
theorem dX3_evaluate_135 : decode cX3_evaluate 135 = .ok (.isub, 1) := by decide +kernel
theorem dX3_evaluate_136 : decode cX3_evaluate 136 = .ok (.iload 6, 2) := by decide +kernel
theorem dX3_evaluate_138 : decode cX3_evaluate 138 = .ok (.aload_n 0, 1) := by decide +kernel
theorem dX3_evaluate_139 : decode cX3_evaluate 139 = .ok (.getfield 9, 3) := by decide +kernel
theorem dX3_evaluate_142 : decode cX3_evaluate 142 = .ok (.iload 4, 2) := by decide +kernel
theorem dX3_evaluate_144 : decode cX3_evaluate 144 = .ok (.iconst 1, 1) := by decide +kernel
theorem dX3_evaluate_145 : decode cX3_evaluate 145 = .ok (.isub, 1) := by decide +kernel
theorem dX3_evaluate_146 : decode cX3_evaluate 146 = .ok (.laload, 1) := by decide +kernel
theorem dX3_evaluate_147 : decode cX3_evaluate 147 = .ok (.aload_n 0, 1) := by decide +kernel
theorem dX3_evaluate_148 : decode cX3_evaluate 148 = .ok (.getfield 9, 3) := by decide +kernel
theorem dX3_evaluate_151 : decode cX3_evaluate 151 = .ok (.iload 4, 2) := by decide +kernel
theorem dX3_evaluate_153 : decode cX3_evaluate 153 = .ok (.laload, 1) := by decide +kernel
theorem dX3_evaluate_154 : decode cX3_evaluate 154 = .ok (.invokestatic 174, 3) := by decide +kernel
theorem dX3_evaluate_157 : decode cX3_evaluate 157 = .ok (.lastore, 1) := by decide +kernel
theorem dX3_evaluate_158 : decode cX3_evaluate 158 = .ok (.iinc 5 1, 3) := by decide +kernel
theorem dX3_evaluate_161 : decode cX3_evaluate 161 = .ok (.goto (-147), 3) := by decide +kernel
theorem dX3_evaluate_164 : decode cX3_evaluate 164 = .ok (.iload 4, 2) := by decide +kernel
theorem dX3_evaluate_166 : decode cX3_evaluate 166 = .ok (.ifCond .le 12, 3) := by decide +kernel
theorem dX3_evaluate_169 : decode cX3_evaluate 169 = .ok (.aload_n 0, 1) := by decide +kernel
theorem dX3_evaluate_170 : decode cX3_evaluate 170 = .ok (.getfield 9, 3) := by decide +kernel
theorem dX3_evaluate_173 : decode cX3_evaluate 173 = .ok (.iconst 0, 1) := by decide +kernel
theorem dX3_evaluate_174 : decode cX3_evaluate 174 = .ok (.laload, 1) := by decide +kernel
theorem dX3_evaluate_175 : decode cX3_evaluate 175 = .ok (.goto 4, 3) := by decide +kernel
theorem dX3_evaluate_178 : decode cX3_evaluate 178 = .ok (.lconst 0, 1) := by decide +kernel
theorem dX3_evaluate_179 : decode cX3_evaluate 179 = .ok (.lreturn, 1) := by decide +kernel
theorem dX3_findFar_0 : decode cX3_findFar 0 = .ok (.aload_n 0, 1) := by decide +kernel
theorem dX3_findFar_1 : decode cX3_findFar 1 = .ok (.getfield 22, 3) := by decide +kernel
theorem dX3_findFar_4 : decode cX3_findFar 4 = .ok (.getfield 83, 3) := by decide +kernel
theorem dX3_findFar_7 : decode cX3_findFar 7 = .ok (.astore_n 2, 1) := by decide +kernel
theorem dX3_findFar_8 : decode cX3_findFar 8 = .ok (.aload_n 0, 1) := by decide +kernel
theorem dX3_findFar_9 : decode cX3_findFar 9 = .ok (.getfield 19, 3) := by decide +kernel
theorem dX3_findFar_12 : decode cX3_findFar 12 = .ok (.iload_n 1, 1) := by decide +kernel
theorem dX3_findFar_13 : decode cX3_findFar 13 = .ok (.iaload, 1) := by decide +kernel
theorem dX3_findFar_14 : decode cX3_findFar 14 = .ok (.aload_n 2, 1) := by decide +kernel
theorem dX3_findFar_15 : decode cX3_findFar 15 = .ok (.getfield 197, 3) := by decide +kernel
theorem dX3_findFar_18 : decode cX3_findFar 18 = .ok (.if_icmp .ne 4, 3) := by decide +kernel
theorem dX3_findFar_21 : decode cX3_findFar 21 = .ok (.return_, 1) := by decide +kernel
theorem dX3_findFar_22 : decode cX3_findFar 22 = .ok (.aload_n 0, 1) := by decide +kernel
theorem dX3_findFar_23 : decode cX3_findFar 23 = .ok (.getfield 19, 3) := by decide +kernel
theorem dX3_findFar_26 : decode cX3_findFar 26 = .ok (.iload_n 1, 1) := by decide +kernel
theorem dX3_findFar_27 : decode cX3_findFar 27 = .ok (.aload_n 2, 1) := by decide +kernel
theorem dX3_findFar_28 : decode cX3_findFar 28 = .ok (.getfield 197, 3) := by decide +kernel
theorem dX3_findFar_31 : decode cX3_findFar 31 = .ok (.iastore, 1) := by decide +kernel
theorem dX3_findFar_32 : decode cX3_findFar 32 = .ok (.bipush 15, 2) := by decide +kernel
theorem dX3_findFar_34 : decode cX3_findFar 34 = .ok (.iconst 4, 1) := by decide +kernel
theorem dX3_findFar_35 : decode cX3_findFar 35 = .ok (.iload_n 1, 1) := by decide +kernel
theorem dX3_findFar_36 : decode cX3_findFar 36 = .ok (.imul, 1) := by decide +kernel
theorem dX3_findFar_37 : decode cX3_findFar 37 = .ok (.ishl, 1) := by decide +kernel
theorem dX3_findFar_38 : decode cX3_findFar 38 = .ok (.iconst (-1), 1) := by decide +kernel
theorem dX3_findFar_39 : decode cX3_findFar 39 = .ok (.ixor, 1) := by decide +kernel
theorem dX3_findFar_40 : decode cX3_findFar 40 = .ok (.istore_n 3, 1) := by decide +kernel
theorem dX3_findFar_41 : decode cX3_findFar 41 = .ok (.iconst 1, 1) := by decide +kernel
theorem dX3_findFar_42 : decode cX3_findFar 42 = .ok (.iload_n 1, 1) := by decide +kernel
theorem dX3_findFar_43 : decode cX3_findFar 43 = .ok (.ishl, 1) := by decide +kernel
theorem dX3_findFar_44 : decode cX3_findFar 44 = .ok (.istore 4, 2) := by decide +kernel
theorem dX3_findFar_46 : decode cX3_findFar 46 = .ok (.iconst 1, 1) := by decide +kernel
theorem dX3_findFar_47 : decode cX3_findFar 47 = .ok (.istore 5, 2) := by decide +kernel
theorem dX3_findFar_49 : decode cX3_findFar 49 = .ok (.iload 5, 2) := by decide +kernel
theorem dX3_findFar_51 : decode cX3_findFar 51 = .ok (.bipush 8, 2) := by decide +kernel
theorem dX3_findFar_53 : decode cX3_findFar 53 = .ok (.if_icmp .ge 85, 3) := by decide +kernel
theorem dX3_findFar_56 : decode cX3_findFar 56 = .ok (.iload 4, 2) := by decide +kernel
theorem dX3_findFar_58 : decode cX3_findFar 58 = .ok (.istore 6, 2) := by decide +kernel
theorem dX3_findFar_60 : decode cX3_findFar 60 = .ok (.iconst 0, 1) := by decide +kernel
theorem dX3_findFar_61 : decode cX3_findFar 61 = .ok (.istore 7, 2) := by decide +kernel
theorem dX3_findFar_63 : decode cX3_findFar 63 = .ok (.iload 7, 2) := by decide +kernel
theorem dX3_findFar_65 : decode cX3_findFar 65 = .ok (.aload_n 2, 1) := by decide +kernel
theorem dX3_findFar_66 : decode cX3_findFar 66 = .ok (.getfield 158, 3) := by decide +kernel
theorem dX3_findFar_69 : decode cX3_findFar 69 = .ok (.if_icmp .ge 63, 3) := by decide +kernel
theorem dX3_findFar_72 : decode cX3_findFar 72 = .ok (.aload_n 2, 1) := by decide +kernel
theorem dX3_findFar_73 : decode cX3_findFar 73 = .ok (.iload 7, 2) := by decide +kernel
theorem dX3_findFar_75 : decode cX3_findFar 75 = .ok (.invokevirtual 200, 3) := by decide +kernel
theorem dX3_findFar_78 : decode cX3_findFar 78 = .ok (.istore 8, 2) := by decide +kernel
theorem dX3_findFar_80 : decode cX3_findFar 80 = .ok (.iload 6, 2) := by decide +kernel
theorem dX3_findFar_82 : decode cX3_findFar 82 = .ok (.aload_n 2, 1) := by decide +kernel
theorem dX3_findFar_83 : decode cX3_findFar 83 = .ok (.iload 7, 2) := by decide +kernel
theorem dX3_findFar_85 : decode cX3_findFar 85 = .ok (.invokevirtual 127, 3) := by decide +kernel
theorem dX3_findFar_88 : decode cX3_findFar 88 = .ok (.ishr, 1) := by decide +kernel
theorem dX3_findFar_89 : decode cX3_findFar 89 = .ok (.iconst 1, 1) := by decide +kernel
theorem dX3_findFar_90 : decode cX3_findFar 90 = .ok (.iand, 1) := by decide +kernel
theorem dX3_findFar_91 : decode cX3_findFar 91 = .ok (.ifCond .eq 35, 3) := by decide +kernel
theorem dX3_findFar_94 : decode cX3_findFar 94 = .ok (.iload 4, 2) := by decide +kernel
theorem dX3_findFar_96 : decode cX3_findFar 96 = .ok (.iload 8, 2) := by decide +kernel
theorem dX3_findFar_98 : decode cX3_findFar 98 = .ok (.ishr, 1) := by decide +kernel
theorem dX3_findFar_99 : decode cX3_findFar 99 = .ok (.iconst 1, 1) := by decide +kernel
theorem dX3_findFar_100 : decode cX3_findFar 100 = .ok (.iand, 1) := by decide +kernel
theorem dX3_findFar_101 : decode cX3_findFar 101 = .ok (.ifCond .ne 25, 3) := by decide +kernel
theorem dX3_findFar_104 : decode cX3_findFar 104 = .ok (.iload 4, 2) := by decide +kernel
theorem dX3_findFar_106 : decode cX3_findFar 106 = .ok (.iconst 1, 1) := by decide +kernel
theorem dX3_findFar_107 : decode cX3_findFar 107 = .ok (.iload 8, 2) := by decide +kernel
theorem dX3_findFar_109 : decode cX3_findFar 109 = .ok (.ishl, 1) := by decide +kernel
theorem dX3_findFar_110 : decode cX3_findFar 110 = .ok (.ior, 1) := by decide +kernel
theorem dX3_findFar_111 : decode cX3_findFar 111 = .ok (.istore 4, 2) := by decide +kernel
theorem dX3_findFar_113 : decode cX3_findFar 113 = .ok (.iload_n 3, 1) := by decide +kernel
theorem dX3_findFar_114 : decode cX3_findFar 114 = .ok (.bipush 15, 2) := by decide +kernel
theorem dX3_findFar_116 : decode cX3_findFar 116 = .ok (.iload 5, 2) := by decide +kernel
theorem dX3_findFar_118 : decode cX3_findFar 118 = .ok (.ixor, 1) := by decide +kernel
theorem dX3_findFar_119 : decode cX3_findFar 119 = .ok (.iconst 4, 1) := by decide +kernel
theorem dX3_findFar_120 : decode cX3_findFar 120 = .ok (.iload 8, 2) := by decide +kernel
theorem dX3_findFar_122 : decode cX3_findFar 122 = .ok (.imul, 1) := by decide +kernel
theorem dX3_findFar_123 : decode cX3_findFar 123 = .ok (.ishl, 1) := by decide +kernel
theorem dX3_findFar_124 : decode cX3_findFar 124 = .ok (.ixor, 1) := by decide +kernel
theorem dX3_findFar_125 : decode cX3_findFar 125 = .ok (.istore_n 3, 1) := by decide +kernel
theorem dX3_findFar_126 : decode cX3_findFar 126 = .ok (.iinc 7 1, 3) := by decide +kernel
theorem dX3_findFar_129 : decode cX3_findFar 129 = .ok (.goto (-66), 3) := by decide +kernel
theorem dX3_findFar_132 : decode cX3_findFar 132 = .ok (.iinc 5 1, 3) := by decide +kernel
theorem dX3_findFar_135 : decode cX3_findFar 135 = .ok (.goto (-86), 3) := by decide +kernel
theorem dX3_findFar_138 : decode cX3_findFar 138 = .ok (.aload_n 0, 1) := by decide +kernel
theorem dX3_findFar_139 : decode cX3_findFar 139 = .ok (.getfield 15, 3) := by decide +kernel
theorem dX3_findFar_142 : decode cX3_findFar 142 = .ok (.iload_n 1, 1) := by decide +kernel
theorem dX3_findFar_143 : decode cX3_findFar 143 = .ok (.iload_n 3, 1) := by decide +kernel
theorem dX3_findFar_144 : decode cX3_findFar 144 = .ok (.iastore, 1) := by decide +kernel
theorem dX3_findFar_145 : decode cX3_findFar 145 = .ok (.return_, 1) := by decide +kernel
theorem dX3_init_0 : decode cX3_init 0 = .ok (.aload_n 0, 1) := by decide +kernel
theorem dX3_init_1 : decode cX3_init 1 = .ok (.invokespecial 3, 3) := by decide +kernel
theorem dX3_init_4 : decode cX3_init 4 = .ok (.aload_n 0, 1) := by decide +kernel
theorem dX3_init_5 : decode cX3_init 5 = .ok (.bipush 64, 2) := by decide +kernel
theorem dX3_init_7 : decode cX3_init 7 = .ok (.newarray .long, 2) := by decide +kernel
theorem dX3_init_9 : decode cX3_init 9 = .ok (.putfield 9, 3) := by decide +kernel
theorem dX3_init_12 : decode cX3_init 12 = .ok (.aload_n 0, 1) := by decide +kernel
theorem dX3_init_13 : decode cX3_init 13 = .ok (.bipush 8, 2) := by decide +kernel
theorem dX3_init_15 : decode cX3_init 15 = .ok (.newarray .int, 2) := by decide +kernel
theorem dX3_init_17 : decode cX3_init 17 = .ok (.putfield 15, 3) := by decide +kernel
theorem dX3_init_20 : decode cX3_init 20 = .ok (.aload_n 0, 1) := by decide +kernel
theorem dX3_init_21 : decode cX3_init 21 = .ok (.bipush 8, 2) := by decide +kernel
theorem dX3_init_23 : decode cX3_init 23 = .ok (.newarray .int, 2) := by decide +kernel
theorem dX3_init_25 : decode cX3_init 25 = .ok (.putfield 19, 3) := by decide +kernel
theorem dX3_init_28 : decode cX3_init 28 = .ok (.aload_n 0, 1) := by decide +kernel
theorem dX3_init_29 : decode cX3_init 29 = .ok (.aconst_null, 1) := by decide +kernel
theorem dX3_init_30 : decode cX3_init 30 = .ok (.putfield 22, 3) := by decide +kernel
theorem dX3_init_33 : decode cX3_init 33 = .ok (.aload_n 0, 1) := by decide +kernel
theorem dX3_init_34 : decode cX3_init 34 = .ok (.aconst_null, 1) := by decide +kernel
theorem dX3_init_35 : decode cX3_init 35 = .ok (.putfield 26, 3) := by decide +kernel
theorem dX3_init_38 : decode cX3_init 38 = .ok (.aload_n 0, 1) := by decide +kernel
theorem dX3_init_39 : decode cX3_init 39 = .ok (.bipush 12, 2) := by decide +kernel
theorem dX3_init_41 : decode cX3_init 41 = .ok (.newarray .long, 2) := by decide +kernel
theorem dX3_init_43 : decode cX3_init 43 = .ok (.putfield 32, 3) := by decide +kernel
theorem dX3_init_46 : decode cX3_init 46 = .ok (.aload_n 0, 1) := by decide +kernel
theorem dX3_init_47 : decode cX3_init 47 = .ok (.iconst 0, 1) := by decide +kernel
theorem dX3_init_48 : decode cX3_init 48 = .ok (.putfield 35, 3) := by decide +kernel
theorem dX3_init_51 : decode cX3_init 51 = .ok (.return_, 1) := by decide +kernel
theorem dX3_joined_0 : decode cX3_joined 0 = .ok (.iload_n 0, 1) := by decide +kernel
theorem dX3_joined_1 : decode cX3_joined 1 = .ok (.tableswitch 145 (-30) (-21) #[141, 129, 117, 105, 93, 81, 67, 63, 59, 55], 55) := by decide +kernel
theorem dX3_joined_56 : decode cX3_joined 56 = .ok (.lload_n 1, 1) := by decide +kernel
theorem dX3_joined_57 : decode cX3_joined 57 = .ok (.lload_n 3, 1) := by decide +kernel
theorem dX3_joined_58 : decode cX3_joined 58 = .ok (.ladd, 1) := by decide +kernel
theorem dX3_joined_59 : decode cX3_joined 59 = .ok (.lreturn, 1) := by decide +kernel
theorem dX3_joined_60 : decode cX3_joined 60 = .ok (.lload_n 1, 1) := by decide +kernel
theorem dX3_joined_61 : decode cX3_joined 61 = .ok (.lload_n 3, 1) := by decide +kernel
theorem dX3_joined_62 : decode cX3_joined 62 = .ok (.lsub, 1) := by decide +kernel
theorem dX3_joined_63 : decode cX3_joined 63 = .ok (.lreturn, 1) := by decide +kernel
theorem dX3_joined_64 : decode cX3_joined 64 = .ok (.lload_n 1, 1) := by decide +kernel
theorem dX3_joined_65 : decode cX3_joined 65 = .ok (.lload_n 3, 1) := by decide +kernel
theorem dX3_joined_66 : decode cX3_joined 66 = .ok (.lmul, 1) := by decide +kernel
theorem dX3_joined_67 : decode cX3_joined 67 = .ok (.lreturn, 1) := by decide +kernel
theorem dX3_joined_68 : decode cX3_joined 68 = .ok (.lload_n 3, 1) := by decide +kernel
theorem dX3_joined_69 : decode cX3_joined 69 = .ok (.lconst 0, 1) := by decide +kernel
theorem dX3_joined_70 : decode cX3_joined 70 = .ok (.lcmp, 1) := by decide +kernel
theorem dX3_joined_71 : decode cX3_joined 71 = .ok (.ifCond .ne 7, 3) := by decide +kernel
theorem dX3_joined_74 : decode cX3_joined 74 = .ok (.lconst 0, 1) := by decide +kernel
theorem dX3_joined_75 : decode cX3_joined 75 = .ok (.goto 6, 3) := by decide +kernel
theorem dX3_joined_78 : decode cX3_joined 78 = .ok (.lload_n 1, 1) := by decide +kernel
theorem dX3_joined_79 : decode cX3_joined 79 = .ok (.lload_n 3, 1) := by decide +kernel
theorem dX3_joined_80 : decode cX3_joined 80 = .ok (.ldiv, 1) := by decide +kernel
theorem dX3_joined_81 : decode cX3_joined 81 = .ok (.lreturn, 1) := by decide +kernel
theorem dX3_joined_82 : decode cX3_joined 82 = .ok (.lload_n 1, 1) := by decide +kernel
theorem dX3_joined_83 : decode cX3_joined 83 = .ok (.lload_n 3, 1) := by decide +kernel
theorem dX3_joined_84 : decode cX3_joined 84 = .ok (.lcmp, 1) := by decide +kernel
theorem dX3_joined_85 : decode cX3_joined 85 = .ok (.ifCond .ge 7, 3) := by decide +kernel
theorem dX3_joined_88 : decode cX3_joined 88 = .ok (.lconst 1, 1) := by decide +kernel
theorem dX3_joined_89 : decode cX3_joined 89 = .ok (.goto 4, 3) := by decide +kernel
theorem dX3_joined_92 : decode cX3_joined 92 = .ok (.lconst 0, 1) := by decide +kernel
theorem dX3_joined_93 : decode cX3_joined 93 = .ok (.lreturn, 1) := by decide +kernel
theorem dX3_joined_94 : decode cX3_joined 94 = .ok (.lload_n 1, 1) := by decide +kernel
theorem dX3_joined_95 : decode cX3_joined 95 = .ok (.lload_n 3, 1) := by decide +kernel
theorem dX3_joined_96 : decode cX3_joined 96 = .ok (.lcmp, 1) := by decide +kernel
theorem dX3_joined_97 : decode cX3_joined 97 = .ok (.ifCond .gt 7, 3) := by decide +kernel
theorem dX3_joined_100 : decode cX3_joined 100 = .ok (.lconst 1, 1) := by decide +kernel
theorem dX3_joined_101 : decode cX3_joined 101 = .ok (.goto 4, 3) := by decide +kernel
theorem dX3_joined_104 : decode cX3_joined 104 = .ok (.lconst 0, 1) := by decide +kernel
theorem dX3_joined_105 : decode cX3_joined 105 = .ok (.lreturn, 1) := by decide +kernel
theorem dX3_joined_106 : decode cX3_joined 106 = .ok (.lload_n 1, 1) := by decide +kernel
theorem dX3_joined_107 : decode cX3_joined 107 = .ok (.lload_n 3, 1) := by decide +kernel
theorem dX3_joined_108 : decode cX3_joined 108 = .ok (.lcmp, 1) := by decide +kernel
theorem dX3_joined_109 : decode cX3_joined 109 = .ok (.ifCond .ne 7, 3) := by decide +kernel
theorem dX3_joined_112 : decode cX3_joined 112 = .ok (.lconst 1, 1) := by decide +kernel
theorem dX3_joined_113 : decode cX3_joined 113 = .ok (.goto 4, 3) := by decide +kernel
theorem dX3_joined_116 : decode cX3_joined 116 = .ok (.lconst 0, 1) := by decide +kernel
theorem dX3_joined_117 : decode cX3_joined 117 = .ok (.lreturn, 1) := by decide +kernel
theorem dX3_joined_118 : decode cX3_joined 118 = .ok (.lload_n 1, 1) := by decide +kernel
theorem dX3_joined_119 : decode cX3_joined 119 = .ok (.lload_n 3, 1) := by decide +kernel
theorem dX3_joined_120 : decode cX3_joined 120 = .ok (.lcmp, 1) := by decide +kernel
theorem dX3_joined_121 : decode cX3_joined 121 = .ok (.ifCond .lt 7, 3) := by decide +kernel
theorem dX3_joined_124 : decode cX3_joined 124 = .ok (.lconst 1, 1) := by decide +kernel
theorem dX3_joined_125 : decode cX3_joined 125 = .ok (.goto 4, 3) := by decide +kernel
theorem dX3_joined_128 : decode cX3_joined 128 = .ok (.lconst 0, 1) := by decide +kernel
theorem dX3_joined_129 : decode cX3_joined 129 = .ok (.lreturn, 1) := by decide +kernel
theorem dX3_joined_130 : decode cX3_joined 130 = .ok (.lload_n 1, 1) := by decide +kernel
theorem dX3_joined_131 : decode cX3_joined 131 = .ok (.lload_n 3, 1) := by decide +kernel
theorem dX3_joined_132 : decode cX3_joined 132 = .ok (.lcmp, 1) := by decide +kernel
theorem dX3_joined_133 : decode cX3_joined 133 = .ok (.ifCond .le 7, 3) := by decide +kernel
theorem dX3_joined_136 : decode cX3_joined 136 = .ok (.lconst 1, 1) := by decide +kernel
theorem dX3_joined_137 : decode cX3_joined 137 = .ok (.goto 4, 3) := by decide +kernel
theorem dX3_joined_140 : decode cX3_joined 140 = .ok (.lconst 0, 1) := by decide +kernel
theorem dX3_joined_141 : decode cX3_joined 141 = .ok (.lreturn, 1) := by decide +kernel
theorem dX3_joined_142 : decode cX3_joined 142 = .ok (.lload_n 1, 1) := by decide +kernel
theorem dX3_joined_143 : decode cX3_joined 143 = .ok (.lload_n 3, 1) := by decide +kernel
theorem dX3_joined_144 : decode cX3_joined 144 = .ok (.land, 1) := by decide +kernel
theorem dX3_joined_145 : decode cX3_joined 145 = .ok (.lreturn, 1) := by decide +kernel
theorem dX3_joined_146 : decode cX3_joined 146 = .ok (.lload_n 1, 1) := by decide +kernel
theorem dX3_joined_147 : decode cX3_joined 147 = .ok (.lload_n 3, 1) := by decide +kernel
theorem dX3_joined_148 : decode cX3_joined 148 = .ok (.lor, 1) := by decide +kernel
theorem dX3_joined_149 : decode cX3_joined 149 = .ok (.lreturn, 1) := by decide +kernel
theorem dX3_lookAtPlace_0 : decode cX3_lookAtPlace 0 = .ok (.aload_n 0, 1) := by decide +kernel
theorem dX3_lookAtPlace_1 : decode cX3_lookAtPlace 1 = .ok (.getfield 32, 3) := by decide +kernel
theorem dX3_lookAtPlace_4 : decode cX3_lookAtPlace 4 = .ok (.iconst 4, 1) := by decide +kernel
theorem dX3_lookAtPlace_5 : decode cX3_lookAtPlace 5 = .ok (.iload_n 1, 1) := by decide +kernel
theorem dX3_lookAtPlace_6 : decode cX3_lookAtPlace 6 = .ok (.i2l, 1) := by decide +kernel
theorem dX3_lookAtPlace_7 : decode cX3_lookAtPlace 7 = .ok (.lastore, 1) := by decide +kernel
theorem dX3_lookAtPlace_8 : decode cX3_lookAtPlace 8 = .ok (.aload_n 0, 1) := by decide +kernel
theorem dX3_lookAtPlace_9 : decode cX3_lookAtPlace 9 = .ok (.getfield 26, 3) := by decide +kernel
theorem dX3_lookAtPlace_12 : decode cX3_lookAtPlace 12 = .ok (.iconst 5, 1) := by decide +kernel
theorem dX3_lookAtPlace_13 : decode cX3_lookAtPlace 13 = .ok (.invokevirtual 112, 3) := by decide +kernel
theorem dX3_lookAtPlace_16 : decode cX3_lookAtPlace 16 = .ok (.ifCond .eq 51, 3) := by decide +kernel
theorem dX3_lookAtPlace_19 : decode cX3_lookAtPlace 19 = .ok (.aload_n 0, 1) := by decide +kernel
theorem dX3_lookAtPlace_20 : decode cX3_lookAtPlace 20 = .ok (.getfield 15, 3) := by decide +kernel
theorem dX3_lookAtPlace_23 : decode cX3_lookAtPlace 23 = .ok (.aload_n 0, 1) := by decide +kernel
theorem dX3_lookAtPlace_24 : decode cX3_lookAtPlace 24 = .ok (.getfield 22, 3) := by decide +kernel
theorem dX3_lookAtPlace_27 : decode cX3_lookAtPlace 27 = .ok (.getfield 39, 3) := by decide +kernel
theorem dX3_lookAtPlace_30 : decode cX3_lookAtPlace 30 = .ok (.getfield 106, 3) := by decide +kernel
theorem dX3_lookAtPlace_33 : decode cX3_lookAtPlace 33 = .ok (.aload_n 0, 1) := by decide +kernel
theorem dX3_lookAtPlace_34 : decode cX3_lookAtPlace 34 = .ok (.getfield 35, 3) := by decide +kernel
theorem dX3_lookAtPlace_37 : decode cX3_lookAtPlace 37 = .ok (.iaload, 1) := by decide +kernel
theorem dX3_lookAtPlace_38 : decode cX3_lookAtPlace 38 = .ok (.iaload, 1) := by decide +kernel
theorem dX3_lookAtPlace_39 : decode cX3_lookAtPlace 39 = .ok (.iconst 4, 1) := by decide +kernel
theorem dX3_lookAtPlace_40 : decode cX3_lookAtPlace 40 = .ok (.iload_n 1, 1) := by decide +kernel
theorem dX3_lookAtPlace_41 : decode cX3_lookAtPlace 41 = .ok (.imul, 1) := by decide +kernel
theorem dX3_lookAtPlace_42 : decode cX3_lookAtPlace 42 = .ok (.ishr, 1) := by decide +kernel
theorem dX3_lookAtPlace_43 : decode cX3_lookAtPlace 43 = .ok (.bipush 15, 2) := by decide +kernel
theorem dX3_lookAtPlace_45 : decode cX3_lookAtPlace 45 = .ok (.iand, 1) := by decide +kernel
theorem dX3_lookAtPlace_46 : decode cX3_lookAtPlace 46 = .ok (.istore_n 2, 1) := by decide +kernel
theorem dX3_lookAtPlace_47 : decode cX3_lookAtPlace 47 = .ok (.aload_n 0, 1) := by decide +kernel
theorem dX3_lookAtPlace_48 : decode cX3_lookAtPlace 48 = .ok (.getfield 32, 3) := by decide +kernel
theorem dX3_lookAtPlace_51 : decode cX3_lookAtPlace 51 = .ok (.iconst 5, 1) := by decide +kernel
theorem dX3_lookAtPlace_52 : decode cX3_lookAtPlace 52 = .ok (.iload_n 2, 1) := by decide +kernel
theorem dX3_lookAtPlace_53 : decode cX3_lookAtPlace 53 = .ok (.bipush 15, 2) := by decide +kernel
theorem dX3_lookAtPlace_55 : decode cX3_lookAtPlace 55 = .ok (.if_icmp .ne 9, 3) := by decide +kernel
theorem dX3_lookAtPlace_58 : decode cX3_lookAtPlace 58 = .ok (.ldc2_w 178, 3) := by decide +kernel
theorem dX3_lookAtPlace_61 : decode cX3_lookAtPlace 61 = .ok (.goto 5, 3) := by decide +kernel
theorem dX3_lookAtPlace_64 : decode cX3_lookAtPlace 64 = .ok (.iload_n 2, 1) := by decide +kernel
theorem dX3_lookAtPlace_65 : decode cX3_lookAtPlace 65 = .ok (.i2l, 1) := by decide +kernel
theorem dX3_lookAtPlace_66 : decode cX3_lookAtPlace 66 = .ok (.lastore, 1) := by decide +kernel
theorem dX3_lookAtPlace_67 : decode cX3_lookAtPlace 67 = .ok (.aload_n 0, 1) := by decide +kernel
theorem dX3_lookAtPlace_68 : decode cX3_lookAtPlace 68 = .ok (.getfield 26, 3) := by decide +kernel
theorem dX3_lookAtPlace_71 : decode cX3_lookAtPlace 71 = .ok (.bipush 6, 2) := by decide +kernel
theorem dX3_lookAtPlace_73 : decode cX3_lookAtPlace 73 = .ok (.invokevirtual 112, 3) := by decide +kernel
theorem dX3_lookAtPlace_76 : decode cX3_lookAtPlace 76 = .ok (.ifCond .eq 25, 3) := by decide +kernel
theorem dX3_lookAtPlace_79 : decode cX3_lookAtPlace 79 = .ok (.aload_n 0, 1) := by decide +kernel
theorem dX3_lookAtPlace_80 : decode cX3_lookAtPlace 80 = .ok (.getfield 32, 3) := by decide +kernel
theorem dX3_lookAtPlace_83 : decode cX3_lookAtPlace 83 = .ok (.bipush 6, 2) := by decide +kernel
theorem dX3_lookAtPlace_85 : decode cX3_lookAtPlace 85 = .ok (.aload_n 0, 1) := by decide +kernel
theorem dX3_lookAtPlace_86 : decode cX3_lookAtPlace 86 = .ok (.getfield 22, 3) := by decide +kernel
theorem dX3_lookAtPlace_89 : decode cX3_lookAtPlace 89 = .ok (.getfield 83, 3) := by decide +kernel
theorem dX3_lookAtPlace_92 : decode cX3_lookAtPlace 92 = .ok (.iload_n 1, 1) := by decide +kernel
theorem dX3_lookAtPlace_93 : decode cX3_lookAtPlace 93 = .ok (.invokevirtual 155, 3) := by decide +kernel
theorem dX3_lookAtPlace_96 : decode cX3_lookAtPlace 96 = .ok (.invokestatic 180, 3) := by decide +kernel
theorem dX3_lookAtPlace_99 : decode cX3_lookAtPlace 99 = .ok (.i2l, 1) := by decide +kernel
theorem dX3_lookAtPlace_100 : decode cX3_lookAtPlace 100 = .ok (.lastore, 1) := by decide +kernel
theorem dX3_lookAtPlace_101 : decode cX3_lookAtPlace 101 = .ok (.aload_n 0, 1) := by decide +kernel
theorem dX3_lookAtPlace_102 : decode cX3_lookAtPlace 102 = .ok (.getfield 26, 3) := by decide +kernel
theorem dX3_lookAtPlace_105 : decode cX3_lookAtPlace 105 = .ok (.bipush 7, 2) := by decide +kernel
theorem dX3_lookAtPlace_107 : decode cX3_lookAtPlace 107 = .ok (.invokevirtual 112, 3) := by decide +kernel
theorem dX3_lookAtPlace_110 : decode cX3_lookAtPlace 110 = .ok (.ifCond .eq 22, 3) := by decide +kernel
theorem dX3_lookAtPlace_113 : decode cX3_lookAtPlace 113 = .ok (.aload_n 0, 1) := by decide +kernel
theorem dX3_lookAtPlace_114 : decode cX3_lookAtPlace 114 = .ok (.getfield 32, 3) := by decide +kernel
theorem dX3_lookAtPlace_117 : decode cX3_lookAtPlace 117 = .ok (.bipush 7, 2) := by decide +kernel
theorem dX3_lookAtPlace_119 : decode cX3_lookAtPlace 119 = .ok (.aload_n 0, 1) := by decide +kernel
theorem dX3_lookAtPlace_120 : decode cX3_lookAtPlace 120 = .ok (.getfield 22, 3) := by decide +kernel
theorem dX3_lookAtPlace_123 : decode cX3_lookAtPlace 123 = .ok (.getfield 39, 3) := by decide +kernel
theorem dX3_lookAtPlace_126 : decode cX3_lookAtPlace 126 = .ok (.iload_n 1, 1) := by decide +kernel
theorem dX3_lookAtPlace_127 : decode cX3_lookAtPlace 127 = .ok (.invokevirtual 185, 3) := by decide +kernel
theorem dX3_lookAtPlace_130 : decode cX3_lookAtPlace 130 = .ok (.i2l, 1) := by decide +kernel
theorem dX3_lookAtPlace_131 : decode cX3_lookAtPlace 131 = .ok (.lastore, 1) := by decide +kernel
theorem dX3_lookAtPlace_132 : decode cX3_lookAtPlace 132 = .ok (.return_, 1) := by decide +kernel
theorem dX3_lookAtWay_0 : decode cX3_lookAtWay 0 = .ok (.aload_n 0, 1) := by decide +kernel
theorem dX3_lookAtWay_1 : decode cX3_lookAtWay 1 = .ok (.getfield 32, 3) := by decide +kernel
theorem dX3_lookAtWay_4 : decode cX3_lookAtWay 4 = .ok (.iconst 0, 1) := by decide +kernel
theorem dX3_lookAtWay_5 : decode cX3_lookAtWay 5 = .ok (.iload_n 1, 1) := by decide +kernel
theorem dX3_lookAtWay_6 : decode cX3_lookAtWay 6 = .ok (.i2l, 1) := by decide +kernel
theorem dX3_lookAtWay_7 : decode cX3_lookAtWay 7 = .ok (.lastore, 1) := by decide +kernel
theorem dX3_lookAtWay_8 : decode cX3_lookAtWay 8 = .ok (.aload_n 0, 1) := by decide +kernel
theorem dX3_lookAtWay_9 : decode cX3_lookAtWay 9 = .ok (.getfield 32, 3) := by decide +kernel
theorem dX3_lookAtWay_12 : decode cX3_lookAtWay 12 = .ok (.iconst 1, 1) := by decide +kernel
theorem dX3_lookAtWay_13 : decode cX3_lookAtWay 13 = .ok (.aload_n 0, 1) := by decide +kernel
theorem dX3_lookAtWay_14 : decode cX3_lookAtWay 14 = .ok (.getfield 22, 3) := by decide +kernel
theorem dX3_lookAtWay_17 : decode cX3_lookAtWay 17 = .ok (.getfield 83, 3) := by decide +kernel
theorem dX3_lookAtWay_20 : decode cX3_lookAtWay 20 = .ok (.getfield 87, 3) := by decide +kernel
theorem dX3_lookAtWay_23 : decode cX3_lookAtWay 23 = .ok (.iload_n 1, 1) := by decide +kernel
theorem dX3_lookAtWay_24 : decode cX3_lookAtWay 24 = .ok (.iaload, 1) := by decide +kernel
theorem dX3_lookAtWay_25 : decode cX3_lookAtWay 25 = .ok (.i2l, 1) := by decide +kernel
theorem dX3_lookAtWay_26 : decode cX3_lookAtWay 26 = .ok (.lastore, 1) := by decide +kernel
theorem dX3_lookAtWay_27 : decode cX3_lookAtWay 27 = .ok (.aload_n 0, 1) := by decide +kernel
theorem dX3_lookAtWay_28 : decode cX3_lookAtWay 28 = .ok (.getfield 32, 3) := by decide +kernel
theorem dX3_lookAtWay_31 : decode cX3_lookAtWay 31 = .ok (.iconst 2, 1) := by decide +kernel
theorem dX3_lookAtWay_32 : decode cX3_lookAtWay 32 = .ok (.aload_n 0, 1) := by decide +kernel
theorem dX3_lookAtWay_33 : decode cX3_lookAtWay 33 = .ok (.getfield 22, 3) := by decide +kernel
theorem dX3_lookAtWay_36 : decode cX3_lookAtWay 36 = .ok (.getfield 83, 3) := by decide +kernel
theorem dX3_lookAtWay_39 : decode cX3_lookAtWay 39 = .ok (.getfield 188, 3) := by decide +kernel
theorem dX3_lookAtWay_42 : decode cX3_lookAtWay 42 = .ok (.iload_n 1, 1) := by decide +kernel
theorem dX3_lookAtWay_43 : decode cX3_lookAtWay 43 = .ok (.iaload, 1) := by decide +kernel
theorem dX3_lookAtWay_44 : decode cX3_lookAtWay 44 = .ok (.i2l, 1) := by decide +kernel
theorem dX3_lookAtWay_45 : decode cX3_lookAtWay 45 = .ok (.lastore, 1) := by decide +kernel
theorem dX3_lookAtWay_46 : decode cX3_lookAtWay 46 = .ok (.aload_n 0, 1) := by decide +kernel
theorem dX3_lookAtWay_47 : decode cX3_lookAtWay 47 = .ok (.getfield 32, 3) := by decide +kernel
theorem dX3_lookAtWay_50 : decode cX3_lookAtWay 50 = .ok (.iconst 3, 1) := by decide +kernel
