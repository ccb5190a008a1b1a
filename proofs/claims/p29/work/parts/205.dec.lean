theorem dX11_clauseHere_143 : decode cX11_clauseHere 143 = .ok (.aload_n 0, 1) := by decide +kernel
theorem dX11_clauseHere_144 : decode cX11_clauseHere 144 = .ok (.iload_n 1, 1) := by decide +kernel
theorem dX11_clauseHere_145 : decode cX11_clauseHere 145 = .ok (.invokevirtual 238, 3) := by decide +kernel
theorem dX11_clauseHere_148 : decode cX11_clauseHere 148 = .ok (.goto 8, 3) := by decide +kernel
theorem dX11_clauseHere_151 : decode cX11_clauseHere 151 = .ok (.aload_n 0, 1) := by decide +kernel
theorem dX11_clauseHere_152 : decode cX11_clauseHere 152 = .ok (.iload_n 1, 1) := by decide +kernel
theorem dX11_clauseHere_153 : decode cX11_clauseHere 153 = .ok (.invokevirtual 241, 3) := by decide +kernel
theorem dX11_clauseHere_156 : decode cX11_clauseHere 156 = .ok (.ireturn, 1) := by decide +kernel
theorem dX11_clauseHere_157 : decode cX11_clauseHere 157 = .ok (.aload_n 0, 1) := by decide +kernel
theorem dX11_clauseHere_158 : decode cX11_clauseHere 158 = .ok (.aload_n 0, 1) := by decide +kernel
theorem dX11_clauseHere_159 : decode cX11_clauseHere 159 = .ok (.ldc2_w 233, 3) := by decide +kernel
theorem dX11_clauseHere_162 : decode cX11_clauseHere 162 = .ok (.invokevirtual 108, 3) := by decide +kernel
theorem dX11_clauseHere_165 : decode cX11_clauseHere 165 = .ok (.ifCond .eq 7, 3) := by decide +kernel
theorem dX11_clauseHere_168 : decode cX11_clauseHere 168 = .ok (.iconst 1, 1) := by decide +kernel
theorem dX11_clauseHere_169 : decode cX11_clauseHere 169 = .ok (.goto 4, 3) := by decide +kernel
theorem dX11_clauseHere_172 : decode cX11_clauseHere 172 = .ok (.iconst 0, 1) := by decide +kernel
theorem dX11_clauseHere_173 : decode cX11_clauseHere 173 = .ok (.invokevirtual 244, 3) := by decide +kernel
theorem dX11_clauseHere_176 : decode cX11_clauseHere 176 = .ok (.ireturn, 1) := by decide +kernel
theorem dX11_clauseOf_0 : decode cX11_clauseOf 0 = .ok (.aload_n 0, 1) := by decide +kernel
theorem dX11_clauseOf_1 : decode cX11_clauseOf 1 = .ok (.invokevirtual 112, 3) := by decide +kernel
theorem dX11_clauseOf_4 : decode cX11_clauseOf 4 = .ok (.bipush 60, 2) := by decide +kernel
theorem dX11_clauseOf_6 : decode cX11_clauseOf 6 = .ok (.aload_n 0, 1) := by decide +kernel
theorem dX11_clauseOf_7 : decode cX11_clauseOf 7 = .ok (.getfield 153, 3) := by decide +kernel
theorem dX11_clauseOf_10 : decode cX11_clauseOf 10 = .ok (.imul, 1) := by decide +kernel
theorem dX11_clauseOf_11 : decode cX11_clauseOf 11 = .ok (.iconst 5, 1) := by decide +kernel
theorem dX11_clauseOf_12 : decode cX11_clauseOf 12 = .ok (.aload_n 0, 1) := by decide +kernel
theorem dX11_clauseOf_13 : decode cX11_clauseOf 13 = .ok (.getfield 23, 3) := by decide +kernel
theorem dX11_clauseOf_16 : decode cX11_clauseOf 16 = .ok (.aload_n 0, 1) := by decide +kernel
theorem dX11_clauseOf_17 : decode cX11_clauseOf 17 = .ok (.getfield 153, 3) := by decide +kernel
theorem dX11_clauseOf_20 : decode cX11_clauseOf 20 = .ok (.iaload, 1) := by decide +kernel
theorem dX11_clauseOf_21 : decode cX11_clauseOf 21 = .ok (.imul, 1) := by decide +kernel
theorem dX11_clauseOf_22 : decode cX11_clauseOf 22 = .ok (.iadd, 1) := by decide +kernel
theorem dX11_clauseOf_23 : decode cX11_clauseOf 23 = .ok (.istore_n 2, 1) := by decide +kernel
theorem dX11_clauseOf_24 : decode cX11_clauseOf 24 = .ok (.aload_n 0, 1) := by decide +kernel
theorem dX11_clauseOf_25 : decode cX11_clauseOf 25 = .ok (.getfield 20, 3) := by decide +kernel
theorem dX11_clauseOf_28 : decode cX11_clauseOf 28 = .ok (.iload_n 2, 1) := by decide +kernel
theorem dX11_clauseOf_29 : decode cX11_clauseOf 29 = .ok (.iload_n 1, 1) := by decide +kernel
theorem dX11_clauseOf_30 : decode cX11_clauseOf 30 = .ok (.iastore, 1) := by decide +kernel
theorem dX11_clauseOf_31 : decode cX11_clauseOf 31 = .ok (.aload_n 0, 1) := by decide +kernel
theorem dX11_clauseOf_32 : decode cX11_clauseOf 32 = .ok (.getfield 20, 3) := by decide +kernel
theorem dX11_clauseOf_35 : decode cX11_clauseOf 35 = .ok (.iload_n 2, 1) := by decide +kernel
theorem dX11_clauseOf_36 : decode cX11_clauseOf 36 = .ok (.iconst 1, 1) := by decide +kernel
theorem dX11_clauseOf_37 : decode cX11_clauseOf 37 = .ok (.iadd, 1) := by decide +kernel
theorem dX11_clauseOf_38 : decode cX11_clauseOf 38 = .ok (.aload_n 0, 1) := by decide +kernel
theorem dX11_clauseOf_39 : decode cX11_clauseOf 39 = .ok (.getfield 17, 3) := by decide +kernel
theorem dX11_clauseOf_42 : decode cX11_clauseOf 42 = .ok (.aload_n 0, 1) := by decide +kernel
theorem dX11_clauseOf_43 : decode cX11_clauseOf 43 = .ok (.getfield 153, 3) := by decide +kernel
theorem dX11_clauseOf_46 : decode cX11_clauseOf 46 = .ok (.iaload, 1) := by decide +kernel
theorem dX11_clauseOf_47 : decode cX11_clauseOf 47 = .ok (.iastore, 1) := by decide +kernel
theorem dX11_clauseOf_48 : decode cX11_clauseOf 48 = .ok (.iload_n 1, 1) := by decide +kernel
theorem dX11_clauseOf_49 : decode cX11_clauseOf 49 = .ok (.ifCond .ne 12, 3) := by decide +kernel
theorem dX11_clauseOf_52 : decode cX11_clauseOf 52 = .ok (.aload_n 0, 1) := by decide +kernel
theorem dX11_clauseOf_53 : decode cX11_clauseOf 53 = .ok (.invokevirtual 190, 3) := by decide +kernel
theorem dX11_clauseOf_56 : decode cX11_clauseOf 56 = .ok (.ifCond .ne 5, 3) := by decide +kernel
theorem dX11_clauseOf_59 : decode cX11_clauseOf 59 = .ok (.iconst 0, 1) := by decide +kernel
theorem dX11_clauseOf_60 : decode cX11_clauseOf 60 = .ok (.ireturn, 1) := by decide +kernel
theorem dX11_clauseOf_61 : decode cX11_clauseOf 61 = .ok (.aload_n 0, 1) := by decide +kernel
theorem dX11_clauseOf_62 : decode cX11_clauseOf 62 = .ok (.getfield 20, 3) := by decide +kernel
theorem dX11_clauseOf_65 : decode cX11_clauseOf 65 = .ok (.iload_n 2, 1) := by decide +kernel
theorem dX11_clauseOf_66 : decode cX11_clauseOf 66 = .ok (.iconst 2, 1) := by decide +kernel
theorem dX11_clauseOf_67 : decode cX11_clauseOf 67 = .ok (.iadd, 1) := by decide +kernel
theorem dX11_clauseOf_68 : decode cX11_clauseOf 68 = .ok (.aload_n 0, 1) := by decide +kernel
theorem dX11_clauseOf_69 : decode cX11_clauseOf 69 = .ok (.getfield 17, 3) := by decide +kernel
theorem dX11_clauseOf_72 : decode cX11_clauseOf 72 = .ok (.aload_n 0, 1) := by decide +kernel
theorem dX11_clauseOf_73 : decode cX11_clauseOf 73 = .ok (.getfield 153, 3) := by decide +kernel
theorem dX11_clauseOf_76 : decode cX11_clauseOf 76 = .ok (.iaload, 1) := by decide +kernel
theorem dX11_clauseOf_77 : decode cX11_clauseOf 77 = .ok (.iastore, 1) := by decide +kernel
theorem dX11_clauseOf_78 : decode cX11_clauseOf 78 = .ok (.aload_n 0, 1) := by decide +kernel
theorem dX11_clauseOf_79 : decode cX11_clauseOf 79 = .ok (.getfield 20, 3) := by decide +kernel
theorem dX11_clauseOf_82 : decode cX11_clauseOf 82 = .ok (.iload_n 2, 1) := by decide +kernel
theorem dX11_clauseOf_83 : decode cX11_clauseOf 83 = .ok (.iconst 3, 1) := by decide +kernel
theorem dX11_clauseOf_84 : decode cX11_clauseOf 84 = .ok (.iadd, 1) := by decide +kernel
theorem dX11_clauseOf_85 : decode cX11_clauseOf 85 = .ok (.iconst (-1), 1) := by decide +kernel
theorem dX11_clauseOf_86 : decode cX11_clauseOf 86 = .ok (.iastore, 1) := by decide +kernel
theorem dX11_clauseOf_87 : decode cX11_clauseOf 87 = .ok (.iload_n 1, 1) := by decide +kernel
theorem dX11_clauseOf_88 : decode cX11_clauseOf 88 = .ok (.iconst 1, 1) := by decide +kernel
theorem dX11_clauseOf_89 : decode cX11_clauseOf 89 = .ok (.if_icmp .eq 13, 3) := by decide +kernel
theorem dX11_clauseOf_92 : decode cX11_clauseOf 92 = .ok (.aload_n 0, 1) := by decide +kernel
theorem dX11_clauseOf_93 : decode cX11_clauseOf 93 = .ok (.ldc2_w 217, 3) := by decide +kernel
theorem dX11_clauseOf_96 : decode cX11_clauseOf 96 = .ok (.invokevirtual 219, 3) := by decide +kernel
theorem dX11_clauseOf_99 : decode cX11_clauseOf 99 = .ok (.ifCond .eq 29, 3) := by decide +kernel
theorem dX11_clauseOf_102 : decode cX11_clauseOf 102 = .ok (.aload_n 0, 1) := by decide +kernel
theorem dX11_clauseOf_103 : decode cX11_clauseOf 103 = .ok (.getfield 20, 3) := by decide +kernel
theorem dX11_clauseOf_106 : decode cX11_clauseOf 106 = .ok (.iload_n 2, 1) := by decide +kernel
theorem dX11_clauseOf_107 : decode cX11_clauseOf 107 = .ok (.iconst 3, 1) := by decide +kernel
theorem dX11_clauseOf_108 : decode cX11_clauseOf 108 = .ok (.iadd, 1) := by decide +kernel
theorem dX11_clauseOf_109 : decode cX11_clauseOf 109 = .ok (.aload_n 0, 1) := by decide +kernel
theorem dX11_clauseOf_110 : decode cX11_clauseOf 110 = .ok (.getfield 17, 3) := by decide +kernel
theorem dX11_clauseOf_113 : decode cX11_clauseOf 113 = .ok (.aload_n 0, 1) := by decide +kernel
theorem dX11_clauseOf_114 : decode cX11_clauseOf 114 = .ok (.getfield 153, 3) := by decide +kernel
theorem dX11_clauseOf_117 : decode cX11_clauseOf 117 = .ok (.iaload, 1) := by decide +kernel
theorem dX11_clauseOf_118 : decode cX11_clauseOf 118 = .ok (.iastore, 1) := by decide +kernel
theorem dX11_clauseOf_119 : decode cX11_clauseOf 119 = .ok (.aload_n 0, 1) := by decide +kernel
theorem dX11_clauseOf_120 : decode cX11_clauseOf 120 = .ok (.invokevirtual 222, 3) := by decide +kernel
theorem dX11_clauseOf_123 : decode cX11_clauseOf 123 = .ok (.ifCond .ne 5, 3) := by decide +kernel
theorem dX11_clauseOf_126 : decode cX11_clauseOf 126 = .ok (.iconst 0, 1) := by decide +kernel
theorem dX11_clauseOf_127 : decode cX11_clauseOf 127 = .ok (.ireturn, 1) := by decide +kernel
theorem dX11_clauseOf_128 : decode cX11_clauseOf 128 = .ok (.aload_n 0, 1) := by decide +kernel
theorem dX11_clauseOf_129 : decode cX11_clauseOf 129 = .ok (.getfield 20, 3) := by decide +kernel
theorem dX11_clauseOf_132 : decode cX11_clauseOf 132 = .ok (.iload_n 2, 1) := by decide +kernel
theorem dX11_clauseOf_133 : decode cX11_clauseOf 133 = .ok (.iconst 4, 1) := by decide +kernel
theorem dX11_clauseOf_134 : decode cX11_clauseOf 134 = .ok (.iadd, 1) := by decide +kernel
theorem dX11_clauseOf_135 : decode cX11_clauseOf 135 = .ok (.aload_n 0, 1) := by decide +kernel
theorem dX11_clauseOf_136 : decode cX11_clauseOf 136 = .ok (.getfield 17, 3) := by decide +kernel
theorem dX11_clauseOf_139 : decode cX11_clauseOf 139 = .ok (.aload_n 0, 1) := by decide +kernel
theorem dX11_clauseOf_140 : decode cX11_clauseOf 140 = .ok (.getfield 153, 3) := by decide +kernel
theorem dX11_clauseOf_143 : decode cX11_clauseOf 143 = .ok (.iaload, 1) := by decide +kernel
theorem dX11_clauseOf_144 : decode cX11_clauseOf 144 = .ok (.iastore, 1) := by decide +kernel
theorem dX11_clauseOf_145 : decode cX11_clauseOf 145 = .ok (.aload_n 0, 1) := by decide +kernel
theorem dX11_clauseOf_146 : decode cX11_clauseOf 146 = .ok (.getfield 23, 3) := by decide +kernel
theorem dX11_clauseOf_149 : decode cX11_clauseOf 149 = .ok (.aload_n 0, 1) := by decide +kernel
theorem dX11_clauseOf_150 : decode cX11_clauseOf 150 = .ok (.getfield 153, 3) := by decide +kernel
theorem dX11_clauseOf_153 : decode cX11_clauseOf 153 = .ok (.dup2, 1) := by decide +kernel
theorem dX11_clauseOf_154 : decode cX11_clauseOf 154 = .ok (.iaload, 1) := by decide +kernel
theorem dX11_clauseOf_155 : decode cX11_clauseOf 155 = .ok (.iconst 1, 1) := by decide +kernel
theorem dX11_clauseOf_156 : decode cX11_clauseOf 156 = .ok (.iadd, 1) := by decide +kernel
theorem dX11_clauseOf_157 : decode cX11_clauseOf 157 = .ok (.iastore, 1) := by decide +kernel
theorem dX11_clauseOf_158 : decode cX11_clauseOf 158 = .ok (.iconst 1, 1) := by decide +kernel
theorem dX11_clauseOf_159 : decode cX11_clauseOf 159 = .ok (.ireturn, 1) := by decide +kernel
theorem dX11_clauseThat_0 : decode cX11_clauseThat 0 = .ok (.iconst 0, 1) := by decide +kernel
theorem dX11_clauseThat_1 : decode cX11_clauseThat 1 = .ok (.istore_n 3, 1) := by decide +kernel
theorem dX11_clauseThat_2 : decode cX11_clauseThat 2 = .ok (.iload_n 3, 1) := by decide +kernel
theorem dX11_clauseThat_3 : decode cX11_clauseThat 3 = .ok (.aload_n 0, 1) := by decide +kernel
theorem dX11_clauseThat_4 : decode cX11_clauseThat 4 = .ok (.getfield 23, 3) := by decide +kernel
theorem dX11_clauseThat_7 : decode cX11_clauseThat 7 = .ok (.iload_n 1, 1) := by decide +kernel
theorem dX11_clauseThat_8 : decode cX11_clauseThat 8 = .ok (.iaload, 1) := by decide +kernel
theorem dX11_clauseThat_9 : decode cX11_clauseThat 9 = .ok (.if_icmp .ge 73, 3) := by decide +kernel
theorem dX11_clauseThat_12 : decode cX11_clauseThat 12 = .ok (.bipush 60, 2) := by decide +kernel
theorem dX11_clauseThat_14 : decode cX11_clauseThat 14 = .ok (.iload_n 1, 1) := by decide +kernel
theorem dX11_clauseThat_15 : decode cX11_clauseThat 15 = .ok (.imul, 1) := by decide +kernel
theorem dX11_clauseThat_16 : decode cX11_clauseThat 16 = .ok (.iconst 5, 1) := by decide +kernel
theorem dX11_clauseThat_17 : decode cX11_clauseThat 17 = .ok (.iload_n 3, 1) := by decide +kernel
theorem dX11_clauseThat_18 : decode cX11_clauseThat 18 = .ok (.imul, 1) := by decide +kernel
theorem dX11_clauseThat_19 : decode cX11_clauseThat 19 = .ok (.iadd, 1) := by decide +kernel
theorem dX11_clauseThat_20 : decode cX11_clauseThat 20 = .ok (.istore 4, 2) := by decide +kernel
theorem dX11_clauseThat_22 : decode cX11_clauseThat 22 = .ok (.aload_n 0, 1) := by decide +kernel
theorem dX11_clauseThat_23 : decode cX11_clauseThat 23 = .ok (.getfield 20, 3) := by decide +kernel
theorem dX11_clauseThat_26 : decode cX11_clauseThat 26 = .ok (.iload 4, 2) := by decide +kernel
theorem dX11_clauseThat_28 : decode cX11_clauseThat 28 = .ok (.iaload, 1) := by decide +kernel
theorem dX11_clauseThat_29 : decode cX11_clauseThat 29 = .ok (.iload_n 2, 1) := by decide +kernel
theorem dX11_clauseThat_30 : decode cX11_clauseThat 30 = .ok (.if_icmp .ne 46, 3) := by decide +kernel
theorem dX11_clauseThat_33 : decode cX11_clauseThat 33 = .ok (.aload_n 0, 1) := by decide +kernel
theorem dX11_clauseThat_34 : decode cX11_clauseThat 34 = .ok (.getfield 20, 3) := by decide +kernel
theorem dX11_clauseThat_37 : decode cX11_clauseThat 37 = .ok (.iload 4, 2) := by decide +kernel
theorem dX11_clauseThat_39 : decode cX11_clauseThat 39 = .ok (.iconst 3, 1) := by decide +kernel
theorem dX11_clauseThat_40 : decode cX11_clauseThat 40 = .ok (.iadd, 1) := by decide +kernel
theorem dX11_clauseThat_41 : decode cX11_clauseThat 41 = .ok (.iaload, 1) := by decide +kernel
theorem dX11_clauseThat_42 : decode cX11_clauseThat 42 = .ok (.ifCond .lt 31, 3) := by decide +kernel
theorem dX11_clauseThat_45 : decode cX11_clauseThat 45 = .ok (.aload_n 0, 1) := by decide +kernel
theorem dX11_clauseThat_46 : decode cX11_clauseThat 46 = .ok (.iload_n 1, 1) := by decide +kernel
theorem dX11_clauseThat_47 : decode cX11_clauseThat 47 = .ok (.aload_n 0, 1) := by decide +kernel
theorem dX11_clauseThat_48 : decode cX11_clauseThat 48 = .ok (.getfield 20, 3) := by decide +kernel
theorem dX11_clauseThat_51 : decode cX11_clauseThat 51 = .ok (.iload 4, 2) := by decide +kernel
theorem dX11_clauseThat_53 : decode cX11_clauseThat 53 = .ok (.iconst 3, 1) := by decide +kernel
theorem dX11_clauseThat_54 : decode cX11_clauseThat 54 = .ok (.iadd, 1) := by decide +kernel
theorem dX11_clauseThat_55 : decode cX11_clauseThat 55 = .ok (.iaload, 1) := by decide +kernel
theorem dX11_clauseThat_56 : decode cX11_clauseThat 56 = .ok (.aload_n 0, 1) := by decide +kernel
theorem dX11_clauseThat_57 : decode cX11_clauseThat 57 = .ok (.getfield 20, 3) := by decide +kernel
theorem dX11_clauseThat_60 : decode cX11_clauseThat 60 = .ok (.iload 4, 2) := by decide +kernel
theorem dX11_clauseThat_62 : decode cX11_clauseThat 62 = .ok (.iconst 4, 1) := by decide +kernel
theorem dX11_clauseThat_63 : decode cX11_clauseThat 63 = .ok (.iadd, 1) := by decide +kernel
theorem dX11_clauseThat_64 : decode cX11_clauseThat 64 = .ok (.iaload, 1) := by decide +kernel
theorem dX11_clauseThat_65 : decode cX11_clauseThat 65 = .ok (.invokevirtual 271, 3) := by decide +kernel
theorem dX11_clauseThat_68 : decode cX11_clauseThat 68 = .ok (.lconst 1, 1) := by decide +kernel
theorem dX11_clauseThat_69 : decode cX11_clauseThat 69 = .ok (.lcmp, 1) := by decide +kernel
theorem dX11_clauseThat_70 : decode cX11_clauseThat 70 = .ok (.ifCond .ne 6, 3) := by decide +kernel
theorem dX11_clauseThat_73 : decode cX11_clauseThat 73 = .ok (.iload 4, 2) := by decide +kernel
theorem dX11_clauseThat_75 : decode cX11_clauseThat 75 = .ok (.ireturn, 1) := by decide +kernel
theorem dX11_clauseThat_76 : decode cX11_clauseThat 76 = .ok (.iinc 3 1, 3) := by decide +kernel
theorem dX11_clauseThat_79 : decode cX11_clauseThat 79 = .ok (.goto (-77), 3) := by decide +kernel
theorem dX11_clauseThat_82 : decode cX11_clauseThat 82 = .ok (.iconst (-1), 1) := by decide +kernel
theorem dX11_clauseThat_83 : decode cX11_clauseThat 83 = .ok (.ireturn, 1) := by decide +kernel
theorem dX11_clearWords_0 : decode cX11_clearWords 0 = .ok (.iconst 0, 1) := by decide +kernel
theorem dX11_clearWords_1 : decode cX11_clearWords 1 = .ok (.istore_n 2, 1) := by decide +kernel
theorem dX11_clearWords_2 : decode cX11_clearWords 2 = .ok (.iload_n 2, 1) := by decide +kernel
theorem dX11_clearWords_3 : decode cX11_clearWords 3 = .ok (.bipush 12, 2) := by decide +kernel
theorem dX11_clearWords_5 : decode cX11_clearWords 5 = .ok (.if_icmp .ge 16, 3) := by decide +kernel
theorem dX11_clearWords_8 : decode cX11_clearWords 8 = .ok (.aload_n 0, 1) := by decide +kernel
theorem dX11_clearWords_9 : decode cX11_clearWords 9 = .ok (.getfield 39, 3) := by decide +kernel
theorem dX11_clearWords_12 : decode cX11_clearWords 12 = .ok (.iload_n 2, 1) := by decide +kernel
theorem dX11_clearWords_13 : decode cX11_clearWords 13 = .ok (.lconst 0, 1) := by decide +kernel
theorem dX11_clearWords_14 : decode cX11_clearWords 14 = .ok (.lastore, 1) := by decide +kernel
theorem dX11_clearWords_15 : decode cX11_clearWords 15 = .ok (.iinc 2 1, 3) := by decide +kernel
theorem dX11_clearWords_18 : decode cX11_clearWords 18 = .ok (.goto (-16), 3) := by decide +kernel
theorem dX11_clearWords_21 : decode cX11_clearWords 21 = .ok (.aload_n 0, 1) := by decide +kernel
theorem dX11_clearWords_22 : decode cX11_clearWords 22 = .ok (.getfield 39, 3) := by decide +kernel
theorem dX11_clearWords_25 : decode cX11_clearWords 25 = .ok (.bipush 8, 2) := by decide +kernel
theorem dX11_clearWords_27 : decode cX11_clearWords 27 = .ok (.iload_n 1, 1) := by decide +kernel
theorem dX11_clearWords_28 : decode cX11_clearWords 28 = .ok (.i2l, 1) := by decide +kernel
theorem dX11_clearWords_29 : decode cX11_clearWords 29 = .ok (.lastore, 1) := by decide +kernel
theorem dX11_clearWords_30 : decode cX11_clearWords 30 = .ok (.aload_n 0, 1) := by decide +kernel
theorem dX11_clearWords_31 : decode cX11_clearWords 31 = .ok (.getfield 39, 3) := by decide +kernel
theorem dX11_clearWords_34 : decode cX11_clearWords 34 = .ok (.bipush 9, 2) := by decide +kernel
theorem dX11_clearWords_36 : decode cX11_clearWords 36 = .ok (.aload_n 0, 1) := by decide +kernel
theorem dX11_clearWords_37 : decode cX11_clearWords 37 = .ok (.iload_n 1, 1) := by decide +kernel
theorem dX11_clearWords_38 : decode cX11_clearWords 38 = .ok (.iconst 1, 1) := by decide +kernel
theorem dX11_clearWords_39 : decode cX11_clearWords 39 = .ok (.invokevirtual 279, 3) := by decide +kernel
theorem dX11_clearWords_42 : decode cX11_clearWords 42 = .ok (.i2l, 1) := by decide +kernel
theorem dX11_clearWords_43 : decode cX11_clearWords 43 = .ok (.lastore, 1) := by decide +kernel
theorem dX11_clearWords_44 : decode cX11_clearWords 44 = .ok (.aload_n 0, 1) := by decide +kernel
theorem dX11_clearWords_45 : decode cX11_clearWords 45 = .ok (.getfield 39, 3) := by decide +kernel
theorem dX11_clearWords_48 : decode cX11_clearWords 48 = .ok (.bipush 10, 2) := by decide +kernel
theorem dX11_clearWords_50 : decode cX11_clearWords 50 = .ok (.aload_n 0, 1) := by decide +kernel
theorem dX11_clearWords_51 : decode cX11_clearWords 51 = .ok (.getfield 42, 3) := by decide +kernel
theorem dX11_clearWords_54 : decode cX11_clearWords 54 = .ok (.iconst 4, 1) := by decide +kernel
theorem dX11_clearWords_55 : decode cX11_clearWords 55 = .ok (.iaload, 1) := by decide +kernel
theorem dX11_clearWords_56 : decode cX11_clearWords 56 = .ok (.i2l, 1) := by decide +kernel
theorem dX11_clearWords_57 : decode cX11_clearWords 57 = .ok (.lastore, 1) := by decide +kernel
theorem dX11_clearWords_58 : decode cX11_clearWords 58 = .ok (.return_, 1) := by decide +kernel
theorem dX11_closed_0 : decode cX11_closed 0 = .ok (.aload_n 0, 1) := by decide +kernel
theorem dX11_closed_1 : decode cX11_closed 1 = .ok (.iload_n 1, 1) := by decide +kernel
theorem dX11_closed_2 : decode cX11_closed 2 = .ok (.invokevirtual 350, 3) := by decide +kernel
theorem dX11_closed_5 : decode cX11_closed 5 = .ok (.ifCond .eq 13, 3) := by decide +kernel
theorem dX11_closed_8 : decode cX11_closed 8 = .ok (.iload_n 2, 1) := by decide +kernel
theorem dX11_closed_9 : decode cX11_closed 9 = .ok (.i2l, 1) := by decide +kernel
theorem dX11_closed_10 : decode cX11_closed 10 = .ok (.lconst 0, 1) := by decide +kernel
theorem dX11_closed_11 : decode cX11_closed 11 = .ok (.lconst 1, 1) := by decide +kernel
theorem dX11_closed_12 : decode cX11_closed 12 = .ok (.invokestatic 125, 3) := by decide +kernel
theorem dX11_closed_15 : decode cX11_closed 15 = .ok (.ifCond .ne 5, 3) := by decide +kernel
theorem dX11_closed_18 : decode cX11_closed 18 = .ok (.iconst (-1), 1) := by decide +kernel
theorem dX11_closed_19 : decode cX11_closed 19 = .ok (.ireturn, 1) := by decide +kernel
theorem dX11_closed_20 : decode cX11_closed 20 = .ok (.iload_n 2, 1) := by decide +kernel
theorem dX11_closed_21 : decode cX11_closed 21 = .ok (.iconst 1, 1) := by decide +kernel
theorem dX11_closed_22 : decode cX11_closed 22 = .ok (.if_icmp .ne 17, 3) := by decide +kernel
theorem dX11_closed_25 : decode cX11_closed 25 = .ok (.aload_n 0, 1) := by decide +kernel
theorem dX11_closed_26 : decode cX11_closed 26 = .ok (.iload_n 1, 1) := by decide +kernel
theorem dX11_closed_27 : decode cX11_closed 27 = .ok (.invokevirtual 365, 3) := by decide +kernel
theorem dX11_closed_30 : decode cX11_closed 30 = .ok (.ifCond .eq 7, 3) := by decide +kernel
theorem dX11_closed_33 : decode cX11_closed 33 = .ok (.iconst 1, 1) := by decide +kernel
theorem dX11_closed_34 : decode cX11_closed 34 = .ok (.goto 4, 3) := by decide +kernel
theorem dX11_closed_37 : decode cX11_closed 37 = .ok (.iconst 0, 1) := by decide +kernel
theorem dX11_closed_38 : decode cX11_closed 38 = .ok (.ireturn, 1) := by decide +kernel
theorem dX11_closed_39 : decode cX11_closed 39 = .ok (.aload_n 0, 1) := by decide +kernel
theorem dX11_closed_40 : decode cX11_closed 40 = .ok (.iload_n 1, 1) := by decide +kernel
theorem dX11_closed_41 : decode cX11_closed 41 = .ok (.invokevirtual 353, 3) := by decide +kernel
theorem dX11_closed_44 : decode cX11_closed 44 = .ok (.aload_n 0, 1) := by decide +kernel
theorem dX11_closed_45 : decode cX11_closed 45 = .ok (.iconst 0, 1) := by decide +kernel
theorem dX11_closed_46 : decode cX11_closed 46 = .ok (.iconst (-1), 1) := by decide +kernel
theorem dX11_closed_47 : decode cX11_closed 47 = .ok (.invokevirtual 356, 3) := by decide +kernel
theorem dX11_closed_50 : decode cX11_closed 50 = .ok (.pop, 1) := by decide +kernel
theorem dX11_closed_51 : decode cX11_closed 51 = .ok (.iconst 0, 1) := by decide +kernel
theorem dX11_closed_52 : decode cX11_closed 52 = .ok (.istore_n 3, 1) := by decide +kernel
theorem dX11_closed_53 : decode cX11_closed 53 = .ok (.aload_n 0, 1) := by decide +kernel
theorem dX11_closed_54 : decode cX11_closed 54 = .ok (.invokevirtual 341, 3) := by decide +kernel
theorem dX11_closed_57 : decode cX11_closed 57 = .ok (.aload_n 0, 1) := by decide +kernel
theorem dX11_closed_58 : decode cX11_closed 58 = .ok (.getfield 42, 3) := by decide +kernel
theorem dX11_closed_61 : decode cX11_closed 61 = .ok (.iconst 2, 1) := by decide +kernel
theorem dX11_closed_62 : decode cX11_closed 62 = .ok (.iaload, 1) := by decide +kernel
theorem dX11_closed_63 : decode cX11_closed 63 = .ok (.ixor, 1) := by decide +kernel
theorem dX11_closed_64 : decode cX11_closed 64 = .ok (.istore 4, 2) := by decide +kernel
theorem dX11_closed_66 : decode cX11_closed 66 = .ok (.iconst 0, 1) := by decide +kernel
theorem dX11_closed_67 : decode cX11_closed 67 = .ok (.istore 5, 2) := by decide +kernel
theorem dX11_closed_69 : decode cX11_closed 69 = .ok (.iload 5, 2) := by decide +kernel
theorem dX11_closed_71 : decode cX11_closed 71 = .ok (.iconst 1, 1) := by decide +kernel
theorem dX11_closed_72 : decode cX11_closed 72 = .ok (.aload_n 0, 1) := by decide +kernel
theorem dX11_closed_73 : decode cX11_closed 73 = .ok (.getfield 42, 3) := by decide +kernel
theorem dX11_closed_76 : decode cX11_closed 76 = .ok (.iconst 0, 1) := by decide +kernel
theorem dX11_closed_77 : decode cX11_closed 77 = .ok (.iaload, 1) := by decide +kernel
theorem dX11_closed_78 : decode cX11_closed 78 = .ok (.ishl, 1) := by decide +kernel
theorem dX11_closed_79 : decode cX11_closed 79 = .ok (.if_icmp .ge 30, 3) := by decide +kernel
theorem dX11_closed_82 : decode cX11_closed 82 = .ok (.iload_n 3, 1) := by decide +kernel
theorem dX11_closed_83 : decode cX11_closed 83 = .ok (.aload_n 0, 1) := by decide +kernel
theorem dX11_closed_84 : decode cX11_closed 84 = .ok (.getfield 58, 3) := by decide +kernel
theorem dX11_closed_87 : decode cX11_closed 87 = .ok (.iload 4, 2) := by decide +kernel
theorem dX11_closed_89 : decode cX11_closed 89 = .ok (.iload 5, 2) := by decide +kernel
theorem dX11_closed_91 : decode cX11_closed 91 = .ok (.ior, 1) := by decide +kernel
theorem dX11_closed_92 : decode cX11_closed 92 = .ok (.iaload, 1) := by decide +kernel
theorem dX11_closed_93 : decode cX11_closed 93 = .ok (.ifCond .le 7, 3) := by decide +kernel
theorem dX11_closed_96 : decode cX11_closed 96 = .ok (.iconst 1, 1) := by decide +kernel
theorem dX11_closed_97 : decode cX11_closed 97 = .ok (.goto 4, 3) := by decide +kernel
theorem dX11_closed_100 : decode cX11_closed 100 = .ok (.iconst 0, 1) := by decide +kernel
theorem dX11_closed_101 : decode cX11_closed 101 = .ok (.iadd, 1) := by decide +kernel
theorem dX11_closed_102 : decode cX11_closed 102 = .ok (.istore_n 3, 1) := by decide +kernel
theorem dX11_closed_103 : decode cX11_closed 103 = .ok (.iinc 5 1, 3) := by decide +kernel
theorem dX11_closed_106 : decode cX11_closed 106 = .ok (.goto (-37), 3) := by decide +kernel
theorem dX11_closed_109 : decode cX11_closed 109 = .ok (.iload_n 3, 1) := by decide +kernel
theorem dX11_closed_110 : decode cX11_closed 110 = .ok (.ireturn, 1) := by decide +kernel
theorem dX11_closes_0 : decode cX11_closes 0 = .ok (.aload_n 0, 1) := by decide +kernel
theorem dX11_closes_1 : decode cX11_closes 1 = .ok (.iconst 3, 1) := by decide +kernel
theorem dX11_closes_2 : decode cX11_closes 2 = .ok (.invokevirtual 201, 3) := by decide +kernel
theorem dX11_closes_5 : decode cX11_closes 5 = .ok (.aload_n 0, 1) := by decide +kernel
theorem dX11_closes_6 : decode cX11_closes 6 = .ok (.invokevirtual 100, 3) := by decide +kernel
theorem dX11_closes_9 : decode cX11_closes 9 = .ok (.bipush 93, 2) := by decide +kernel
theorem dX11_closes_11 : decode cX11_closes 11 = .ok (.if_icmp .ne 53, 3) := by decide +kernel
theorem dX11_closes_14 : decode cX11_closes 14 = .ok (.aload_n 0, 1) := by decide +kernel
theorem dX11_closes_15 : decode cX11_closes 15 = .ok (.invokevirtual 204, 3) := by decide +kernel
theorem dX11_closes_18 : decode cX11_closes 18 = .ok (.ifCond .eq 46, 3) := by decide +kernel
theorem dX11_closes_21 : decode cX11_closes 21 = .ok (.aload_n 0, 1) := by decide +kernel
theorem dX11_closes_22 : decode cX11_closes 22 = .ok (.iconst 1, 1) := by decide +kernel
theorem dX11_closes_23 : decode cX11_closes 23 = .ok (.invokevirtual 201, 3) := by decide +kernel
theorem dX11_closes_26 : decode cX11_closes 26 = .ok (.aload_n 0, 1) := by decide +kernel
theorem dX11_closes_27 : decode cX11_closes 27 = .ok (.dup, 1) := by decide +kernel
theorem dX11_closes_28 : decode cX11_closes 28 = .ok (.getfield 162, 3) := by decide +kernel
theorem dX11_closes_31 : decode cX11_closes 31 = .ok (.iconst 1, 1) := by decide +kernel
theorem dX11_closes_32 : decode cX11_closes 32 = .ok (.isub, 1) := by decide +kernel
theorem dX11_closes_33 : decode cX11_closes 33 = .ok (.putfield 162, 3) := by decide +kernel
theorem dX11_closes_36 : decode cX11_closes 36 = .ok (.aload_n 0, 1) := by decide +kernel
theorem dX11_closes_37 : decode cX11_closes 37 = .ok (.dup, 1) := by decide +kernel
theorem dX11_closes_38 : decode cX11_closes 38 = .ok (.getfield 159, 3) := by decide +kernel
theorem dX11_closes_41 : decode cX11_closes 41 = .ok (.iconst 1, 1) := by decide +kernel
theorem dX11_closes_42 : decode cX11_closes 42 = .ok (.isub, 1) := by decide +kernel
theorem dX11_closes_43 : decode cX11_closes 43 = .ok (.putfield 159, 3) := by decide +kernel
theorem dX11_closes_46 : decode cX11_closes 46 = .ok (.aload_n 0, 1) := by decide +kernel
theorem dX11_closes_47 : decode cX11_closes 47 = .ok (.dup, 1) := by decide +kernel
theorem dX11_closes_48 : decode cX11_closes 48 = .ok (.getfield 97, 3) := by decide +kernel
theorem dX11_closes_51 : decode cX11_closes 51 = .ok (.iconst 1, 1) := by decide +kernel
theorem dX11_closes_52 : decode cX11_closes 52 = .ok (.iadd, 1) := by decide +kernel
theorem dX11_closes_53 : decode cX11_closes 53 = .ok (.putfield 97, 3) := by decide +kernel
theorem dX11_closes_56 : decode cX11_closes 56 = .ok (.aload_n 0, 1) := by decide +kernel
theorem dX11_closes_57 : decode cX11_closes 57 = .ok (.iconst 3, 1) := by decide +kernel
theorem dX11_closes_58 : decode cX11_closes 58 = .ok (.invokevirtual 201, 3) := by decide +kernel
theorem dX11_closes_61 : decode cX11_closes 61 = .ok (.goto (-56), 3) := by decide +kernel
theorem dX11_closes_64 : decode cX11_closes 64 = .ok (.return_, 1) := by decide +kernel
theorem dX11_comes_0 : decode cX11_comes 0 = .ok (.aload_n 0, 1) := by decide +kernel
theorem dX11_comes_1 : decode cX11_comes 1 = .ok (.iload_n 1, 1) := by decide +kernel
theorem dX11_comes_2 : decode cX11_comes 2 = .ok (.invokevirtual 350, 3) := by decide +kernel
theorem dX11_comes_5 : decode cX11_comes 5 = .ok (.ifCond .eq 19, 3) := by decide +kernel
theorem dX11_comes_8 : decode cX11_comes 8 = .ok (.iload_n 2, 1) := by decide +kernel
theorem dX11_comes_9 : decode cX11_comes 9 = .ok (.ifCond .lt 15, 3) := by decide +kernel
theorem dX11_comes_12 : decode cX11_comes 12 = .ok (.iload_n 2, 1) := by decide +kernel
theorem dX11_comes_13 : decode cX11_comes 13 = .ok (.iconst 1, 1) := by decide +kernel
theorem dX11_comes_14 : decode cX11_comes 14 = .ok (.aload_n 0, 1) := by decide +kernel
theorem dX11_comes_15 : decode cX11_comes 15 = .ok (.getfield 42, 3) := by decide +kernel
theorem dX11_comes_18 : decode cX11_comes 18 = .ok (.iconst 0, 1) := by decide +kernel
theorem dX11_comes_19 : decode cX11_comes 19 = .ok (.iaload, 1) := by decide +kernel
theorem dX11_comes_20 : decode cX11_comes 20 = .ok (.ishl, 1) := by decide +kernel
theorem dX11_comes_21 : decode cX11_comes 21 = .ok (.if_icmp .lt 5, 3) := by decide +kernel
theorem dX11_comes_24 : decode cX11_comes 24 = .ok (.iconst (-1), 1) := by decide +kernel
theorem dX11_comes_25 : decode cX11_comes 25 = .ok (.ireturn, 1) := by decide +kernel
theorem dX11_comes_26 : decode cX11_comes 26 = .ok (.aload_n 0, 1) := by decide +kernel
theorem dX11_comes_27 : decode cX11_comes 27 = .ok (.iload_n 1, 1) := by decide +kernel
theorem dX11_comes_28 : decode cX11_comes 28 = .ok (.invokevirtual 353, 3) := by decide +kernel
theorem dX11_comes_31 : decode cX11_comes 31 = .ok (.aload_n 0, 1) := by decide +kernel
theorem dX11_comes_32 : decode cX11_comes 32 = .ok (.iconst 0, 1) := by decide +kernel
theorem dX11_comes_33 : decode cX11_comes 33 = .ok (.iconst (-1), 1) := by decide +kernel
theorem dX11_comes_34 : decode cX11_comes 34 = .ok (.invokevirtual 356, 3) := by decide +kernel
theorem dX11_comes_37 : decode cX11_comes 37 = .ok (.pop, 1) := by decide +kernel
theorem dX11_comes_38 : decode cX11_comes 38 = .ok (.aload_n 0, 1) := by decide +kernel
theorem dX11_comes_39 : decode cX11_comes 39 = .ok (.getfield 58, 3) := by decide +kernel
theorem dX11_comes_42 : decode cX11_comes 42 = .ok (.aload_n 0, 1) := by decide +kernel
theorem dX11_comes_43 : decode cX11_comes 43 = .ok (.invokevirtual 341, 3) := by decide +kernel
theorem dX11_comes_46 : decode cX11_comes 46 = .ok (.aload_n 0, 1) := by decide +kernel
theorem dX11_comes_47 : decode cX11_comes 47 = .ok (.getfield 42, 3) := by decide +kernel
theorem dX11_comes_50 : decode cX11_comes 50 = .ok (.iconst 2, 1) := by decide +kernel
theorem dX11_comes_51 : decode cX11_comes 51 = .ok (.iaload, 1) := by decide +kernel
theorem dX11_comes_52 : decode cX11_comes 52 = .ok (.ixor, 1) := by decide +kernel
theorem dX11_comes_53 : decode cX11_comes 53 = .ok (.iload_n 2, 1) := by decide +kernel
theorem dX11_comes_54 : decode cX11_comes 54 = .ok (.ixor, 1) := by decide +kernel
theorem dX11_comes_55 : decode cX11_comes 55 = .ok (.iaload, 1) := by decide +kernel
theorem dX11_comes_56 : decode cX11_comes 56 = .ok (.ifCond .le 7, 3) := by decide +kernel
theorem dX11_comes_59 : decode cX11_comes 59 = .ok (.iconst 1, 1) := by decide +kernel
theorem dX11_comes_60 : decode cX11_comes 60 = .ok (.goto 4, 3) := by decide +kernel
theorem dX11_comes_63 : decode cX11_comes 63 = .ok (.iconst 0, 1) := by decide +kernel
theorem dX11_comes_64 : decode cX11_comes 64 = .ok (.ireturn, 1) := by decide +kernel
theorem dX11_compare_0 : decode cX11_compare 0 = .ok (.aload_n 0, 1) := by decide +kernel
theorem dX11_compare_1 : decode cX11_compare 1 = .ok (.invokevirtual 190, 3) := by decide +kernel
theorem dX11_compare_4 : decode cX11_compare 4 = .ok (.ifCond .ne 5, 3) := by decide +kernel
theorem dX11_compare_7 : decode cX11_compare 7 = .ok (.iconst 0, 1) := by decide +kernel
theorem dX11_compare_8 : decode cX11_compare 8 = .ok (.ireturn, 1) := by decide +kernel
theorem dX11_compare_9 : decode cX11_compare 9 = .ok (.aload_n 0, 1) := by decide +kernel
theorem dX11_compare_10 : decode cX11_compare 10 = .ok (.invokevirtual 100, 3) := by decide +kernel
theorem dX11_compare_13 : decode cX11_compare 13 = .ok (.istore_n 1, 1) := by decide +kernel
theorem dX11_compare_14 : decode cX11_compare 14 = .ok (.aload_n 0, 1) := by decide +kernel
theorem dX11_compare_15 : decode cX11_compare 15 = .ok (.getfield 97, 3) := by decide +kernel
theorem dX11_compare_18 : decode cX11_compare 18 = .ok (.istore_n 2, 1) := by decide +kernel
theorem dX11_compare_19 : decode cX11_compare 19 = .ok (.iload_n 1, 1) := by decide +kernel
theorem dX11_compare_20 : decode cX11_compare 20 = .ok (.bipush 60, 2) := by decide +kernel
theorem dX11_compare_22 : decode cX11_compare 22 = .ok (.if_icmp .eq 22, 3) := by decide +kernel
theorem dX11_compare_25 : decode cX11_compare 25 = .ok (.iload_n 1, 1) := by decide +kernel
theorem dX11_compare_26 : decode cX11_compare 26 = .ok (.bipush 61, 2) := by decide +kernel
theorem dX11_compare_28 : decode cX11_compare 28 = .ok (.if_icmp .eq 16, 3) := by decide +kernel
theorem dX11_compare_31 : decode cX11_compare 31 = .ok (.iload_n 1, 1) := by decide +kernel
theorem dX11_compare_32 : decode cX11_compare 32 = .ok (.bipush 62, 2) := by decide +kernel
theorem dX11_compare_34 : decode cX11_compare 34 = .ok (.if_icmp .eq 10, 3) := by decide +kernel
theorem dX11_compare_37 : decode cX11_compare 37 = .ok (.aload_n 0, 1) := by decide +kernel
theorem dX11_compare_38 : decode cX11_compare 38 = .ok (.iconst 0, 1) := by decide +kernel
theorem dX11_compare_39 : decode cX11_compare 39 = .ok (.iload_n 2, 1) := by decide +kernel
theorem dX11_compare_40 : decode cX11_compare 40 = .ok (.invokevirtual 118, 3) := by decide +kernel
theorem dX11_compare_43 : decode cX11_compare 43 = .ok (.ireturn, 1) := by decide +kernel
theorem dX11_compare_44 : decode cX11_compare 44 = .ok (.aload_n 0, 1) := by decide +kernel
theorem dX11_compare_45 : decode cX11_compare 45 = .ok (.dup, 1) := by decide +kernel
theorem dX11_compare_46 : decode cX11_compare 46 = .ok (.getfield 97, 3) := by decide +kernel
theorem dX11_compare_49 : decode cX11_compare 49 = .ok (.iconst 1, 1) := by decide +kernel
theorem dX11_compare_50 : decode cX11_compare 50 = .ok (.iadd, 1) := by decide +kernel
theorem dX11_compare_51 : decode cX11_compare 51 = .ok (.putfield 97, 3) := by decide +kernel
theorem dX11_compare_54 : decode cX11_compare 54 = .ok (.iload_n 1, 1) := by decide +kernel
theorem dX11_compare_55 : decode cX11_compare 55 = .ok (.bipush 61, 2) := by decide +kernel
theorem dX11_compare_57 : decode cX11_compare 57 = .ok (.if_icmp .eq 32, 3) := by decide +kernel
theorem dX11_compare_60 : decode cX11_compare 60 = .ok (.aload_n 0, 1) := by decide +kernel
theorem dX11_compare_61 : decode cX11_compare 61 = .ok (.getfield 97, 3) := by decide +kernel
theorem dX11_compare_64 : decode cX11_compare 64 = .ok (.aload_n 0, 1) := by decide +kernel
theorem dX11_compare_65 : decode cX11_compare 65 = .ok (.getfield 86, 3) := by decide +kernel
theorem dX11_compare_68 : decode cX11_compare 68 = .ok (.if_icmp .ge 21, 3) := by decide +kernel
theorem dX11_compare_71 : decode cX11_compare 71 = .ok (.aload_n 0, 1) := by decide +kernel
theorem dX11_compare_72 : decode cX11_compare 72 = .ok (.getfield 7, 3) := by decide +kernel
theorem dX11_compare_75 : decode cX11_compare 75 = .ok (.aload_n 0, 1) := by decide +kernel
theorem dX11_compare_76 : decode cX11_compare 76 = .ok (.getfield 97, 3) := by decide +kernel
theorem dX11_compare_79 : decode cX11_compare 79 = .ok (.baload, 1) := by decide +kernel
theorem dX11_compare_80 : decode cX11_compare 80 = .ok (.bipush 61, 2) := by decide +kernel
theorem dX11_compare_82 : decode cX11_compare 82 = .ok (.if_icmp .ne 7, 3) := by decide +kernel
theorem dX11_compare_85 : decode cX11_compare 85 = .ok (.iconst 1, 1) := by decide +kernel
theorem dX11_compare_86 : decode cX11_compare 86 = .ok (.goto 4, 3) := by decide +kernel
theorem dX11_compare_89 : decode cX11_compare 89 = .ok (.iconst 0, 1) := by decide +kernel
theorem dX11_compare_90 : decode cX11_compare 90 = .ok (.istore_n 3, 1) := by decide +kernel
theorem dX11_compare_91 : decode cX11_compare 91 = .ok (.iload_n 3, 1) := by decide +kernel
theorem dX11_compare_92 : decode cX11_compare 92 = .ok (.ifCond .eq 13, 3) := by decide +kernel
theorem dX11_compare_95 : decode cX11_compare 95 = .ok (.aload_n 0, 1) := by decide +kernel
theorem dX11_compare_96 : decode cX11_compare 96 = .ok (.dup, 1) := by decide +kernel
theorem dX11_compare_97 : decode cX11_compare 97 = .ok (.getfield 97, 3) := by decide +kernel
theorem dX11_compare_100 : decode cX11_compare 100 = .ok (.iconst 1, 1) := by decide +kernel
theorem dX11_compare_101 : decode cX11_compare 101 = .ok (.iadd, 1) := by decide +kernel
theorem dX11_compare_102 : decode cX11_compare 102 = .ok (.putfield 97, 3) := by decide +kernel
theorem dX11_compare_105 : decode cX11_compare 105 = .ok (.aload_n 0, 1) := by decide +kernel
theorem dX11_compare_106 : decode cX11_compare 106 = .ok (.iload_n 2, 1) := by decide +kernel
theorem dX11_compare_107 : decode cX11_compare 107 = .ok (.invokevirtual 177, 3) := by decide +kernel
theorem dX11_compare_110 : decode cX11_compare 110 = .ok (.ifCond .ne 5, 3) := by decide +kernel
theorem dX11_compare_113 : decode cX11_compare 113 = .ok (.iconst 0, 1) := by decide +kernel
theorem dX11_compare_114 : decode cX11_compare 114 = .ok (.ireturn, 1) := by decide +kernel
theorem dX11_compare_115 : decode cX11_compare 115 = .ok (.iload_n 1, 1) := by decide +kernel
theorem dX11_compare_116 : decode cX11_compare 116 = .ok (.bipush 60, 2) := by decide +kernel
theorem dX11_compare_118 : decode cX11_compare 118 = .ok (.if_icmp .ne 15, 3) := by decide +kernel
theorem dX11_compare_121 : decode cX11_compare 121 = .ok (.iload_n 3, 1) := by decide +kernel
theorem dX11_compare_122 : decode cX11_compare 122 = .ok (.ifCond .eq 7, 3) := by decide +kernel
theorem dX11_compare_125 : decode cX11_compare 125 = .ok (.iconst 1, 1) := by decide +kernel
theorem dX11_compare_126 : decode cX11_compare 126 = .ok (.goto 26, 3) := by decide +kernel
theorem dX11_compare_129 : decode cX11_compare 129 = .ok (.iconst 0, 1) := by decide +kernel
theorem dX11_compare_130 : decode cX11_compare 130 = .ok (.goto 22, 3) := by decide +kernel
theorem dX11_compare_133 : decode cX11_compare 133 = .ok (.iload_n 1, 1) := by decide +kernel
theorem dX11_compare_134 : decode cX11_compare 134 = .ok (.bipush 61, 2) := by decide +kernel
theorem dX11_compare_136 : decode cX11_compare 136 = .ok (.if_icmp .ne 7, 3) := by decide +kernel
theorem dX11_compare_139 : decode cX11_compare 139 = .ok (.iconst 2, 1) := by decide +kernel
theorem dX11_compare_140 : decode cX11_compare 140 = .ok (.goto 12, 3) := by decide +kernel
theorem dX11_compare_143 : decode cX11_compare 143 = .ok (.iload_n 3, 1) := by decide +kernel
theorem dX11_compare_144 : decode cX11_compare 144 = .ok (.ifCond .eq 7, 3) := by decide +kernel
theorem dX11_compare_147 : decode cX11_compare 147 = .ok (.iconst 3, 1) := by decide +kernel
theorem dX11_compare_148 : decode cX11_compare 148 = .ok (.goto 4, 3) := by decide +kernel
theorem dX11_compare_151 : decode cX11_compare 151 = .ok (.iconst 4, 1) := by decide +kernel
theorem dX11_compare_152 : decode cX11_compare 152 = .ok (.istore 4, 2) := by decide +kernel
theorem dX11_compare_154 : decode cX11_compare 154 = .ok (.aload_n 0, 1) := by decide +kernel
theorem dX11_compare_155 : decode cX11_compare 155 = .ok (.invokevirtual 190, 3) := by decide +kernel
theorem dX11_compare_158 : decode cX11_compare 158 = .ok (.ifCond .ne 5, 3) := by decide +kernel
theorem dX11_compare_161 : decode cX11_compare 161 = .ok (.iconst 0, 1) := by decide +kernel
theorem dX11_compare_162 : decode cX11_compare 162 = .ok (.ireturn, 1) := by decide +kernel
theorem dX11_compare_163 : decode cX11_compare 163 = .ok (.aload_n 0, 1) := by decide +kernel
theorem dX11_compare_164 : decode cX11_compare 164 = .ok (.bipush 6, 2) := by decide +kernel
theorem dX11_compare_166 : decode cX11_compare 166 = .ok (.iload 4, 2) := by decide +kernel
theorem dX11_compare_168 : decode cX11_compare 168 = .ok (.iadd, 1) := by decide +kernel
theorem dX11_compare_169 : decode cX11_compare 169 = .ok (.iconst 0, 1) := by decide +kernel
theorem dX11_compare_170 : decode cX11_compare 170 = .ok (.invokevirtual 169, 3) := by decide +kernel
theorem dX11_compare_173 : decode cX11_compare 173 = .ok (.iconst 1, 1) := by decide +kernel
theorem dX11_compare_174 : decode cX11_compare 174 = .ok (.ireturn, 1) := by decide +kernel
theorem dX11_count_0 : decode cX11_count 0 = .ok (.iload_n 1, 1) := by decide +kernel
theorem dX11_count_1 : decode cX11_count 1 = .ok (.tableswitch 81 0 9 #[55, 55, 62, 67, 67, 67, 67, 67, 67, 76], 55) := by decide +kernel
theorem dX11_count_56 : decode cX11_count 56 = .ok (.aload_n 0, 1) := by decide +kernel
theorem dX11_count_57 : decode cX11_count 57 = .ok (.getfield 42, 3) := by decide +kernel
theorem dX11_count_60 : decode cX11_count 60 = .ok (.iload_n 1, 1) := by decide +kernel
theorem dX11_count_61 : decode cX11_count 61 = .ok (.iaload, 1) := by decide +kernel
theorem dX11_count_62 : decode cX11_count 62 = .ok (.ireturn, 1) := by decide +kernel
theorem dX11_count_63 : decode cX11_count 63 = .ok (.aload_n 0, 1) := by decide +kernel
theorem dX11_count_64 : decode cX11_count 64 = .ok (.getfield 250, 3) := by decide +kernel
theorem dX11_count_67 : decode cX11_count 67 = .ok (.ireturn, 1) := by decide +kernel
theorem dX11_count_68 : decode cX11_count 68 = .ok (.aload_n 0, 1) := by decide +kernel
theorem dX11_count_69 : decode cX11_count 69 = .ok (.getfield 42, 3) := by decide +kernel
theorem dX11_count_72 : decode cX11_count 72 = .ok (.iload_n 1, 1) := by decide +kernel
theorem dX11_count_73 : decode cX11_count 73 = .ok (.iconst 1, 1) := by decide +kernel
theorem dX11_count_74 : decode cX11_count 74 = .ok (.isub, 1) := by decide +kernel
theorem dX11_count_75 : decode cX11_count 75 = .ok (.iaload, 1) := by decide +kernel
theorem dX11_count_76 : decode cX11_count 76 = .ok (.ireturn, 1) := by decide +kernel
theorem dX11_count_77 : decode cX11_count 77 = .ok (.aload_n 0, 1) := by decide +kernel
theorem dX11_count_78 : decode cX11_count 78 = .ok (.getfield 86, 3) := by decide +kernel
theorem dX11_count_81 : decode cX11_count 81 = .ok (.ireturn, 1) := by decide +kernel
theorem dX11_count_82 : decode cX11_count 82 = .ok (.iconst (-1), 1) := by decide +kernel
theorem dX11_count_83 : decode cX11_count 83 = .ok (.ireturn, 1) := by decide +kernel
theorem dX11_covers_0 : decode cX11_covers 0 = .ok (.aload_n 0, 1) := by decide +kernel
theorem dX11_covers_1 : decode cX11_covers 1 = .ok (.iload_n 1, 1) := by decide +kernel
theorem dX11_covers_2 : decode cX11_covers 2 = .ok (.invokevirtual 379, 3) := by decide +kernel
theorem dX11_covers_5 : decode cX11_covers 5 = .ok (.ifCond .ne 5, 3) := by decide +kernel
theorem dX11_covers_8 : decode cX11_covers 8 = .ok (.iconst (-1), 1) := by decide +kernel
theorem dX11_covers_9 : decode cX11_covers 9 = .ok (.ireturn, 1) := by decide +kernel
theorem dX11_covers_10 : decode cX11_covers 10 = .ok (.aload_n 0, 1) := by decide +kernel
theorem dX11_covers_11 : decode cX11_covers 11 = .ok (.iload_n 1, 1) := by decide +kernel
theorem dX11_covers_12 : decode cX11_covers 12 = .ok (.invokevirtual 386, 3) := by decide +kernel
theorem dX11_covers_15 : decode cX11_covers 15 = .ok (.iconst 0, 1) := by decide +kernel
theorem dX11_covers_16 : decode cX11_covers 16 = .ok (.istore_n 2, 1) := by decide +kernel
theorem dX11_covers_17 : decode cX11_covers 17 = .ok (.iload_n 2, 1) := by decide +kernel
theorem dX11_covers_18 : decode cX11_covers 18 = .ok (.sipush 2000, 3) := by decide +kernel
theorem dX11_covers_21 : decode cX11_covers 21 = .ok (.if_icmp .gt 28, 3) := by decide +kernel
theorem dX11_covers_24 : decode cX11_covers 24 = .ok (.aload_n 0, 1) := by decide +kernel
theorem dX11_covers_25 : decode cX11_covers 25 = .ok (.invokevirtual 392, 3) := by decide +kernel
theorem dX11_covers_28 : decode cX11_covers 28 = .ok (.ifCond .eq 5, 3) := by decide +kernel
theorem dX11_covers_31 : decode cX11_covers 31 = .ok (.iload_n 2, 1) := by decide +kernel
theorem dX11_covers_32 : decode cX11_covers 32 = .ok (.ireturn, 1) := by decide +kernel
theorem dX11_covers_33 : decode cX11_covers 33 = .ok (.aload_n 0, 1) := by decide +kernel
theorem dX11_covers_34 : decode cX11_covers 34 = .ok (.invokevirtual 389, 3) := by decide +kernel
theorem dX11_covers_37 : decode cX11_covers 37 = .ok (.ifCond .ne 6, 3) := by decide +kernel
theorem dX11_covers_40 : decode cX11_covers 40 = .ok (.bipush (-2), 2) := by decide +kernel
theorem dX11_covers_42 : decode cX11_covers 42 = .ok (.ireturn, 1) := by decide +kernel
theorem dX11_covers_43 : decode cX11_covers 43 = .ok (.iinc 2 1, 3) := by decide +kernel
theorem dX11_covers_46 : decode cX11_covers 46 = .ok (.goto (-29), 3) := by decide +kernel
theorem dX11_covers_49 : decode cX11_covers 49 = .ok (.bipush (-2), 2) := by decide +kernel
