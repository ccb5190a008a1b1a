theorem dX11_covers_51 : decode cX11_covers 51 = .ok (.ireturn, 1) := by decide +kernel
theorem dX11_days_0 : decode cX11_days 0 = .ok (.aload_n 0, 1) := by decide +kernel
theorem dX11_days_1 : decode cX11_days 1 = .ok (.iload_n 1, 1) := by decide +kernel
theorem dX11_days_2 : decode cX11_days 2 = .ok (.invokevirtual 432, 3) := by decide +kernel
theorem dX11_days_5 : decode cX11_days 5 = .ok (.ifCond .eq 40, 3) := by decide +kernel
theorem dX11_days_8 : decode cX11_days 8 = .ok (.iload_n 2, 1) := by decide +kernel
theorem dX11_days_9 : decode cX11_days 9 = .ok (.i2l, 1) := by decide +kernel
theorem dX11_days_10 : decode cX11_days 10 = .ok (.lconst 1, 1) := by decide +kernel
theorem dX11_days_11 : decode cX11_days 11 = .ok (.ldc2_w 451, 3) := by decide +kernel
theorem dX11_days_14 : decode cX11_days 14 = .ok (.invokestatic 125, 3) := by decide +kernel
theorem dX11_days_17 : decode cX11_days 17 = .ok (.ifCond .eq 28, 3) := by decide +kernel
theorem dX11_days_20 : decode cX11_days 20 = .ok (.iload_n 3, 1) := by decide +kernel
theorem dX11_days_21 : decode cX11_days 21 = .ok (.i2l, 1) := by decide +kernel
theorem dX11_days_22 : decode cX11_days 22 = .ok (.lconst 0, 1) := by decide +kernel
theorem dX11_days_23 : decode cX11_days 23 = .ok (.ldc2_w 453, 3) := by decide +kernel
theorem dX11_days_26 : decode cX11_days 26 = .ok (.invokestatic 125, 3) := by decide +kernel
theorem dX11_days_29 : decode cX11_days 29 = .ok (.ifCond .eq 16, 3) := by decide +kernel
theorem dX11_days_32 : decode cX11_days 32 = .ok (.iload 4, 2) := by decide +kernel
theorem dX11_days_34 : decode cX11_days 34 = .ok (.i2l, 1) := by decide +kernel
theorem dX11_days_35 : decode cX11_days 35 = .ok (.lconst 0, 1) := by decide +kernel
theorem dX11_days_36 : decode cX11_days 36 = .ok (.ldc2_w 384, 3) := by decide +kernel
theorem dX11_days_39 : decode cX11_days 39 = .ok (.invokestatic 125, 3) := by decide +kernel
theorem dX11_days_42 : decode cX11_days 42 = .ok (.ifCond .ne 5, 3) := by decide +kernel
theorem dX11_days_45 : decode cX11_days 45 = .ok (.iconst (-1), 1) := by decide +kernel
theorem dX11_days_46 : decode cX11_days 46 = .ok (.ireturn, 1) := by decide +kernel
theorem dX11_days_47 : decode cX11_days 47 = .ok (.aload_n 0, 1) := by decide +kernel
theorem dX11_days_48 : decode cX11_days 48 = .ok (.invokevirtual 442, 3) := by decide +kernel
theorem dX11_days_51 : decode cX11_days 51 = .ok (.aload_n 0, 1) := by decide +kernel
theorem dX11_days_52 : decode cX11_days 52 = .ok (.getfield 42, 3) := by decide +kernel
theorem dX11_days_55 : decode cX11_days 55 = .ok (.bipush 7, 2) := by decide +kernel
theorem dX11_days_57 : decode cX11_days 57 = .ok (.iaload, 1) := by decide +kernel
theorem dX11_days_58 : decode cX11_days 58 = .ok (.i2l, 1) := by decide +kernel
theorem dX11_days_59 : decode cX11_days 59 = .ok (.lstore 5, 2) := by decide +kernel
theorem dX11_days_61 : decode cX11_days 61 = .ok (.iconst 0, 1) := by decide +kernel
theorem dX11_days_62 : decode cX11_days 62 = .ok (.istore 7, 2) := by decide +kernel
theorem dX11_days_64 : decode cX11_days 64 = .ok (.iconst 0, 1) := by decide +kernel
theorem dX11_days_65 : decode cX11_days 65 = .ok (.istore 8, 2) := by decide +kernel
theorem dX11_days_67 : decode cX11_days 67 = .ok (.iconst 0, 1) := by decide +kernel
theorem dX11_days_68 : decode cX11_days 68 = .ok (.istore 9, 2) := by decide +kernel
theorem dX11_days_70 : decode cX11_days 70 = .ok (.iconst 0, 1) := by decide +kernel
theorem dX11_days_71 : decode cX11_days 71 = .ok (.istore 10, 2) := by decide +kernel
theorem dX11_days_73 : decode cX11_days 73 = .ok (.iload 10, 2) := by decide +kernel
theorem dX11_days_75 : decode cX11_days 75 = .ok (.iload_n 2, 1) := by decide +kernel
theorem dX11_days_76 : decode cX11_days 76 = .ok (.if_icmp .ge 134, 3) := by decide +kernel
theorem dX11_days_79 : decode cX11_days 79 = .ok (.iconst 0, 1) := by decide +kernel
theorem dX11_days_80 : decode cX11_days 80 = .ok (.istore 11, 2) := by decide +kernel
theorem dX11_days_82 : decode cX11_days 82 = .ok (.iload 11, 2) := by decide +kernel
theorem dX11_days_84 : decode cX11_days 84 = .ok (.aload_n 0, 1) := by decide +kernel
theorem dX11_days_85 : decode cX11_days 85 = .ok (.getfield 42, 3) := by decide +kernel
theorem dX11_days_88 : decode cX11_days 88 = .ok (.iconst 1, 1) := by decide +kernel
theorem dX11_days_89 : decode cX11_days 89 = .ok (.iaload, 1) := by decide +kernel
theorem dX11_days_90 : decode cX11_days 90 = .ok (.if_icmp .ge 54, 3) := by decide +kernel
theorem dX11_days_93 : decode cX11_days 93 = .ok (.lload 5, 2) := by decide +kernel
theorem dX11_days_95 : decode cX11_days 95 = .ok (.ldc2_w 455, 3) := by decide +kernel
theorem dX11_days_98 : decode cX11_days 98 = .ok (.lmul, 1) := by decide +kernel
theorem dX11_days_99 : decode cX11_days 99 = .ok (.ldc2_w 457, 3) := by decide +kernel
theorem dX11_days_102 : decode cX11_days 102 = .ok (.ladd, 1) := by decide +kernel
theorem dX11_days_103 : decode cX11_days 103 = .ok (.ldc2_w 459, 3) := by decide +kernel
theorem dX11_days_106 : decode cX11_days 106 = .ok (.lrem, 1) := by decide +kernel
theorem dX11_days_107 : decode cX11_days 107 = .ok (.lstore 5, 2) := by decide +kernel
theorem dX11_days_109 : decode cX11_days 109 = .ok (.aload_n 0, 1) := by decide +kernel
theorem dX11_days_110 : decode cX11_days 110 = .ok (.getfield 42, 3) := by decide +kernel
theorem dX11_days_113 : decode cX11_days 113 = .ok (.bipush 80, 2) := by decide +kernel
theorem dX11_days_115 : decode cX11_days 115 = .ok (.bipush 7, 2) := by decide +kernel
theorem dX11_days_117 : decode cX11_days 117 = .ok (.iload 11, 2) := by decide +kernel
theorem dX11_days_119 : decode cX11_days 119 = .ok (.imul, 1) := by decide +kernel
theorem dX11_days_120 : decode cX11_days 120 = .ok (.iadd, 1) := by decide +kernel
theorem dX11_days_121 : decode cX11_days 121 = .ok (.iconst 2, 1) := by decide +kernel
theorem dX11_days_122 : decode cX11_days 122 = .ok (.iadd, 1) := by decide +kernel
theorem dX11_days_123 : decode cX11_days 123 = .ok (.dup2, 1) := by decide +kernel
theorem dX11_days_124 : decode cX11_days 124 = .ok (.iaload, 1) := by decide +kernel
theorem dX11_days_125 : decode cX11_days 125 = .ok (.lload 5, 2) := by decide +kernel
theorem dX11_days_127 : decode cX11_days 127 = .ok (.ldc2_w 461, 3) := by decide +kernel
theorem dX11_days_130 : decode cX11_days 130 = .ok (.ldiv, 1) := by decide +kernel
theorem dX11_days_131 : decode cX11_days 131 = .ok (.ldc2_w 463, 3) := by decide +kernel
theorem dX11_days_134 : decode cX11_days 134 = .ok (.lrem, 1) := by decide +kernel
theorem dX11_days_135 : decode cX11_days 135 = .ok (.l2i, 1) := by decide +kernel
theorem dX11_days_136 : decode cX11_days 136 = .ok (.iadd, 1) := by decide +kernel
theorem dX11_days_137 : decode cX11_days 137 = .ok (.iastore, 1) := by decide +kernel
theorem dX11_days_138 : decode cX11_days 138 = .ok (.iinc 11 1, 3) := by decide +kernel
theorem dX11_days_141 : decode cX11_days 141 = .ok (.goto (-59), 3) := by decide +kernel
theorem dX11_days_144 : decode cX11_days 144 = .ok (.aload_n 0, 1) := by decide +kernel
theorem dX11_days_145 : decode cX11_days 145 = .ok (.iload_n 1, 1) := by decide +kernel
theorem dX11_days_146 : decode cX11_days 146 = .ok (.iload_n 3, 1) := by decide +kernel
theorem dX11_days_147 : decode cX11_days 147 = .ok (.invokevirtual 437, 3) := by decide +kernel
theorem dX11_days_150 : decode cX11_days 150 = .ok (.iload 7, 2) := by decide +kernel
theorem dX11_days_152 : decode cX11_days 152 = .ok (.aload_n 0, 1) := by decide +kernel
theorem dX11_days_153 : decode cX11_days 153 = .ok (.invokevirtual 445, 3) := by decide +kernel
theorem dX11_days_156 : decode cX11_days 156 = .ok (.iadd, 1) := by decide +kernel
theorem dX11_days_157 : decode cX11_days 157 = .ok (.istore 7, 2) := by decide +kernel
theorem dX11_days_159 : decode cX11_days 159 = .ok (.iload 8, 2) := by decide +kernel
theorem dX11_days_161 : decode cX11_days 161 = .ok (.aload_n 0, 1) := by decide +kernel
theorem dX11_days_162 : decode cX11_days 162 = .ok (.getfield 42, 3) := by decide +kernel
theorem dX11_days_165 : decode cX11_days 165 = .ok (.iconst 5, 1) := by decide +kernel
theorem dX11_days_166 : decode cX11_days 166 = .ok (.iaload, 1) := by decide +kernel
theorem dX11_days_167 : decode cX11_days 167 = .ok (.aload_n 0, 1) := by decide +kernel
theorem dX11_days_168 : decode cX11_days 168 = .ok (.getfield 45, 3) := by decide +kernel
theorem dX11_days_171 : decode cX11_days 171 = .ok (.iconst 5, 1) := by decide +kernel
theorem dX11_days_172 : decode cX11_days 172 = .ok (.iaload, 1) := by decide +kernel
theorem dX11_days_173 : decode cX11_days 173 = .ok (.isub, 1) := by decide +kernel
theorem dX11_days_174 : decode cX11_days 174 = .ok (.iadd, 1) := by decide +kernel
theorem dX11_days_175 : decode cX11_days 175 = .ok (.istore 8, 2) := by decide +kernel
theorem dX11_days_177 : decode cX11_days 177 = .ok (.iload 9, 2) := by decide +kernel
theorem dX11_days_179 : decode cX11_days 179 = .ok (.aload_n 0, 1) := by decide +kernel
theorem dX11_days_180 : decode cX11_days 180 = .ok (.invokevirtual 445, 3) := by decide +kernel
theorem dX11_days_183 : decode cX11_days 183 = .ok (.aload_n 0, 1) := by decide +kernel
theorem dX11_days_184 : decode cX11_days 184 = .ok (.getfield 42, 3) := by decide +kernel
theorem dX11_days_187 : decode cX11_days 187 = .ok (.iconst 1, 1) := by decide +kernel
theorem dX11_days_188 : decode cX11_days 188 = .ok (.iaload, 1) := by decide +kernel
theorem dX11_days_189 : decode cX11_days 189 = .ok (.if_icmp .ne 7, 3) := by decide +kernel
theorem dX11_days_192 : decode cX11_days 192 = .ok (.iconst 1, 1) := by decide +kernel
theorem dX11_days_193 : decode cX11_days 193 = .ok (.goto 4, 3) := by decide +kernel
theorem dX11_days_196 : decode cX11_days 196 = .ok (.iconst 0, 1) := by decide +kernel
theorem dX11_days_197 : decode cX11_days 197 = .ok (.iadd, 1) := by decide +kernel
theorem dX11_days_198 : decode cX11_days 198 = .ok (.istore 9, 2) := by decide +kernel
theorem dX11_days_200 : decode cX11_days 200 = .ok (.aload_n 0, 1) := by decide +kernel
theorem dX11_days_201 : decode cX11_days 201 = .ok (.invokevirtual 448, 3) := by decide +kernel
theorem dX11_days_204 : decode cX11_days 204 = .ok (.iinc 10 1, 3) := by decide +kernel
theorem dX11_days_207 : decode cX11_days 207 = .ok (.goto (-134), 3) := by decide +kernel
theorem dX11_days_210 : decode cX11_days 210 = .ok (.iload 4, 2) := by decide +kernel
theorem dX11_days_212 : decode cX11_days 212 = .ok (.ifCond .ne 8, 3) := by decide +kernel
theorem dX11_days_215 : decode cX11_days 215 = .ok (.iload 7, 2) := by decide +kernel
theorem dX11_days_217 : decode cX11_days 217 = .ok (.goto 16, 3) := by decide +kernel
theorem dX11_days_220 : decode cX11_days 220 = .ok (.iload 4, 2) := by decide +kernel
theorem dX11_days_222 : decode cX11_days 222 = .ok (.iconst 1, 1) := by decide +kernel
theorem dX11_days_223 : decode cX11_days 223 = .ok (.if_icmp .ne 8, 3) := by decide +kernel
theorem dX11_days_226 : decode cX11_days 226 = .ok (.iload 8, 2) := by decide +kernel
theorem dX11_days_228 : decode cX11_days 228 = .ok (.goto 5, 3) := by decide +kernel
theorem dX11_days_231 : decode cX11_days 231 = .ok (.iload 9, 2) := by decide +kernel
theorem dX11_days_233 : decode cX11_days 233 = .ok (.ireturn, 1) := by decide +kernel
theorem dX11_decoys_0 : decode cX11_decoys 0 = .ok (.aload_n 0, 1) := by decide +kernel
theorem dX11_decoys_1 : decode cX11_decoys 1 = .ok (.iload_n 1, 1) := by decide +kernel
theorem dX11_decoys_2 : decode cX11_decoys 2 = .ok (.invokevirtual 313, 3) := by decide +kernel
theorem dX11_decoys_5 : decode cX11_decoys 5 = .ok (.ifCond .ne 5, 3) := by decide +kernel
theorem dX11_decoys_8 : decode cX11_decoys 8 = .ok (.iconst (-1), 1) := by decide +kernel
theorem dX11_decoys_9 : decode cX11_decoys 9 = .ok (.ireturn, 1) := by decide +kernel
theorem dX11_decoys_10 : decode cX11_decoys 10 = .ok (.iconst 0, 1) := by decide +kernel
theorem dX11_decoys_11 : decode cX11_decoys 11 = .ok (.istore_n 2, 1) := by decide +kernel
theorem dX11_decoys_12 : decode cX11_decoys 12 = .ok (.iload_n 2, 1) := by decide +kernel
theorem dX11_decoys_13 : decode cX11_decoys 13 = .ok (.bipush 6, 2) := by decide +kernel
theorem dX11_decoys_15 : decode cX11_decoys 15 = .ok (.if_icmp .ge 104, 3) := by decide +kernel
theorem dX11_decoys_18 : decode cX11_decoys 18 = .ok (.aload_n 0, 1) := by decide +kernel
theorem dX11_decoys_19 : decode cX11_decoys 19 = .ok (.iload_n 2, 1) := by decide +kernel
theorem dX11_decoys_20 : decode cX11_decoys 20 = .ok (.iconst 1, 1) := by decide +kernel
theorem dX11_decoys_21 : decode cX11_decoys 21 = .ok (.iadd, 1) := by decide +kernel
theorem dX11_decoys_22 : decode cX11_decoys 22 = .ok (.invokevirtual 329, 3) := by decide +kernel
theorem dX11_decoys_25 : decode cX11_decoys 25 = .ok (.ifCond .eq 94, 3) := by decide +kernel
theorem dX11_decoys_28 : decode cX11_decoys 28 = .ok (.iconst 0, 1) := by decide +kernel
theorem dX11_decoys_29 : decode cX11_decoys 29 = .ok (.istore_n 3, 1) := by decide +kernel
theorem dX11_decoys_30 : decode cX11_decoys 30 = .ok (.iload_n 3, 1) := by decide +kernel
theorem dX11_decoys_31 : decode cX11_decoys 31 = .ok (.iconst 1, 1) := by decide +kernel
theorem dX11_decoys_32 : decode cX11_decoys 32 = .ok (.aload_n 0, 1) := by decide +kernel
theorem dX11_decoys_33 : decode cX11_decoys 33 = .ok (.getfield 42, 3) := by decide +kernel
theorem dX11_decoys_36 : decode cX11_decoys 36 = .ok (.iconst 1, 1) := by decide +kernel
theorem dX11_decoys_37 : decode cX11_decoys 37 = .ok (.iaload, 1) := by decide +kernel
theorem dX11_decoys_38 : decode cX11_decoys 38 = .ok (.ishl, 1) := by decide +kernel
theorem dX11_decoys_39 : decode cX11_decoys 39 = .ok (.if_icmp .ge 74, 3) := by decide +kernel
theorem dX11_decoys_42 : decode cX11_decoys 42 = .ok (.iload_n 3, 1) := by decide +kernel
theorem dX11_decoys_43 : decode cX11_decoys 43 = .ok (.invokestatic 326, 3) := by decide +kernel
theorem dX11_decoys_46 : decode cX11_decoys 46 = .ok (.iload_n 2, 1) := by decide +kernel
theorem dX11_decoys_47 : decode cX11_decoys 47 = .ok (.if_icmp .ne 60, 3) := by decide +kernel
theorem dX11_decoys_50 : decode cX11_decoys 50 = .ok (.iload_n 3, 1) := by decide +kernel
theorem dX11_decoys_51 : decode cX11_decoys 51 = .ok (.iload_n 1, 1) := by decide +kernel
theorem dX11_decoys_52 : decode cX11_decoys 52 = .ok (.ishr, 1) := by decide +kernel
theorem dX11_decoys_53 : decode cX11_decoys 53 = .ok (.iconst 1, 1) := by decide +kernel
theorem dX11_decoys_54 : decode cX11_decoys 54 = .ok (.iand, 1) := by decide +kernel
theorem dX11_decoys_55 : decode cX11_decoys 55 = .ok (.iconst 1, 1) := by decide +kernel
theorem dX11_decoys_56 : decode cX11_decoys 56 = .ok (.if_icmp .eq 51, 3) := by decide +kernel
theorem dX11_decoys_59 : decode cX11_decoys 59 = .ok (.aload_n 0, 1) := by decide +kernel
theorem dX11_decoys_60 : decode cX11_decoys 60 = .ok (.iload_n 3, 1) := by decide +kernel
theorem dX11_decoys_61 : decode cX11_decoys 61 = .ok (.iconst 1, 1) := by decide +kernel
theorem dX11_decoys_62 : decode cX11_decoys 62 = .ok (.iload_n 1, 1) := by decide +kernel
theorem dX11_decoys_63 : decode cX11_decoys 63 = .ok (.ishl, 1) := by decide +kernel
theorem dX11_decoys_64 : decode cX11_decoys 64 = .ok (.ior, 1) := by decide +kernel
theorem dX11_decoys_65 : decode cX11_decoys 65 = .ok (.invokevirtual 350, 3) := by decide +kernel
theorem dX11_decoys_68 : decode cX11_decoys 68 = .ok (.ifCond .ne 6, 3) := by decide +kernel
theorem dX11_decoys_71 : decode cX11_decoys 71 = .ok (.goto 36, 3) := by decide +kernel
theorem dX11_decoys_74 : decode cX11_decoys 74 = .ok (.aload_n 0, 1) := by decide +kernel
theorem dX11_decoys_75 : decode cX11_decoys 75 = .ok (.iload_n 3, 1) := by decide +kernel
theorem dX11_decoys_76 : decode cX11_decoys 76 = .ok (.iconst 1, 1) := by decide +kernel
theorem dX11_decoys_77 : decode cX11_decoys 77 = .ok (.iload_n 1, 1) := by decide +kernel
theorem dX11_decoys_78 : decode cX11_decoys 78 = .ok (.ishl, 1) := by decide +kernel
theorem dX11_decoys_79 : decode cX11_decoys 79 = .ok (.ior, 1) := by decide +kernel
theorem dX11_decoys_80 : decode cX11_decoys 80 = .ok (.invokevirtual 353, 3) := by decide +kernel
theorem dX11_decoys_83 : decode cX11_decoys 83 = .ok (.iload_n 3, 1) := by decide +kernel
theorem dX11_decoys_84 : decode cX11_decoys 84 = .ok (.iconst 1, 1) := by decide +kernel
theorem dX11_decoys_85 : decode cX11_decoys 85 = .ok (.iload_n 1, 1) := by decide +kernel
theorem dX11_decoys_86 : decode cX11_decoys 86 = .ok (.ishl, 1) := by decide +kernel
theorem dX11_decoys_87 : decode cX11_decoys 87 = .ok (.iconst 1, 1) := by decide +kernel
theorem dX11_decoys_88 : decode cX11_decoys 88 = .ok (.isub, 1) := by decide +kernel
theorem dX11_decoys_89 : decode cX11_decoys 89 = .ok (.iand, 1) := by decide +kernel
theorem dX11_decoys_90 : decode cX11_decoys 90 = .ok (.invokestatic 326, 3) := by decide +kernel
theorem dX11_decoys_93 : decode cX11_decoys 93 = .ok (.istore 4, 2) := by decide +kernel
theorem dX11_decoys_95 : decode cX11_decoys 95 = .ok (.aload_n 0, 1) := by decide +kernel
theorem dX11_decoys_96 : decode cX11_decoys 96 = .ok (.iconst 1, 1) := by decide +kernel
theorem dX11_decoys_97 : decode cX11_decoys 97 = .ok (.iload 4, 2) := by decide +kernel
theorem dX11_decoys_99 : decode cX11_decoys 99 = .ok (.invokevirtual 356, 3) := by decide +kernel
theorem dX11_decoys_102 : decode cX11_decoys 102 = .ok (.ifCond .lt 5, 3) := by decide +kernel
theorem dX11_decoys_105 : decode cX11_decoys 105 = .ok (.iload_n 3, 1) := by decide +kernel
theorem dX11_decoys_106 : decode cX11_decoys 106 = .ok (.ireturn, 1) := by decide +kernel
theorem dX11_decoys_107 : decode cX11_decoys 107 = .ok (.iinc 3 1, 3) := by decide +kernel
theorem dX11_decoys_110 : decode cX11_decoys 110 = .ok (.goto (-80), 3) := by decide +kernel
theorem dX11_decoys_113 : decode cX11_decoys 113 = .ok (.iinc 2 1, 3) := by decide +kernel
theorem dX11_decoys_116 : decode cX11_decoys 116 = .ok (.goto (-104), 3) := by decide +kernel
theorem dX11_decoys_119 : decode cX11_decoys 119 = .ok (.bipush (-2), 2) := by decide +kernel
theorem dX11_decoys_121 : decode cX11_decoys 121 = .ok (.ireturn, 1) := by decide +kernel
theorem dX11_done_0 : decode cX11_done 0 = .ok (.aload_n 0, 1) := by decide +kernel
theorem dX11_done_1 : decode cX11_done 1 = .ok (.aload_n 0, 1) := by decide +kernel
theorem dX11_done_2 : decode cX11_done 2 = .ok (.getfield 42, 3) := by decide +kernel
theorem dX11_done_5 : decode cX11_done 5 = .ok (.bipush 6, 2) := by decide +kernel
theorem dX11_done_7 : decode cX11_done 7 = .ok (.iaload, 1) := by decide +kernel
theorem dX11_done_8 : decode cX11_done 8 = .ok (.invokevirtual 409, 3) := by decide +kernel
theorem dX11_done_11 : decode cX11_done 11 = .ok (.ireturn, 1) := by decide +kernel
theorem dX11_end_0 : decode cX11_end 0 = .ok (.iload_n 1, 1) := by decide +kernel
theorem dX11_end_1 : decode cX11_end 1 = .ok (.ifCond .lt 11, 3) := by decide +kernel
theorem dX11_end_4 : decode cX11_end 4 = .ok (.iload_n 1, 1) := by decide +kernel
theorem dX11_end_5 : decode cX11_end 5 = .ok (.aload_n 0, 1) := by decide +kernel
theorem dX11_end_6 : decode cX11_end 6 = .ok (.getfield 86, 3) := by decide +kernel
theorem dX11_end_9 : decode cX11_end 9 = .ok (.if_icmp .le 5, 3) := by decide +kernel
theorem dX11_end_12 : decode cX11_end 12 = .ok (.iconst (-1), 1) := by decide +kernel
theorem dX11_end_13 : decode cX11_end 13 = .ok (.ireturn, 1) := by decide +kernel
theorem dX11_end_14 : decode cX11_end 14 = .ok (.aload_n 0, 1) := by decide +kernel
theorem dX11_end_15 : decode cX11_end 15 = .ok (.iload_n 1, 1) := by decide +kernel
theorem dX11_end_16 : decode cX11_end 16 = .ok (.putfield 86, 3) := by decide +kernel
theorem dX11_end_19 : decode cX11_end 19 = .ok (.iload_n 1, 1) := by decide +kernel
theorem dX11_end_20 : decode cX11_end 20 = .ok (.ireturn, 1) := by decide +kernel
theorem dX11_endOf_0 : decode cX11_endOf 0 = .ok (.aload_n 0, 1) := by decide +kernel
theorem dX11_endOf_1 : decode cX11_endOf 1 = .ok (.iload_n 2, 1) := by decide +kernel
theorem dX11_endOf_2 : decode cX11_endOf 2 = .ok (.iload_n 1, 1) := by decide +kernel
theorem dX11_endOf_3 : decode cX11_endOf 3 = .ok (.iload_n 2, 1) := by decide +kernel
theorem dX11_endOf_4 : decode cX11_endOf 4 = .ok (.ishr, 1) := by decide +kernel
theorem dX11_endOf_5 : decode cX11_endOf 5 = .ok (.iconst 1, 1) := by decide +kernel
theorem dX11_endOf_6 : decode cX11_endOf 6 = .ok (.iand, 1) := by decide +kernel
theorem dX11_endOf_7 : decode cX11_endOf 7 = .ok (.iconst 1, 1) := by decide +kernel
theorem dX11_endOf_8 : decode cX11_endOf 8 = .ok (.if_icmp .ne 9, 3) := by decide +kernel
theorem dX11_endOf_11 : decode cX11_endOf 11 = .ok (.iconst 1, 1) := by decide +kernel
theorem dX11_endOf_12 : decode cX11_endOf 12 = .ok (.iload_n 3, 1) := by decide +kernel
theorem dX11_endOf_13 : decode cX11_endOf 13 = .ok (.isub, 1) := by decide +kernel
theorem dX11_endOf_14 : decode cX11_endOf 14 = .ok (.goto 4, 3) := by decide +kernel
theorem dX11_endOf_17 : decode cX11_endOf 17 = .ok (.iload_n 3, 1) := by decide +kernel
theorem dX11_endOf_18 : decode cX11_endOf 18 = .ok (.invokevirtual 275, 3) := by decide +kernel
theorem dX11_endOf_21 : decode cX11_endOf 21 = .ok (.ireturn, 1) := by decide +kernel
theorem dX11_fact_0 : decode cX11_fact 0 = .ok (.iconst 1, 1) := by decide +kernel
theorem dX11_fact_1 : decode cX11_fact 1 = .ok (.istore_n 1, 1) := by decide +kernel
theorem dX11_fact_2 : decode cX11_fact 2 = .ok (.iload_n 1, 1) := by decide +kernel
theorem dX11_fact_3 : decode cX11_fact 3 = .ok (.ifCond .eq 72, 3) := by decide +kernel
theorem dX11_fact_6 : decode cX11_fact 6 = .ok (.iconst 0, 1) := by decide +kernel
theorem dX11_fact_7 : decode cX11_fact 7 = .ok (.istore_n 1, 1) := by decide +kernel
theorem dX11_fact_8 : decode cX11_fact 8 = .ok (.aload_n 0, 1) := by decide +kernel
theorem dX11_fact_9 : decode cX11_fact 9 = .ok (.invokevirtual 100, 3) := by decide +kernel
theorem dX11_fact_12 : decode cX11_fact 12 = .ok (.istore_n 2, 1) := by decide +kernel
theorem dX11_fact_13 : decode cX11_fact 13 = .ok (.aload_n 0, 1) := by decide +kernel
theorem dX11_fact_14 : decode cX11_fact 14 = .ok (.ldc2_w 193, 3) := by decide +kernel
theorem dX11_fact_17 : decode cX11_fact 17 = .ok (.invokevirtual 108, 3) := by decide +kernel
theorem dX11_fact_20 : decode cX11_fact 20 = .ok (.ifCond .eq 23, 3) := by decide +kernel
theorem dX11_fact_23 : decode cX11_fact 23 = .ok (.aload_n 0, 1) := by decide +kernel
theorem dX11_fact_24 : decode cX11_fact 24 = .ok (.bipush 11, 2) := by decide +kernel
theorem dX11_fact_26 : decode cX11_fact 26 = .ok (.invokevirtual 195, 3) := by decide +kernel
theorem dX11_fact_29 : decode cX11_fact 29 = .ok (.ifCond .ne 5, 3) := by decide +kernel
theorem dX11_fact_32 : decode cX11_fact 32 = .ok (.iconst 0, 1) := by decide +kernel
theorem dX11_fact_33 : decode cX11_fact 33 = .ok (.ireturn, 1) := by decide +kernel
theorem dX11_fact_34 : decode cX11_fact 34 = .ok (.aload_n 0, 1) := by decide +kernel
theorem dX11_fact_35 : decode cX11_fact 35 = .ok (.invokevirtual 112, 3) := by decide +kernel
theorem dX11_fact_38 : decode cX11_fact 38 = .ok (.iconst 1, 1) := by decide +kernel
theorem dX11_fact_39 : decode cX11_fact 39 = .ok (.istore_n 1, 1) := by decide +kernel
theorem dX11_fact_40 : decode cX11_fact 40 = .ok (.goto 32, 3) := by decide +kernel
theorem dX11_fact_43 : decode cX11_fact 43 = .ok (.iload_n 2, 1) := by decide +kernel
theorem dX11_fact_44 : decode cX11_fact 44 = .ok (.bipush 91, 2) := by decide +kernel
theorem dX11_fact_46 : decode cX11_fact 46 = .ok (.if_icmp .ne 26, 3) := by decide +kernel
theorem dX11_fact_49 : decode cX11_fact 49 = .ok (.aload_n 0, 1) := by decide +kernel
theorem dX11_fact_50 : decode cX11_fact 50 = .ok (.bipush 91, 2) := by decide +kernel
theorem dX11_fact_52 : decode cX11_fact 52 = .ok (.invokevirtual 195, 3) := by decide +kernel
theorem dX11_fact_55 : decode cX11_fact 55 = .ok (.ifCond .ne 5, 3) := by decide +kernel
theorem dX11_fact_58 : decode cX11_fact 58 = .ok (.iconst 0, 1) := by decide +kernel
theorem dX11_fact_59 : decode cX11_fact 59 = .ok (.ireturn, 1) := by decide +kernel
theorem dX11_fact_60 : decode cX11_fact 60 = .ok (.aload_n 0, 1) := by decide +kernel
theorem dX11_fact_61 : decode cX11_fact 61 = .ok (.dup, 1) := by decide +kernel
theorem dX11_fact_62 : decode cX11_fact 62 = .ok (.getfield 97, 3) := by decide +kernel
theorem dX11_fact_65 : decode cX11_fact 65 = .ok (.iconst 1, 1) := by decide +kernel
theorem dX11_fact_66 : decode cX11_fact 66 = .ok (.iadd, 1) := by decide +kernel
theorem dX11_fact_67 : decode cX11_fact 67 = .ok (.putfield 97, 3) := by decide +kernel
theorem dX11_fact_70 : decode cX11_fact 70 = .ok (.iconst 1, 1) := by decide +kernel
theorem dX11_fact_71 : decode cX11_fact 71 = .ok (.istore_n 1, 1) := by decide +kernel
theorem dX11_fact_72 : decode cX11_fact 72 = .ok (.goto (-70), 3) := by decide +kernel
theorem dX11_fact_75 : decode cX11_fact 75 = .ok (.aload_n 0, 1) := by decide +kernel
theorem dX11_fact_76 : decode cX11_fact 76 = .ok (.invokevirtual 198, 3) := by decide +kernel
theorem dX11_fact_79 : decode cX11_fact 79 = .ok (.ireturn, 1) := by decide +kernel
theorem dX11_fails_0 : decode cX11_fails 0 = .ok (.aload_n 0, 1) := by decide +kernel
theorem dX11_fails_1 : decode cX11_fails 1 = .ok (.getfield 94, 3) := by decide +kernel
theorem dX11_fails_4 : decode cX11_fails 4 = .ok (.ifCond .ne 15, 3) := by decide +kernel
theorem dX11_fails_7 : decode cX11_fails 7 = .ok (.aload_n 0, 1) := by decide +kernel
theorem dX11_fails_8 : decode cX11_fails 8 = .ok (.iconst 1, 1) := by decide +kernel
theorem dX11_fails_9 : decode cX11_fails 9 = .ok (.bipush 8, 2) := by decide +kernel
theorem dX11_fails_11 : decode cX11_fails 11 = .ok (.iload_n 2, 1) := by decide +kernel
theorem dX11_fails_12 : decode cX11_fails 12 = .ok (.imul, 1) := by decide +kernel
theorem dX11_fails_13 : decode cX11_fails 13 = .ok (.iadd, 1) := by decide +kernel
theorem dX11_fails_14 : decode cX11_fails 14 = .ok (.iload_n 1, 1) := by decide +kernel
theorem dX11_fails_15 : decode cX11_fails 15 = .ok (.iadd, 1) := by decide +kernel
theorem dX11_fails_16 : decode cX11_fails 16 = .ok (.putfield 94, 3) := by decide +kernel
theorem dX11_fails_19 : decode cX11_fails 19 = .ok (.iconst 0, 1) := by decide +kernel
theorem dX11_fails_20 : decode cX11_fails 20 = .ok (.ireturn, 1) := by decide +kernel
theorem dX11_far_0 : decode cX11_far 0 = .ok (.iload_n 1, 1) := by decide +kernel
theorem dX11_far_1 : decode cX11_far 1 = .ok (.invokestatic 299, 3) := by decide +kernel
theorem dX11_far_4 : decode cX11_far 4 = .ok (.ifCond .eq 10, 3) := by decide +kernel
theorem dX11_far_7 : decode cX11_far 7 = .ok (.iload_n 2, 1) := by decide +kernel
theorem dX11_far_8 : decode cX11_far 8 = .ok (.invokestatic 299, 3) := by decide +kernel
theorem dX11_far_11 : decode cX11_far 11 = .ok (.ifCond .ne 5, 3) := by decide +kernel
theorem dX11_far_14 : decode cX11_far 14 = .ok (.iconst (-1), 1) := by decide +kernel
theorem dX11_far_15 : decode cX11_far 15 = .ok (.ireturn, 1) := by decide +kernel
theorem dX11_far_16 : decode cX11_far 16 = .ok (.aload_n 0, 1) := by decide +kernel
theorem dX11_far_17 : decode cX11_far 17 = .ok (.iload_n 1, 1) := by decide +kernel
theorem dX11_far_18 : decode cX11_far 18 = .ok (.invokevirtual 310, 3) := by decide +kernel
theorem dX11_far_21 : decode cX11_far 21 = .ok (.aload_n 0, 1) := by decide +kernel
theorem dX11_far_22 : decode cX11_far 22 = .ok (.getfield 48, 3) := by decide +kernel
theorem dX11_far_25 : decode cX11_far 25 = .ok (.iload_n 2, 1) := by decide +kernel
theorem dX11_far_26 : decode cX11_far 26 = .ok (.iaload, 1) := by decide +kernel
theorem dX11_far_27 : decode cX11_far 27 = .ok (.ifCond .ge 8, 3) := by decide +kernel
theorem dX11_far_30 : decode cX11_far 30 = .ok (.bipush (-2), 2) := by decide +kernel
theorem dX11_far_32 : decode cX11_far 32 = .ok (.goto 9, 3) := by decide +kernel
theorem dX11_far_35 : decode cX11_far 35 = .ok (.aload_n 0, 1) := by decide +kernel
theorem dX11_far_36 : decode cX11_far 36 = .ok (.getfield 48, 3) := by decide +kernel
theorem dX11_far_39 : decode cX11_far 39 = .ok (.iload_n 2, 1) := by decide +kernel
theorem dX11_far_40 : decode cX11_far 40 = .ok (.iaload, 1) := by decide +kernel
theorem dX11_far_41 : decode cX11_far 41 = .ok (.ireturn, 1) := by decide +kernel
theorem dX11_feed_0 : decode cX11_feed 0 = .ok (.aload_n 0, 1) := by decide +kernel
theorem dX11_feed_1 : decode cX11_feed 1 = .ok (.getfield 86, 3) := by decide +kernel
theorem dX11_feed_4 : decode cX11_feed 4 = .ok (.bipush 20, 2) := by decide +kernel
theorem dX11_feed_6 : decode cX11_feed 6 = .ok (.iadd, 1) := by decide +kernel
theorem dX11_feed_7 : decode cX11_feed 7 = .ok (.sipush 400, 3) := by decide +kernel
theorem dX11_feed_10 : decode cX11_feed 10 = .ok (.if_icmp .le 5, 3) := by decide +kernel
theorem dX11_feed_13 : decode cX11_feed 13 = .ok (.iconst (-1), 1) := by decide +kernel
theorem dX11_feed_14 : decode cX11_feed 14 = .ok (.ireturn, 1) := by decide +kernel
theorem dX11_feed_15 : decode cX11_feed 15 = .ok (.aload_n 0, 1) := by decide +kernel
theorem dX11_feed_16 : decode cX11_feed 16 = .ok (.iload_n 1, 1) := by decide +kernel
theorem dX11_feed_17 : decode cX11_feed 17 = .ok (.invokevirtual 90, 3) := by decide +kernel
theorem dX11_feed_20 : decode cX11_feed 20 = .ok (.aload_n 0, 1) := by decide +kernel
theorem dX11_feed_21 : decode cX11_feed 21 = .ok (.iload_n 2, 1) := by decide +kernel
theorem dX11_feed_22 : decode cX11_feed 22 = .ok (.invokevirtual 90, 3) := by decide +kernel
theorem dX11_feed_25 : decode cX11_feed 25 = .ok (.aload_n 0, 1) := by decide +kernel
theorem dX11_feed_26 : decode cX11_feed 26 = .ok (.iload_n 3, 1) := by decide +kernel
theorem dX11_feed_27 : decode cX11_feed 27 = .ok (.invokevirtual 90, 3) := by decide +kernel
theorem dX11_feed_30 : decode cX11_feed 30 = .ok (.aload_n 0, 1) := by decide +kernel
theorem dX11_feed_31 : decode cX11_feed 31 = .ok (.iload 4, 2) := by decide +kernel
theorem dX11_feed_33 : decode cX11_feed 33 = .ok (.invokevirtual 90, 3) := by decide +kernel
theorem dX11_feed_36 : decode cX11_feed 36 = .ok (.aload_n 0, 1) := by decide +kernel
theorem dX11_feed_37 : decode cX11_feed 37 = .ok (.iload 5, 2) := by decide +kernel
theorem dX11_feed_39 : decode cX11_feed 39 = .ok (.invokevirtual 90, 3) := by decide +kernel
theorem dX11_feed_42 : decode cX11_feed 42 = .ok (.aload_n 0, 1) := by decide +kernel
theorem dX11_feed_43 : decode cX11_feed 43 = .ok (.getfield 86, 3) := by decide +kernel
theorem dX11_feed_46 : decode cX11_feed 46 = .ok (.ireturn, 1) := by decide +kernel
theorem dX11_fewest_0 : decode cX11_fewest 0 = .ok (.aload_n 0, 1) := by decide +kernel
theorem dX11_fewest_1 : decode cX11_fewest 1 = .ok (.iload_n 1, 1) := by decide +kernel
theorem dX11_fewest_2 : decode cX11_fewest 2 = .ok (.invokevirtual 350, 3) := by decide +kernel
theorem dX11_fewest_5 : decode cX11_fewest 5 = .ok (.ifCond .ne 5, 3) := by decide +kernel
theorem dX11_fewest_8 : decode cX11_fewest 8 = .ok (.iconst (-1), 1) := by decide +kernel
theorem dX11_fewest_9 : decode cX11_fewest 9 = .ok (.ireturn, 1) := by decide +kernel
theorem dX11_fewest_10 : decode cX11_fewest 10 = .ok (.aload_n 0, 1) := by decide +kernel
theorem dX11_fewest_11 : decode cX11_fewest 11 = .ok (.iload_n 1, 1) := by decide +kernel
theorem dX11_fewest_12 : decode cX11_fewest 12 = .ok (.invokevirtual 353, 3) := by decide +kernel
theorem dX11_fewest_15 : decode cX11_fewest 15 = .ok (.aload_n 0, 1) := by decide +kernel
theorem dX11_fewest_16 : decode cX11_fewest 16 = .ok (.iconst 1, 1) := by decide +kernel
theorem dX11_fewest_17 : decode cX11_fewest 17 = .ok (.iconst (-1), 1) := by decide +kernel
theorem dX11_fewest_18 : decode cX11_fewest 18 = .ok (.invokevirtual 356, 3) := by decide +kernel
theorem dX11_fewest_21 : decode cX11_fewest 21 = .ok (.istore_n 2, 1) := by decide +kernel
theorem dX11_fewest_22 : decode cX11_fewest 22 = .ok (.iload_n 2, 1) := by decide +kernel
theorem dX11_fewest_23 : decode cX11_fewest 23 = .ok (.ifCond .ge 8, 3) := by decide +kernel
theorem dX11_fewest_26 : decode cX11_fewest 26 = .ok (.bipush (-2), 2) := by decide +kernel
theorem dX11_fewest_28 : decode cX11_fewest 28 = .ok (.goto 8, 3) := by decide +kernel
theorem dX11_fewest_31 : decode cX11_fewest 31 = .ok (.aload_n 0, 1) := by decide +kernel
theorem dX11_fewest_32 : decode cX11_fewest 32 = .ok (.iload_n 2, 1) := by decide +kernel
theorem dX11_fewest_33 : decode cX11_fewest 33 = .ok (.invokevirtual 360, 3) := by decide +kernel
theorem dX11_fewest_36 : decode cX11_fewest 36 = .ok (.ireturn, 1) := by decide +kernel
theorem dX11_finest_0 : decode cX11_finest 0 = .ok (.iload_n 1, 1) := by decide +kernel
theorem dX11_finest_1 : decode cX11_finest 1 = .ok (.i2l, 1) := by decide +kernel
theorem dX11_finest_2 : decode cX11_finest 2 = .ok (.lconst 0, 1) := by decide +kernel
theorem dX11_finest_3 : decode cX11_finest 3 = .ok (.ldc2_w 435, 3) := by decide +kernel
theorem dX11_finest_6 : decode cX11_finest 6 = .ok (.invokestatic 125, 3) := by decide +kernel
theorem dX11_finest_9 : decode cX11_finest 9 = .ok (.ifCond .ne 5, 3) := by decide +kernel
theorem dX11_finest_12 : decode cX11_finest 12 = .ok (.iconst (-1), 1) := by decide +kernel
theorem dX11_finest_13 : decode cX11_finest 13 = .ok (.ireturn, 1) := by decide +kernel
theorem dX11_finest_14 : decode cX11_finest 14 = .ok (.bipush (-2), 2) := by decide +kernel
theorem dX11_finest_16 : decode cX11_finest 16 = .ok (.istore_n 2, 1) := by decide +kernel
theorem dX11_finest_17 : decode cX11_finest 17 = .ok (.iconst 0, 1) := by decide +kernel
theorem dX11_finest_18 : decode cX11_finest 18 = .ok (.istore_n 3, 1) := by decide +kernel
theorem dX11_finest_19 : decode cX11_finest 19 = .ok (.iconst 0, 1) := by decide +kernel
theorem dX11_finest_20 : decode cX11_finest 20 = .ok (.istore 4, 2) := by decide +kernel
theorem dX11_finest_22 : decode cX11_finest 22 = .ok (.aload_n 0, 1) := by decide +kernel
theorem dX11_finest_23 : decode cX11_finest 23 = .ok (.invokevirtual 442, 3) := by decide +kernel
theorem dX11_finest_26 : decode cX11_finest 26 = .ok (.iconst 0, 1) := by decide +kernel
theorem dX11_finest_27 : decode cX11_finest 27 = .ok (.istore 5, 2) := by decide +kernel
theorem dX11_finest_29 : decode cX11_finest 29 = .ok (.iload 5, 2) := by decide +kernel
theorem dX11_finest_31 : decode cX11_finest 31 = .ok (.aload_n 0, 1) := by decide +kernel
theorem dX11_finest_32 : decode cX11_finest 32 = .ok (.getfield 250, 3) := by decide +kernel
theorem dX11_finest_35 : decode cX11_finest 35 = .ok (.if_icmp .ge 70, 3) := by decide +kernel
theorem dX11_finest_38 : decode cX11_finest 38 = .ok (.aload_n 0, 1) := by decide +kernel
theorem dX11_finest_39 : decode cX11_finest 39 = .ok (.iload 5, 2) := by decide +kernel
theorem dX11_finest_41 : decode cX11_finest 41 = .ok (.iload_n 1, 1) := by decide +kernel
theorem dX11_finest_42 : decode cX11_finest 42 = .ok (.invokevirtual 437, 3) := by decide +kernel
theorem dX11_finest_45 : decode cX11_finest 45 = .ok (.aload_n 0, 1) := by decide +kernel
theorem dX11_finest_46 : decode cX11_finest 46 = .ok (.invokevirtual 445, 3) := by decide +kernel
theorem dX11_finest_49 : decode cX11_finest 49 = .ok (.istore 6, 2) := by decide +kernel
theorem dX11_finest_51 : decode cX11_finest 51 = .ok (.aload_n 0, 1) := by decide +kernel
theorem dX11_finest_52 : decode cX11_finest 52 = .ok (.getfield 42, 3) := by decide +kernel
theorem dX11_finest_55 : decode cX11_finest 55 = .ok (.iconst 5, 1) := by decide +kernel
theorem dX11_finest_56 : decode cX11_finest 56 = .ok (.iaload, 1) := by decide +kernel
theorem dX11_finest_57 : decode cX11_finest 57 = .ok (.istore 7, 2) := by decide +kernel
theorem dX11_finest_59 : decode cX11_finest 59 = .ok (.aload_n 0, 1) := by decide +kernel
theorem dX11_finest_60 : decode cX11_finest 60 = .ok (.invokevirtual 448, 3) := by decide +kernel
theorem dX11_finest_63 : decode cX11_finest 63 = .ok (.iload_n 2, 1) := by decide +kernel
theorem dX11_finest_64 : decode cX11_finest 64 = .ok (.ifCond .lt 25, 3) := by decide +kernel
theorem dX11_finest_67 : decode cX11_finest 67 = .ok (.iload 6, 2) := by decide +kernel
theorem dX11_finest_69 : decode cX11_finest 69 = .ok (.iload_n 3, 1) := by decide +kernel
theorem dX11_finest_70 : decode cX11_finest 70 = .ok (.if_icmp .lt 29, 3) := by decide +kernel
theorem dX11_finest_73 : decode cX11_finest 73 = .ok (.iload 6, 2) := by decide +kernel
theorem dX11_finest_75 : decode cX11_finest 75 = .ok (.iload_n 3, 1) := by decide +kernel
theorem dX11_finest_76 : decode cX11_finest 76 = .ok (.if_icmp .ne 13, 3) := by decide +kernel
theorem dX11_finest_79 : decode cX11_finest 79 = .ok (.iload 7, 2) := by decide +kernel
theorem dX11_finest_81 : decode cX11_finest 81 = .ok (.iload 4, 2) := by decide +kernel
theorem dX11_finest_83 : decode cX11_finest 83 = .ok (.if_icmp .lt 6, 3) := by decide +kernel
theorem dX11_finest_86 : decode cX11_finest 86 = .ok (.goto 13, 3) := by decide +kernel
theorem dX11_finest_89 : decode cX11_finest 89 = .ok (.iload 5, 2) := by decide +kernel
theorem dX11_finest_91 : decode cX11_finest 91 = .ok (.istore_n 2, 1) := by decide +kernel
theorem dX11_finest_92 : decode cX11_finest 92 = .ok (.iload 6, 2) := by decide +kernel
theorem dX11_finest_94 : decode cX11_finest 94 = .ok (.istore_n 3, 1) := by decide +kernel
theorem dX11_finest_95 : decode cX11_finest 95 = .ok (.iload 7, 2) := by decide +kernel
theorem dX11_finest_97 : decode cX11_finest 97 = .ok (.istore 4, 2) := by decide +kernel
theorem dX11_finest_99 : decode cX11_finest 99 = .ok (.iinc 5 1, 3) := by decide +kernel
theorem dX11_finest_102 : decode cX11_finest 102 = .ok (.goto (-73), 3) := by decide +kernel
theorem dX11_finest_105 : decode cX11_finest 105 = .ok (.iload_n 2, 1) := by decide +kernel
theorem dX11_finest_106 : decode cX11_finest 106 = .ok (.ireturn, 1) := by decide +kernel
theorem dX11_fits_0 : decode cX11_fits 0 = .ok (.aload_n 0, 1) := by decide +kernel
theorem dX11_fits_1 : decode cX11_fits 1 = .ok (.getfield 42, 3) := by decide +kernel
theorem dX11_fits_4 : decode cX11_fits 4 = .ok (.iconst 0, 1) := by decide +kernel
theorem dX11_fits_5 : decode cX11_fits 5 = .ok (.iaload, 1) := by decide +kernel
theorem dX11_fits_6 : decode cX11_fits 6 = .ok (.iconst 3, 1) := by decide +kernel
theorem dX11_fits_7 : decode cX11_fits 7 = .ok (.iload_n 1, 1) := by decide +kernel
theorem dX11_fits_8 : decode cX11_fits 8 = .ok (.imul, 1) := by decide +kernel
theorem dX11_fits_9 : decode cX11_fits 9 = .ok (.iadd, 1) := by decide +kernel
theorem dX11_fits_10 : decode cX11_fits 10 = .ok (.bipush 20, 2) := by decide +kernel
theorem dX11_fits_12 : decode cX11_fits 12 = .ok (.if_icmp .gt 7, 3) := by decide +kernel
theorem dX11_fits_15 : decode cX11_fits 15 = .ok (.iconst 1, 1) := by decide +kernel
theorem dX11_fits_16 : decode cX11_fits 16 = .ok (.goto 4, 3) := by decide +kernel
theorem dX11_fits_19 : decode cX11_fits 19 = .ok (.iconst 0, 1) := by decide +kernel
theorem dX11_fits_20 : decode cX11_fits 20 = .ok (.ireturn, 1) := by decide +kernel
theorem dX11_four_0 : decode cX11_four 0 = .ok (.bipush 24, 2) := by decide +kernel
theorem dX11_four_2 : decode cX11_four 2 = .ok (.istore_n 2, 1) := by decide +kernel
theorem dX11_four_3 : decode cX11_four 3 = .ok (.iload_n 2, 1) := by decide +kernel
theorem dX11_four_4 : decode cX11_four 4 = .ok (.ifCond .lt 32, 3) := by decide +kernel
theorem dX11_four_7 : decode cX11_four 7 = .ok (.aload_n 0, 1) := by decide +kernel
theorem dX11_four_8 : decode cX11_four 8 = .ok (.getfield 7, 3) := by decide +kernel
theorem dX11_four_11 : decode cX11_four 11 = .ok (.aload_n 0, 1) := by decide +kernel
theorem dX11_four_12 : decode cX11_four 12 = .ok (.getfield 86, 3) := by decide +kernel
theorem dX11_four_15 : decode cX11_four 15 = .ok (.iload_n 1, 1) := by decide +kernel
theorem dX11_four_16 : decode cX11_four 16 = .ok (.iload_n 2, 1) := by decide +kernel
theorem dX11_four_17 : decode cX11_four 17 = .ok (.ishr, 1) := by decide +kernel
theorem dX11_four_18 : decode cX11_four 18 = .ok (.i2b, 1) := by decide +kernel
theorem dX11_four_19 : decode cX11_four 19 = .ok (.bastore, 1) := by decide +kernel
theorem dX11_four_20 : decode cX11_four 20 = .ok (.aload_n 0, 1) := by decide +kernel
theorem dX11_four_21 : decode cX11_four 21 = .ok (.dup, 1) := by decide +kernel
theorem dX11_four_22 : decode cX11_four 22 = .ok (.getfield 86, 3) := by decide +kernel
theorem dX11_four_25 : decode cX11_four 25 = .ok (.iconst 1, 1) := by decide +kernel
theorem dX11_four_26 : decode cX11_four 26 = .ok (.iadd, 1) := by decide +kernel
theorem dX11_four_27 : decode cX11_four 27 = .ok (.putfield 86, 3) := by decide +kernel
theorem dX11_four_30 : decode cX11_four 30 = .ok (.iinc 2 (-8), 3) := by decide +kernel
theorem dX11_four_33 : decode cX11_four 33 = .ok (.goto (-30), 3) := by decide +kernel
theorem dX11_four_36 : decode cX11_four 36 = .ok (.return_, 1) := by decide +kernel
theorem dX11_free_0 : decode cX11_free 0 = .ok (.iload_n 1, 1) := by decide +kernel
theorem dX11_free_1 : decode cX11_free 1 = .ok (.i2l, 1) := by decide +kernel
theorem dX11_free_2 : decode cX11_free 2 = .ok (.lconst 0, 1) := by decide +kernel
theorem dX11_free_3 : decode cX11_free 3 = .ok (.aload_n 0, 1) := by decide +kernel
theorem dX11_free_4 : decode cX11_free 4 = .ok (.getfield 42, 3) := by decide +kernel
theorem dX11_free_7 : decode cX11_free 7 = .ok (.bipush 6, 2) := by decide +kernel
theorem dX11_free_9 : decode cX11_free 9 = .ok (.iaload, 1) := by decide +kernel
theorem dX11_free_10 : decode cX11_free 10 = .ok (.iconst 2, 1) := by decide +kernel
theorem dX11_free_11 : decode cX11_free 11 = .ok (.isub, 1) := by decide +kernel
theorem dX11_free_12 : decode cX11_free 12 = .ok (.i2l, 1) := by decide +kernel
theorem dX11_free_13 : decode cX11_free 13 = .ok (.invokestatic 125, 3) := by decide +kernel
theorem dX11_free_16 : decode cX11_free 16 = .ok (.ifCond .ne 5, 3) := by decide +kernel
theorem dX11_free_19 : decode cX11_free 19 = .ok (.iconst (-1), 1) := by decide +kernel
theorem dX11_free_20 : decode cX11_free 20 = .ok (.ireturn, 1) := by decide +kernel
theorem dX11_free_21 : decode cX11_free 21 = .ok (.aload_n 0, 1) := by decide +kernel
theorem dX11_free_22 : decode cX11_free 22 = .ok (.iload_n 1, 1) := by decide +kernel
theorem dX11_free_23 : decode cX11_free 23 = .ok (.invokevirtual 409, 3) := by decide +kernel
theorem dX11_free_26 : decode cX11_free 26 = .ok (.iload_n 1, 1) := by decide +kernel
theorem dX11_free_27 : decode cX11_free 27 = .ok (.if_icmp .lt 21, 3) := by decide +kernel
theorem dX11_free_30 : decode cX11_free 30 = .ok (.aload_n 0, 1) := by decide +kernel
theorem dX11_free_31 : decode cX11_free 31 = .ok (.iload_n 1, 1) := by decide +kernel
theorem dX11_free_32 : decode cX11_free 32 = .ok (.invokevirtual 406, 3) := by decide +kernel
theorem dX11_free_35 : decode cX11_free 35 = .ok (.ifCond .eq 13, 3) := by decide +kernel
theorem dX11_free_38 : decode cX11_free 38 = .ok (.aload_n 0, 1) := by decide +kernel
theorem dX11_free_39 : decode cX11_free 39 = .ok (.iload_n 1, 1) := by decide +kernel
theorem dX11_free_40 : decode cX11_free 40 = .ok (.iconst 1, 1) := by decide +kernel
theorem dX11_free_41 : decode cX11_free 41 = .ok (.iadd, 1) := by decide +kernel
theorem dX11_free_42 : decode cX11_free 42 = .ok (.invokevirtual 406, 3) := by decide +kernel
theorem dX11_free_45 : decode cX11_free 45 = .ok (.ifCond .ne 5, 3) := by decide +kernel
theorem dX11_free_48 : decode cX11_free 48 = .ok (.iconst 0, 1) := by decide +kernel
theorem dX11_free_49 : decode cX11_free 49 = .ok (.ireturn, 1) := by decide +kernel
theorem dX11_free_50 : decode cX11_free 50 = .ok (.aload_n 0, 1) := by decide +kernel
theorem dX11_free_51 : decode cX11_free 51 = .ok (.invokevirtual 412, 3) := by decide +kernel
theorem dX11_free_54 : decode cX11_free 54 = .ok (.lstore_n 2, 1) := by decide +kernel
