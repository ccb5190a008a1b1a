theorem dX6_read_106 : decode cX6_read 106 = .ok (.aload_n 0, 1) := by decide +kernel
theorem dX6_read_107 : decode cX6_read 107 = .ok (.getfield 20, 3) := by decide +kernel
theorem dX6_read_110 : decode cX6_read 110 = .ok (.iastore, 1) := by decide +kernel
theorem dX6_read_111 : decode cX6_read 111 = .ok (.iload_n 3, 1) := by decide +kernel
theorem dX6_read_112 : decode cX6_read 112 = .ok (.bipush 12, 2) := by decide +kernel
theorem dX6_read_114 : decode cX6_read 114 = .ok (.if_icmp .ne 12, 3) := by decide +kernel
theorem dX6_read_117 : decode cX6_read 117 = .ok (.aload_n 0, 1) := by decide +kernel
theorem dX6_read_118 : decode cX6_read 118 = .ok (.invokevirtual 50, 3) := by decide +kernel
theorem dX6_read_121 : decode cX6_read 121 = .ok (.ifCond .ne 5, 3) := by decide +kernel
theorem dX6_read_124 : decode cX6_read 124 = .ok (.aconst_null, 1) := by decide +kernel
theorem dX6_read_125 : decode cX6_read 125 = .ok (.areturn, 1) := by decide +kernel
theorem dX6_read_126 : decode cX6_read 126 = .ok (.aload_n 0, 1) := by decide +kernel
theorem dX6_read_127 : decode cX6_read 127 = .ok (.getfield 17, 3) := by decide +kernel
theorem dX6_read_130 : decode cX6_read 130 = .ok (.iconst 3, 1) := by decide +kernel
theorem dX6_read_131 : decode cX6_read 131 = .ok (.iload_n 2, 1) := by decide +kernel
theorem dX6_read_132 : decode cX6_read 132 = .ok (.imul, 1) := by decide +kernel
theorem dX6_read_133 : decode cX6_read 133 = .ok (.iconst 1, 1) := by decide +kernel
theorem dX6_read_134 : decode cX6_read 134 = .ok (.iadd, 1) := by decide +kernel
theorem dX6_read_135 : decode cX6_read 135 = .ok (.aload_n 0, 1) := by decide +kernel
theorem dX6_read_136 : decode cX6_read 136 = .ok (.getfield 20, 3) := by decide +kernel
theorem dX6_read_139 : decode cX6_read 139 = .ok (.iastore, 1) := by decide +kernel
theorem dX6_read_140 : decode cX6_read 140 = .ok (.iload_n 3, 1) := by decide +kernel
theorem dX6_read_141 : decode cX6_read 141 = .ok (.bipush 13, 2) := by decide +kernel
theorem dX6_read_143 : decode cX6_read 143 = .ok (.if_icmp .ne 7, 3) := by decide +kernel
theorem dX6_read_146 : decode cX6_read 146 = .ok (.iconst 1, 1) := by decide +kernel
theorem dX6_read_147 : decode cX6_read 147 = .ok (.goto 4, 3) := by decide +kernel
theorem dX6_read_150 : decode cX6_read 150 = .ok (.iconst 0, 1) := by decide +kernel
theorem dX6_read_151 : decode cX6_read 151 = .ok (.istore 5, 2) := by decide +kernel
theorem dX6_read_153 : decode cX6_read 153 = .ok (.iload 5, 2) := by decide +kernel
theorem dX6_read_155 : decode cX6_read 155 = .ok (.ifCond .ne 25, 3) := by decide +kernel
theorem dX6_read_158 : decode cX6_read 158 = .ok (.aload_n 0, 1) := by decide +kernel
theorem dX6_read_159 : decode cX6_read 159 = .ok (.getfield 27, 3) := by decide +kernel
theorem dX6_read_162 : decode cX6_read 162 = .ok (.invokevirtual 36, 3) := by decide +kernel
theorem dX6_read_165 : decode cX6_read 165 = .ok (.bipush 14, 2) := by decide +kernel
theorem dX6_read_167 : decode cX6_read 167 = .ok (.if_icmp .ne 13, 3) := by decide +kernel
theorem dX6_read_170 : decode cX6_read 170 = .ok (.aload_n 0, 1) := by decide +kernel
theorem dX6_read_171 : decode cX6_read 171 = .ok (.getfield 27, 3) := by decide +kernel
theorem dX6_read_174 : decode cX6_read 174 = .ok (.invokevirtual 47, 3) := by decide +kernel
theorem dX6_read_177 : decode cX6_read 177 = .ok (.iconst 1, 1) := by decide +kernel
theorem dX6_read_178 : decode cX6_read 178 = .ok (.istore 5, 2) := by decide +kernel
theorem dX6_read_180 : decode cX6_read 180 = .ok (.iload 5, 2) := by decide +kernel
theorem dX6_read_182 : decode cX6_read 182 = .ok (.ifCond .eq 13, 3) := by decide +kernel
theorem dX6_read_185 : decode cX6_read 185 = .ok (.aload_n 0, 1) := by decide +kernel
theorem dX6_read_186 : decode cX6_read 186 = .ok (.iconst 0, 1) := by decide +kernel
theorem dX6_read_187 : decode cX6_read 187 = .ok (.invokevirtual 54, 3) := by decide +kernel
theorem dX6_read_190 : decode cX6_read 190 = .ok (.ifCond .ne 5, 3) := by decide +kernel
theorem dX6_read_193 : decode cX6_read 193 = .ok (.aconst_null, 1) := by decide +kernel
theorem dX6_read_194 : decode cX6_read 194 = .ok (.areturn, 1) := by decide +kernel
theorem dX6_read_195 : decode cX6_read 195 = .ok (.aload_n 0, 1) := by decide +kernel
theorem dX6_read_196 : decode cX6_read 196 = .ok (.getfield 17, 3) := by decide +kernel
theorem dX6_read_199 : decode cX6_read 199 = .ok (.iconst 3, 1) := by decide +kernel
theorem dX6_read_200 : decode cX6_read 200 = .ok (.iload_n 2, 1) := by decide +kernel
theorem dX6_read_201 : decode cX6_read 201 = .ok (.imul, 1) := by decide +kernel
theorem dX6_read_202 : decode cX6_read 202 = .ok (.iconst 2, 1) := by decide +kernel
theorem dX6_read_203 : decode cX6_read 203 = .ok (.iadd, 1) := by decide +kernel
theorem dX6_read_204 : decode cX6_read 204 = .ok (.aload_n 0, 1) := by decide +kernel
theorem dX6_read_205 : decode cX6_read 205 = .ok (.getfield 20, 3) := by decide +kernel
theorem dX6_read_208 : decode cX6_read 208 = .ok (.iastore, 1) := by decide +kernel
theorem dX6_read_209 : decode cX6_read 209 = .ok (.iload_n 1, 1) := by decide +kernel
theorem dX6_read_210 : decode cX6_read 210 = .ok (.iload_n 3, 1) := by decide +kernel
theorem dX6_read_211 : decode cX6_read 211 = .ok (.bipush 13, 2) := by decide +kernel
theorem dX6_read_213 : decode cX6_read 213 = .ok (.if_icmp .ne 9, 3) := by decide +kernel
theorem dX6_read_216 : decode cX6_read 216 = .ok (.iconst 1, 1) := by decide +kernel
theorem dX6_read_217 : decode cX6_read 217 = .ok (.iload_n 2, 1) := by decide +kernel
theorem dX6_read_218 : decode cX6_read 218 = .ok (.ishl, 1) := by decide +kernel
theorem dX6_read_219 : decode cX6_read 219 = .ok (.goto 4, 3) := by decide +kernel
theorem dX6_read_222 : decode cX6_read 222 = .ok (.iconst 0, 1) := by decide +kernel
theorem dX6_read_223 : decode cX6_read 223 = .ok (.ior, 1) := by decide +kernel
theorem dX6_read_224 : decode cX6_read 224 = .ok (.istore_n 1, 1) := by decide +kernel
theorem dX6_read_225 : decode cX6_read 225 = .ok (.aload_n 0, 1) := by decide +kernel
theorem dX6_read_226 : decode cX6_read 226 = .ok (.getfield 27, 3) := by decide +kernel
theorem dX6_read_229 : decode cX6_read 229 = .ok (.invokevirtual 58, 3) := by decide +kernel
theorem dX6_read_232 : decode cX6_read 232 = .ok (.istore 6, 2) := by decide +kernel
theorem dX6_read_234 : decode cX6_read 234 = .ok (.iload 6, 2) := by decide +kernel
theorem dX6_read_236 : decode cX6_read 236 = .ok (.iconst (-1), 1) := by decide +kernel
theorem dX6_read_237 : decode cX6_read 237 = .ok (.if_icmp .ne 12, 3) := by decide +kernel
theorem dX6_read_240 : decode cX6_read 240 = .ok (.aload_n 0, 1) := by decide +kernel
theorem dX6_read_241 : decode cX6_read 241 = .ok (.iload_n 2, 1) := by decide +kernel
theorem dX6_read_242 : decode cX6_read 242 = .ok (.iconst 1, 1) := by decide +kernel
theorem dX6_read_243 : decode cX6_read 243 = .ok (.iadd, 1) := by decide +kernel
theorem dX6_read_244 : decode cX6_read 244 = .ok (.iload_n 1, 1) := by decide +kernel
theorem dX6_read_245 : decode cX6_read 245 = .ok (.invokevirtual 61, 3) := by decide +kernel
theorem dX6_read_248 : decode cX6_read 248 = .ok (.areturn, 1) := by decide +kernel
theorem dX6_read_249 : decode cX6_read 249 = .ok (.iload 6, 2) := by decide +kernel
theorem dX6_read_251 : decode cX6_read 251 = .ok (.bipush 59, 2) := by decide +kernel
theorem dX6_read_253 : decode cX6_read 253 = .ok (.if_icmp .eq 21, 3) := by decide +kernel
theorem dX6_read_256 : decode cX6_read 256 = .ok (.aload_n 0, 1) := by decide +kernel
theorem dX6_read_257 : decode cX6_read 257 = .ok (.getfield 27, 3) := by decide +kernel
theorem dX6_read_260 : decode cX6_read 260 = .ok (.aload_n 0, 1) := by decide +kernel
theorem dX6_read_261 : decode cX6_read 261 = .ok (.getfield 27, 3) := by decide +kernel
theorem dX6_read_264 : decode cX6_read 264 = .ok (.getfield 40, 3) := by decide +kernel
theorem dX6_read_267 : decode cX6_read 267 = .ok (.iconst 0, 1) := by decide +kernel
theorem dX6_read_268 : decode cX6_read 268 = .ok (.invokevirtual 43, 3) := by decide +kernel
theorem dX6_read_271 : decode cX6_read 271 = .ok (.pop, 1) := by decide +kernel
theorem dX6_read_272 : decode cX6_read 272 = .ok (.aconst_null, 1) := by decide +kernel
theorem dX6_read_273 : decode cX6_read 273 = .ok (.areturn, 1) := by decide +kernel
theorem dX6_read_274 : decode cX6_read 274 = .ok (.aload_n 0, 1) := by decide +kernel
theorem dX6_read_275 : decode cX6_read 275 = .ok (.getfield 27, 3) := by decide +kernel
theorem dX6_read_278 : decode cX6_read 278 = .ok (.dup, 1) := by decide +kernel
theorem dX6_read_279 : decode cX6_read 279 = .ok (.getfield 40, 3) := by decide +kernel
theorem dX6_read_282 : decode cX6_read 282 = .ok (.iconst 1, 1) := by decide +kernel
theorem dX6_read_283 : decode cX6_read 283 = .ok (.iadd, 1) := by decide +kernel
theorem dX6_read_284 : decode cX6_read 284 = .ok (.putfield 40, 3) := by decide +kernel
theorem dX6_read_287 : decode cX6_read 287 = .ok (.iinc 2 1, 3) := by decide +kernel
theorem dX6_read_290 : decode cX6_read 290 = .ok (.goto (-269), 3) := by decide +kernel
theorem dX6_read_293 : decode cX6_read 293 = .ok (.aconst_null, 1) := by decide +kernel
theorem dX6_read_294 : decode cX6_read 294 = .ok (.areturn, 1) := by decide +kernel
theorem dX6_readFact_0 : decode cX6_readFact 0 = .ok (.aload_n 0, 1) := by decide +kernel
theorem dX6_readFact_1 : decode cX6_readFact 1 = .ok (.getfield 27, 3) := by decide +kernel
theorem dX6_readFact_4 : decode cX6_readFact 4 = .ok (.invokevirtual 36, 3) := by decide +kernel
theorem dX6_readFact_7 : decode cX6_readFact 7 = .ok (.bipush 17, 2) := by decide +kernel
theorem dX6_readFact_9 : decode cX6_readFact 9 = .ok (.if_icmp .ne 7, 3) := by decide +kernel
theorem dX6_readFact_12 : decode cX6_readFact 12 = .ok (.iconst 1, 1) := by decide +kernel
theorem dX6_readFact_13 : decode cX6_readFact 13 = .ok (.goto 4, 3) := by decide +kernel
theorem dX6_readFact_16 : decode cX6_readFact 16 = .ok (.iconst 0, 1) := by decide +kernel
theorem dX6_readFact_17 : decode cX6_readFact 17 = .ok (.istore_n 2, 1) := by decide +kernel
theorem dX6_readFact_18 : decode cX6_readFact 18 = .ok (.aload_n 0, 1) := by decide +kernel
theorem dX6_readFact_19 : decode cX6_readFact 19 = .ok (.getfield 27, 3) := by decide +kernel
theorem dX6_readFact_22 : decode cX6_readFact 22 = .ok (.invokevirtual 58, 3) := by decide +kernel
theorem dX6_readFact_25 : decode cX6_readFact 25 = .ok (.bipush 91, 2) := by decide +kernel
theorem dX6_readFact_27 : decode cX6_readFact 27 = .ok (.if_icmp .ne 7, 3) := by decide +kernel
theorem dX6_readFact_30 : decode cX6_readFact 30 = .ok (.iconst 1, 1) := by decide +kernel
theorem dX6_readFact_31 : decode cX6_readFact 31 = .ok (.goto 4, 3) := by decide +kernel
theorem dX6_readFact_34 : decode cX6_readFact 34 = .ok (.iconst 0, 1) := by decide +kernel
theorem dX6_readFact_35 : decode cX6_readFact 35 = .ok (.istore_n 3, 1) := by decide +kernel
theorem dX6_readFact_36 : decode cX6_readFact 36 = .ok (.iload_n 2, 1) := by decide +kernel
theorem dX6_readFact_37 : decode cX6_readFact 37 = .ok (.ifCond .ne 7, 3) := by decide +kernel
theorem dX6_readFact_40 : decode cX6_readFact 40 = .ok (.iload_n 3, 1) := by decide +kernel
theorem dX6_readFact_41 : decode cX6_readFact 41 = .ok (.ifCond .eq 25, 3) := by decide +kernel
theorem dX6_readFact_44 : decode cX6_readFact 44 = .ok (.iload_n 1, 1) := by decide +kernel
theorem dX6_readFact_45 : decode cX6_readFact 45 = .ok (.bipush 10, 2) := by decide +kernel
theorem dX6_readFact_47 : decode cX6_readFact 47 = .ok (.if_icmp .lt 19, 3) := by decide +kernel
theorem dX6_readFact_50 : decode cX6_readFact 50 = .ok (.aload_n 0, 1) := by decide +kernel
theorem dX6_readFact_51 : decode cX6_readFact 51 = .ok (.getfield 27, 3) := by decide +kernel
theorem dX6_readFact_54 : decode cX6_readFact 54 = .ok (.aload_n 0, 1) := by decide +kernel
theorem dX6_readFact_55 : decode cX6_readFact 55 = .ok (.getfield 27, 3) := by decide +kernel
theorem dX6_readFact_58 : decode cX6_readFact 58 = .ok (.getfield 40, 3) := by decide +kernel
theorem dX6_readFact_61 : decode cX6_readFact 61 = .ok (.iconst 2, 1) := by decide +kernel
theorem dX6_readFact_62 : decode cX6_readFact 62 = .ok (.invokevirtual 43, 3) := by decide +kernel
theorem dX6_readFact_65 : decode cX6_readFact 65 = .ok (.ireturn, 1) := by decide +kernel
theorem dX6_readFact_66 : decode cX6_readFact 66 = .ok (.iload_n 2, 1) := by decide +kernel
theorem dX6_readFact_67 : decode cX6_readFact 67 = .ok (.ifCond .eq 30, 3) := by decide +kernel
theorem dX6_readFact_70 : decode cX6_readFact 70 = .ok (.aload_n 0, 1) := by decide +kernel
theorem dX6_readFact_71 : decode cX6_readFact 71 = .ok (.getfield 27, 3) := by decide +kernel
theorem dX6_readFact_74 : decode cX6_readFact 74 = .ok (.invokevirtual 47, 3) := by decide +kernel
theorem dX6_readFact_77 : decode cX6_readFact 77 = .ok (.aload_n 0, 1) := by decide +kernel
theorem dX6_readFact_78 : decode cX6_readFact 78 = .ok (.iload_n 1, 1) := by decide +kernel
theorem dX6_readFact_79 : decode cX6_readFact 79 = .ok (.iconst 1, 1) := by decide +kernel
theorem dX6_readFact_80 : decode cX6_readFact 80 = .ok (.iadd, 1) := by decide +kernel
theorem dX6_readFact_81 : decode cX6_readFact 81 = .ok (.invokevirtual 74, 3) := by decide +kernel
theorem dX6_readFact_84 : decode cX6_readFact 84 = .ok (.ifCond .ne 5, 3) := by decide +kernel
theorem dX6_readFact_87 : decode cX6_readFact 87 = .ok (.iconst 0, 1) := by decide +kernel
theorem dX6_readFact_88 : decode cX6_readFact 88 = .ok (.ireturn, 1) := by decide +kernel
theorem dX6_readFact_89 : decode cX6_readFact 89 = .ok (.aload_n 0, 1) := by decide +kernel
theorem dX6_readFact_90 : decode cX6_readFact 90 = .ok (.bipush (-32), 2) := by decide +kernel
theorem dX6_readFact_92 : decode cX6_readFact 92 = .ok (.invokevirtual 77, 3) := by decide +kernel
theorem dX6_readFact_95 : decode cX6_readFact 95 = .ok (.iconst 1, 1) := by decide +kernel
theorem dX6_readFact_96 : decode cX6_readFact 96 = .ok (.ireturn, 1) := by decide +kernel
theorem dX6_readFact_97 : decode cX6_readFact 97 = .ok (.iload_n 3, 1) := by decide +kernel
theorem dX6_readFact_98 : decode cX6_readFact 98 = .ok (.ifCond .eq 71, 3) := by decide +kernel
theorem dX6_readFact_101 : decode cX6_readFact 101 = .ok (.aload_n 0, 1) := by decide +kernel
theorem dX6_readFact_102 : decode cX6_readFact 102 = .ok (.getfield 27, 3) := by decide +kernel
theorem dX6_readFact_105 : decode cX6_readFact 105 = .ok (.dup, 1) := by decide +kernel
theorem dX6_readFact_106 : decode cX6_readFact 106 = .ok (.getfield 40, 3) := by decide +kernel
theorem dX6_readFact_109 : decode cX6_readFact 109 = .ok (.iconst 1, 1) := by decide +kernel
theorem dX6_readFact_110 : decode cX6_readFact 110 = .ok (.iadd, 1) := by decide +kernel
theorem dX6_readFact_111 : decode cX6_readFact 111 = .ok (.putfield 40, 3) := by decide +kernel
theorem dX6_readFact_114 : decode cX6_readFact 114 = .ok (.aload_n 0, 1) := by decide +kernel
theorem dX6_readFact_115 : decode cX6_readFact 115 = .ok (.iload_n 1, 1) := by decide +kernel
theorem dX6_readFact_116 : decode cX6_readFact 116 = .ok (.iconst 1, 1) := by decide +kernel
theorem dX6_readFact_117 : decode cX6_readFact 117 = .ok (.iadd, 1) := by decide +kernel
theorem dX6_readFact_118 : decode cX6_readFact 118 = .ok (.invokevirtual 54, 3) := by decide +kernel
theorem dX6_readFact_121 : decode cX6_readFact 121 = .ok (.ifCond .ne 5, 3) := by decide +kernel
theorem dX6_readFact_124 : decode cX6_readFact 124 = .ok (.iconst 0, 1) := by decide +kernel
theorem dX6_readFact_125 : decode cX6_readFact 125 = .ok (.ireturn, 1) := by decide +kernel
theorem dX6_readFact_126 : decode cX6_readFact 126 = .ok (.aload_n 0, 1) := by decide +kernel
theorem dX6_readFact_127 : decode cX6_readFact 127 = .ok (.getfield 27, 3) := by decide +kernel
theorem dX6_readFact_130 : decode cX6_readFact 130 = .ok (.invokevirtual 58, 3) := by decide +kernel
theorem dX6_readFact_133 : decode cX6_readFact 133 = .ok (.bipush 93, 2) := by decide +kernel
theorem dX6_readFact_135 : decode cX6_readFact 135 = .ok (.if_icmp .eq 19, 3) := by decide +kernel
theorem dX6_readFact_138 : decode cX6_readFact 138 = .ok (.aload_n 0, 1) := by decide +kernel
theorem dX6_readFact_139 : decode cX6_readFact 139 = .ok (.getfield 27, 3) := by decide +kernel
theorem dX6_readFact_142 : decode cX6_readFact 142 = .ok (.aload_n 0, 1) := by decide +kernel
theorem dX6_readFact_143 : decode cX6_readFact 143 = .ok (.getfield 27, 3) := by decide +kernel
theorem dX6_readFact_146 : decode cX6_readFact 146 = .ok (.getfield 40, 3) := by decide +kernel
theorem dX6_readFact_149 : decode cX6_readFact 149 = .ok (.iconst 0, 1) := by decide +kernel
theorem dX6_readFact_150 : decode cX6_readFact 150 = .ok (.invokevirtual 43, 3) := by decide +kernel
theorem dX6_readFact_153 : decode cX6_readFact 153 = .ok (.ireturn, 1) := by decide +kernel
theorem dX6_readFact_154 : decode cX6_readFact 154 = .ok (.aload_n 0, 1) := by decide +kernel
theorem dX6_readFact_155 : decode cX6_readFact 155 = .ok (.getfield 27, 3) := by decide +kernel
theorem dX6_readFact_158 : decode cX6_readFact 158 = .ok (.dup, 1) := by decide +kernel
theorem dX6_readFact_159 : decode cX6_readFact 159 = .ok (.getfield 40, 3) := by decide +kernel
theorem dX6_readFact_162 : decode cX6_readFact 162 = .ok (.iconst 1, 1) := by decide +kernel
theorem dX6_readFact_163 : decode cX6_readFact 163 = .ok (.iadd, 1) := by decide +kernel
theorem dX6_readFact_164 : decode cX6_readFact 164 = .ok (.putfield 40, 3) := by decide +kernel
theorem dX6_readFact_167 : decode cX6_readFact 167 = .ok (.iconst 1, 1) := by decide +kernel
theorem dX6_readFact_168 : decode cX6_readFact 168 = .ok (.ireturn, 1) := by decide +kernel
theorem dX6_readFact_169 : decode cX6_readFact 169 = .ok (.aload_n 0, 1) := by decide +kernel
theorem dX6_readFact_170 : decode cX6_readFact 170 = .ok (.invokevirtual 50, 3) := by decide +kernel
theorem dX6_readFact_173 : decode cX6_readFact 173 = .ok (.ifCond .ne 5, 3) := by decide +kernel
theorem dX6_readFact_176 : decode cX6_readFact 176 = .ok (.iconst 0, 1) := by decide +kernel
theorem dX6_readFact_177 : decode cX6_readFact 177 = .ok (.ireturn, 1) := by decide +kernel
theorem dX6_readFact_178 : decode cX6_readFact 178 = .ok (.aload_n 0, 1) := by decide +kernel
theorem dX6_readFact_179 : decode cX6_readFact 179 = .ok (.invokevirtual 81, 3) := by decide +kernel
theorem dX6_readFact_182 : decode cX6_readFact 182 = .ok (.istore 4, 2) := by decide +kernel
theorem dX6_readFact_184 : decode cX6_readFact 184 = .ok (.iload 4, 2) := by decide +kernel
theorem dX6_readFact_186 : decode cX6_readFact 186 = .ok (.ifCond .eq 10, 3) := by decide +kernel
theorem dX6_readFact_189 : decode cX6_readFact 189 = .ok (.aload_n 0, 1) := by decide +kernel
theorem dX6_readFact_190 : decode cX6_readFact 190 = .ok (.invokevirtual 50, 3) := by decide +kernel
theorem dX6_readFact_193 : decode cX6_readFact 193 = .ok (.ifCond .ne 5, 3) := by decide +kernel
theorem dX6_readFact_196 : decode cX6_readFact 196 = .ok (.iconst 0, 1) := by decide +kernel
theorem dX6_readFact_197 : decode cX6_readFact 197 = .ok (.ireturn, 1) := by decide +kernel
theorem dX6_readFact_198 : decode cX6_readFact 198 = .ok (.aload_n 0, 1) := by decide +kernel
theorem dX6_readFact_199 : decode cX6_readFact 199 = .ok (.iload 4, 2) := by decide +kernel
theorem dX6_readFact_201 : decode cX6_readFact 201 = .ok (.invokevirtual 77, 3) := by decide +kernel
theorem dX6_readFact_204 : decode cX6_readFact 204 = .ok (.iconst 1, 1) := by decide +kernel
theorem dX6_readFact_205 : decode cX6_readFact 205 = .ok (.ireturn, 1) := by decide +kernel
theorem dX6_readSign_0 : decode cX6_readSign 0 = .ok (.aload_n 0, 1) := by decide +kernel
theorem dX6_readSign_1 : decode cX6_readSign 1 = .ok (.getfield 27, 3) := by decide +kernel
theorem dX6_readSign_4 : decode cX6_readSign 4 = .ok (.invokevirtual 58, 3) := by decide +kernel
theorem dX6_readSign_7 : decode cX6_readSign 7 = .ok (.istore_n 1, 1) := by decide +kernel
theorem dX6_readSign_8 : decode cX6_readSign 8 = .ok (.iload_n 1, 1) := by decide +kernel
theorem dX6_readSign_9 : decode cX6_readSign 9 = .ok (.bipush 60, 2) := by decide +kernel
theorem dX6_readSign_11 : decode cX6_readSign 11 = .ok (.if_icmp .eq 33, 3) := by decide +kernel
theorem dX6_readSign_14 : decode cX6_readSign 14 = .ok (.iload_n 1, 1) := by decide +kernel
theorem dX6_readSign_15 : decode cX6_readSign 15 = .ok (.bipush 61, 2) := by decide +kernel
theorem dX6_readSign_17 : decode cX6_readSign 17 = .ok (.if_icmp .eq 27, 3) := by decide +kernel
theorem dX6_readSign_20 : decode cX6_readSign 20 = .ok (.iload_n 1, 1) := by decide +kernel
theorem dX6_readSign_21 : decode cX6_readSign 21 = .ok (.bipush 62, 2) := by decide +kernel
theorem dX6_readSign_23 : decode cX6_readSign 23 = .ok (.if_icmp .eq 21, 3) := by decide +kernel
theorem dX6_readSign_26 : decode cX6_readSign 26 = .ok (.aload_n 0, 1) := by decide +kernel
theorem dX6_readSign_27 : decode cX6_readSign 27 = .ok (.getfield 27, 3) := by decide +kernel
theorem dX6_readSign_30 : decode cX6_readSign 30 = .ok (.aload_n 0, 1) := by decide +kernel
theorem dX6_readSign_31 : decode cX6_readSign 31 = .ok (.getfield 27, 3) := by decide +kernel
theorem dX6_readSign_34 : decode cX6_readSign 34 = .ok (.getfield 40, 3) := by decide +kernel
theorem dX6_readSign_37 : decode cX6_readSign 37 = .ok (.iconst 0, 1) := by decide +kernel
theorem dX6_readSign_38 : decode cX6_readSign 38 = .ok (.invokevirtual 43, 3) := by decide +kernel
theorem dX6_readSign_41 : decode cX6_readSign 41 = .ok (.pop, 1) := by decide +kernel
theorem dX6_readSign_42 : decode cX6_readSign 42 = .ok (.iconst 0, 1) := by decide +kernel
theorem dX6_readSign_43 : decode cX6_readSign 43 = .ok (.ireturn, 1) := by decide +kernel
theorem dX6_readSign_44 : decode cX6_readSign 44 = .ok (.aload_n 0, 1) := by decide +kernel
theorem dX6_readSign_45 : decode cX6_readSign 45 = .ok (.getfield 24, 3) := by decide +kernel
theorem dX6_readSign_48 : decode cX6_readSign 48 = .ok (.bipush 60, 2) := by decide +kernel
theorem dX6_readSign_50 : decode cX6_readSign 50 = .ok (.if_icmp .lt 21, 3) := by decide +kernel
theorem dX6_readSign_53 : decode cX6_readSign 53 = .ok (.aload_n 0, 1) := by decide +kernel
theorem dX6_readSign_54 : decode cX6_readSign 54 = .ok (.getfield 27, 3) := by decide +kernel
theorem dX6_readSign_57 : decode cX6_readSign 57 = .ok (.aload_n 0, 1) := by decide +kernel
theorem dX6_readSign_58 : decode cX6_readSign 58 = .ok (.getfield 27, 3) := by decide +kernel
theorem dX6_readSign_61 : decode cX6_readSign 61 = .ok (.getfield 40, 3) := by decide +kernel
theorem dX6_readSign_64 : decode cX6_readSign 64 = .ok (.iconst 3, 1) := by decide +kernel
theorem dX6_readSign_65 : decode cX6_readSign 65 = .ok (.invokevirtual 43, 3) := by decide +kernel
theorem dX6_readSign_68 : decode cX6_readSign 68 = .ok (.pop, 1) := by decide +kernel
theorem dX6_readSign_69 : decode cX6_readSign 69 = .ok (.iconst 0, 1) := by decide +kernel
theorem dX6_readSign_70 : decode cX6_readSign 70 = .ok (.ireturn, 1) := by decide +kernel
theorem dX6_readSign_71 : decode cX6_readSign 71 = .ok (.aload_n 0, 1) := by decide +kernel
theorem dX6_readSign_72 : decode cX6_readSign 72 = .ok (.dup, 1) := by decide +kernel
theorem dX6_readSign_73 : decode cX6_readSign 73 = .ok (.getfield 24, 3) := by decide +kernel
theorem dX6_readSign_76 : decode cX6_readSign 76 = .ok (.iconst 1, 1) := by decide +kernel
theorem dX6_readSign_77 : decode cX6_readSign 77 = .ok (.iadd, 1) := by decide +kernel
theorem dX6_readSign_78 : decode cX6_readSign 78 = .ok (.putfield 24, 3) := by decide +kernel
theorem dX6_readSign_81 : decode cX6_readSign 81 = .ok (.aload_n 0, 1) := by decide +kernel
theorem dX6_readSign_82 : decode cX6_readSign 82 = .ok (.getfield 27, 3) := by decide +kernel
theorem dX6_readSign_85 : decode cX6_readSign 85 = .ok (.dup, 1) := by decide +kernel
theorem dX6_readSign_86 : decode cX6_readSign 86 = .ok (.getfield 40, 3) := by decide +kernel
theorem dX6_readSign_89 : decode cX6_readSign 89 = .ok (.iconst 1, 1) := by decide +kernel
theorem dX6_readSign_90 : decode cX6_readSign 90 = .ok (.iadd, 1) := by decide +kernel
theorem dX6_readSign_91 : decode cX6_readSign 91 = .ok (.putfield 40, 3) := by decide +kernel
theorem dX6_readSign_94 : decode cX6_readSign 94 = .ok (.iload_n 1, 1) := by decide +kernel
theorem dX6_readSign_95 : decode cX6_readSign 95 = .ok (.bipush 61, 2) := by decide +kernel
theorem dX6_readSign_97 : decode cX6_readSign 97 = .ok (.if_icmp .eq 44, 3) := by decide +kernel
theorem dX6_readSign_100 : decode cX6_readSign 100 = .ok (.aload_n 0, 1) := by decide +kernel
theorem dX6_readSign_101 : decode cX6_readSign 101 = .ok (.getfield 27, 3) := by decide +kernel
theorem dX6_readSign_104 : decode cX6_readSign 104 = .ok (.getfield 40, 3) := by decide +kernel
theorem dX6_readSign_107 : decode cX6_readSign 107 = .ok (.aload_n 0, 1) := by decide +kernel
theorem dX6_readSign_108 : decode cX6_readSign 108 = .ok (.getfield 27, 3) := by decide +kernel
theorem dX6_readSign_111 : decode cX6_readSign 111 = .ok (.getfield 84, 3) := by decide +kernel
theorem dX6_readSign_114 : decode cX6_readSign 114 = .ok (.if_icmp .ge 27, 3) := by decide +kernel
theorem dX6_readSign_117 : decode cX6_readSign 117 = .ok (.aload_n 0, 1) := by decide +kernel
theorem dX6_readSign_118 : decode cX6_readSign 118 = .ok (.getfield 27, 3) := by decide +kernel
theorem dX6_readSign_121 : decode cX6_readSign 121 = .ok (.getfield 87, 3) := by decide +kernel
theorem dX6_readSign_124 : decode cX6_readSign 124 = .ok (.aload_n 0, 1) := by decide +kernel
theorem dX6_readSign_125 : decode cX6_readSign 125 = .ok (.getfield 27, 3) := by decide +kernel
theorem dX6_readSign_128 : decode cX6_readSign 128 = .ok (.getfield 40, 3) := by decide +kernel
theorem dX6_readSign_131 : decode cX6_readSign 131 = .ok (.iaload, 1) := by decide +kernel
theorem dX6_readSign_132 : decode cX6_readSign 132 = .ok (.bipush 61, 2) := by decide +kernel
theorem dX6_readSign_134 : decode cX6_readSign 134 = .ok (.if_icmp .ne 7, 3) := by decide +kernel
theorem dX6_readSign_137 : decode cX6_readSign 137 = .ok (.iconst 1, 1) := by decide +kernel
theorem dX6_readSign_138 : decode cX6_readSign 138 = .ok (.goto 4, 3) := by decide +kernel
theorem dX6_readSign_141 : decode cX6_readSign 141 = .ok (.iconst 0, 1) := by decide +kernel
theorem dX6_readSign_142 : decode cX6_readSign 142 = .ok (.istore_n 2, 1) := by decide +kernel
theorem dX6_readSign_143 : decode cX6_readSign 143 = .ok (.aload_n 0, 1) := by decide +kernel
theorem dX6_readSign_144 : decode cX6_readSign 144 = .ok (.getfield 27, 3) := by decide +kernel
theorem dX6_readSign_147 : decode cX6_readSign 147 = .ok (.dup, 1) := by decide +kernel
theorem dX6_readSign_148 : decode cX6_readSign 148 = .ok (.getfield 40, 3) := by decide +kernel
theorem dX6_readSign_151 : decode cX6_readSign 151 = .ok (.iload_n 2, 1) := by decide +kernel
theorem dX6_readSign_152 : decode cX6_readSign 152 = .ok (.ifCond .eq 7, 3) := by decide +kernel
theorem dX6_readSign_155 : decode cX6_readSign 155 = .ok (.iconst 1, 1) := by decide +kernel
theorem dX6_readSign_156 : decode cX6_readSign 156 = .ok (.goto 4, 3) := by decide +kernel
theorem dX6_readSign_159 : decode cX6_readSign 159 = .ok (.iconst 0, 1) := by decide +kernel
theorem dX6_readSign_160 : decode cX6_readSign 160 = .ok (.iadd, 1) := by decide +kernel
theorem dX6_readSign_161 : decode cX6_readSign 161 = .ok (.putfield 40, 3) := by decide +kernel
theorem dX6_readSign_164 : decode cX6_readSign 164 = .ok (.iload_n 1, 1) := by decide +kernel
theorem dX6_readSign_165 : decode cX6_readSign 165 = .ok (.bipush 61, 2) := by decide +kernel
theorem dX6_readSign_167 : decode cX6_readSign 167 = .ok (.if_icmp .ne 6, 3) := by decide +kernel
theorem dX6_readSign_170 : decode cX6_readSign 170 = .ok (.bipush (-27), 2) := by decide +kernel
theorem dX6_readSign_172 : decode cX6_readSign 172 = .ok (.ireturn, 1) := by decide +kernel
theorem dX6_readSign_173 : decode cX6_readSign 173 = .ok (.iload_n 1, 1) := by decide +kernel
theorem dX6_readSign_174 : decode cX6_readSign 174 = .ok (.bipush 60, 2) := by decide +kernel
theorem dX6_readSign_176 : decode cX6_readSign 176 = .ok (.if_icmp .ne 15, 3) := by decide +kernel
theorem dX6_readSign_179 : decode cX6_readSign 179 = .ok (.iload_n 2, 1) := by decide +kernel
theorem dX6_readSign_180 : decode cX6_readSign 180 = .ok (.ifCond .eq 8, 3) := by decide +kernel
theorem dX6_readSign_183 : decode cX6_readSign 183 = .ok (.bipush (-26), 2) := by decide +kernel
theorem dX6_readSign_185 : decode cX6_readSign 185 = .ok (.goto 5, 3) := by decide +kernel
theorem dX6_readSign_188 : decode cX6_readSign 188 = .ok (.bipush (-25), 2) := by decide +kernel
theorem dX6_readSign_190 : decode cX6_readSign 190 = .ok (.ireturn, 1) := by decide +kernel
theorem dX6_readSign_191 : decode cX6_readSign 191 = .ok (.iload_n 2, 1) := by decide +kernel
theorem dX6_readSign_192 : decode cX6_readSign 192 = .ok (.ifCond .eq 8, 3) := by decide +kernel
theorem dX6_readSign_195 : decode cX6_readSign 195 = .ok (.bipush (-28), 2) := by decide +kernel
theorem dX6_readSign_197 : decode cX6_readSign 197 = .ok (.goto 5, 3) := by decide +kernel
theorem dX6_readSign_200 : decode cX6_readSign 200 = .ok (.bipush (-29), 2) := by decide +kernel
theorem dX6_readSign_202 : decode cX6_readSign 202 = .ok (.ireturn, 1) := by decide +kernel
theorem dX6_readSum_0 : decode cX6_readSum 0 = .ok (.iconst 0, 1) := by decide +kernel
theorem dX6_readSum_1 : decode cX6_readSum 1 = .ok (.istore_n 1, 1) := by decide +kernel
theorem dX6_readSum_2 : decode cX6_readSum 2 = .ok (.iconst 0, 1) := by decide +kernel
theorem dX6_readSum_3 : decode cX6_readSum 3 = .ok (.istore_n 2, 1) := by decide +kernel
theorem dX6_readSum_4 : decode cX6_readSum 4 = .ok (.iconst 0, 1) := by decide +kernel
theorem dX6_readSum_5 : decode cX6_readSum 5 = .ok (.istore_n 3, 1) := by decide +kernel
theorem dX6_readSum_6 : decode cX6_readSum 6 = .ok (.iload_n 3, 1) := by decide +kernel
theorem dX6_readSum_7 : decode cX6_readSum 7 = .ok (.sipush 400, 3) := by decide +kernel
theorem dX6_readSum_10 : decode cX6_readSum 10 = .ok (.if_icmp .ge 120, 3) := by decide +kernel
theorem dX6_readSum_13 : decode cX6_readSum 13 = .ok (.aload_n 0, 1) := by decide +kernel
theorem dX6_readSum_14 : decode cX6_readSum 14 = .ok (.invokevirtual 90, 3) := by decide +kernel
theorem dX6_readSum_17 : decode cX6_readSum 17 = .ok (.ifCond .ne 5, 3) := by decide +kernel
theorem dX6_readSum_20 : decode cX6_readSum 20 = .ok (.iconst 0, 1) := by decide +kernel
theorem dX6_readSum_21 : decode cX6_readSum 21 = .ok (.ireturn, 1) := by decide +kernel
theorem dX6_readSum_22 : decode cX6_readSum 22 = .ok (.iload_n 2, 1) := by decide +kernel
theorem dX6_readSum_23 : decode cX6_readSum 23 = .ok (.ifCond .eq 8, 3) := by decide +kernel
theorem dX6_readSum_26 : decode cX6_readSum 26 = .ok (.aload_n 0, 1) := by decide +kernel
theorem dX6_readSum_27 : decode cX6_readSum 27 = .ok (.iload_n 2, 1) := by decide +kernel
theorem dX6_readSum_28 : decode cX6_readSum 28 = .ok (.invokevirtual 77, 3) := by decide +kernel
theorem dX6_readSum_31 : decode cX6_readSum 31 = .ok (.aload_n 0, 1) := by decide +kernel
theorem dX6_readSum_32 : decode cX6_readSum 32 = .ok (.getfield 27, 3) := by decide +kernel
theorem dX6_readSum_35 : decode cX6_readSum 35 = .ok (.invokevirtual 58, 3) := by decide +kernel
theorem dX6_readSum_38 : decode cX6_readSum 38 = .ok (.istore 4, 2) := by decide +kernel
theorem dX6_readSum_40 : decode cX6_readSum 40 = .ok (.iload 4, 2) := by decide +kernel
theorem dX6_readSum_42 : decode cX6_readSum 42 = .ok (.bipush 42, 2) := by decide +kernel
theorem dX6_readSum_44 : decode cX6_readSum 44 = .ok (.if_icmp .ne 8, 3) := by decide +kernel
theorem dX6_readSum_47 : decode cX6_readSum 47 = .ok (.bipush (-23), 2) := by decide +kernel
theorem dX6_readSum_49 : decode cX6_readSum 49 = .ok (.goto 16, 3) := by decide +kernel
theorem dX6_readSum_52 : decode cX6_readSum 52 = .ok (.iload 4, 2) := by decide +kernel
theorem dX6_readSum_54 : decode cX6_readSum 54 = .ok (.bipush 47, 2) := by decide +kernel
theorem dX6_readSum_56 : decode cX6_readSum 56 = .ok (.if_icmp .ne 8, 3) := by decide +kernel
theorem dX6_readSum_59 : decode cX6_readSum 59 = .ok (.bipush (-24), 2) := by decide +kernel
theorem dX6_readSum_61 : decode cX6_readSum 61 = .ok (.goto 4, 3) := by decide +kernel
theorem dX6_readSum_64 : decode cX6_readSum 64 = .ok (.iconst 0, 1) := by decide +kernel
theorem dX6_readSum_65 : decode cX6_readSum 65 = .ok (.istore_n 2, 1) := by decide +kernel
theorem dX6_readSum_66 : decode cX6_readSum 66 = .ok (.iload_n 2, 1) := by decide +kernel
theorem dX6_readSum_67 : decode cX6_readSum 67 = .ok (.ifCond .ne 44, 3) := by decide +kernel
theorem dX6_readSum_70 : decode cX6_readSum 70 = .ok (.iload_n 1, 1) := by decide +kernel
theorem dX6_readSum_71 : decode cX6_readSum 71 = .ok (.ifCond .eq 8, 3) := by decide +kernel
theorem dX6_readSum_74 : decode cX6_readSum 74 = .ok (.aload_n 0, 1) := by decide +kernel
theorem dX6_readSum_75 : decode cX6_readSum 75 = .ok (.iload_n 1, 1) := by decide +kernel
theorem dX6_readSum_76 : decode cX6_readSum 76 = .ok (.invokevirtual 77, 3) := by decide +kernel
theorem dX6_readSum_79 : decode cX6_readSum 79 = .ok (.iload 4, 2) := by decide +kernel
theorem dX6_readSum_81 : decode cX6_readSum 81 = .ok (.bipush 43, 2) := by decide +kernel
theorem dX6_readSum_83 : decode cX6_readSum 83 = .ok (.if_icmp .ne 8, 3) := by decide +kernel
theorem dX6_readSum_86 : decode cX6_readSum 86 = .ok (.bipush (-21), 2) := by decide +kernel
theorem dX6_readSum_88 : decode cX6_readSum 88 = .ok (.goto 16, 3) := by decide +kernel
theorem dX6_readSum_91 : decode cX6_readSum 91 = .ok (.iload 4, 2) := by decide +kernel
theorem dX6_readSum_93 : decode cX6_readSum 93 = .ok (.bipush 45, 2) := by decide +kernel
theorem dX6_readSum_95 : decode cX6_readSum 95 = .ok (.if_icmp .ne 8, 3) := by decide +kernel
theorem dX6_readSum_98 : decode cX6_readSum 98 = .ok (.bipush (-22), 2) := by decide +kernel
theorem dX6_readSum_100 : decode cX6_readSum 100 = .ok (.goto 4, 3) := by decide +kernel
theorem dX6_readSum_103 : decode cX6_readSum 103 = .ok (.iconst 0, 1) := by decide +kernel
theorem dX6_readSum_104 : decode cX6_readSum 104 = .ok (.istore_n 1, 1) := by decide +kernel
theorem dX6_readSum_105 : decode cX6_readSum 105 = .ok (.iload_n 1, 1) := by decide +kernel
theorem dX6_readSum_106 : decode cX6_readSum 106 = .ok (.ifCond .ne 5, 3) := by decide +kernel
theorem dX6_readSum_109 : decode cX6_readSum 109 = .ok (.iconst 1, 1) := by decide +kernel
theorem dX6_readSum_110 : decode cX6_readSum 110 = .ok (.ireturn, 1) := by decide +kernel
theorem dX6_readSum_111 : decode cX6_readSum 111 = .ok (.aload_n 0, 1) := by decide +kernel
theorem dX6_readSum_112 : decode cX6_readSum 112 = .ok (.getfield 27, 3) := by decide +kernel
theorem dX6_readSum_115 : decode cX6_readSum 115 = .ok (.dup, 1) := by decide +kernel
theorem dX6_readSum_116 : decode cX6_readSum 116 = .ok (.getfield 40, 3) := by decide +kernel
theorem dX6_readSum_119 : decode cX6_readSum 119 = .ok (.iconst 1, 1) := by decide +kernel
theorem dX6_readSum_120 : decode cX6_readSum 120 = .ok (.iadd, 1) := by decide +kernel
theorem dX6_readSum_121 : decode cX6_readSum 121 = .ok (.putfield 40, 3) := by decide +kernel
theorem dX6_readSum_124 : decode cX6_readSum 124 = .ok (.iinc 3 1, 3) := by decide +kernel
theorem dX6_readSum_127 : decode cX6_readSum 127 = .ok (.goto (-121), 3) := by decide +kernel
theorem dX6_readSum_130 : decode cX6_readSum 130 = .ok (.aload_n 0, 1) := by decide +kernel
theorem dX6_readSum_131 : decode cX6_readSum 131 = .ok (.getfield 27, 3) := by decide +kernel
theorem dX6_readSum_134 : decode cX6_readSum 134 = .ok (.aload_n 0, 1) := by decide +kernel
theorem dX6_readSum_135 : decode cX6_readSum 135 = .ok (.getfield 27, 3) := by decide +kernel
theorem dX6_readSum_138 : decode cX6_readSum 138 = .ok (.getfield 40, 3) := by decide +kernel
theorem dX6_readSum_141 : decode cX6_readSum 141 = .ok (.iconst 0, 1) := by decide +kernel
theorem dX6_readSum_142 : decode cX6_readSum 142 = .ok (.invokevirtual 43, 3) := by decide +kernel
theorem dX6_readSum_145 : decode cX6_readSum 145 = .ok (.ireturn, 1) := by decide +kernel
theorem dX6_readTest_0 : decode cX6_readTest 0 = .ok (.iconst 0, 1) := by decide +kernel
theorem dX6_readTest_1 : decode cX6_readTest 1 = .ok (.istore_n 2, 1) := by decide +kernel
theorem dX6_readTest_2 : decode cX6_readTest 2 = .ok (.iconst 0, 1) := by decide +kernel
theorem dX6_readTest_3 : decode cX6_readTest 3 = .ok (.istore_n 3, 1) := by decide +kernel
theorem dX6_readTest_4 : decode cX6_readTest 4 = .ok (.iconst 0, 1) := by decide +kernel
theorem dX6_readTest_5 : decode cX6_readTest 5 = .ok (.istore 4, 2) := by decide +kernel
theorem dX6_readTest_7 : decode cX6_readTest 7 = .ok (.iload 4, 2) := by decide +kernel
theorem dX6_readTest_9 : decode cX6_readTest 9 = .ok (.sipush 400, 3) := by decide +kernel
theorem dX6_readTest_12 : decode cX6_readTest 12 = .ok (.if_icmp .ge 105, 3) := by decide +kernel
theorem dX6_readTest_15 : decode cX6_readTest 15 = .ok (.aload_n 0, 1) := by decide +kernel
theorem dX6_readTest_16 : decode cX6_readTest 16 = .ok (.iload_n 1, 1) := by decide +kernel
theorem dX6_readTest_17 : decode cX6_readTest 17 = .ok (.invokevirtual 74, 3) := by decide +kernel
theorem dX6_readTest_20 : decode cX6_readTest 20 = .ok (.ifCond .ne 5, 3) := by decide +kernel
theorem dX6_readTest_23 : decode cX6_readTest 23 = .ok (.iconst 0, 1) := by decide +kernel
theorem dX6_readTest_24 : decode cX6_readTest 24 = .ok (.ireturn, 1) := by decide +kernel
theorem dX6_readTest_25 : decode cX6_readTest 25 = .ok (.iload_n 2, 1) := by decide +kernel
theorem dX6_readTest_26 : decode cX6_readTest 26 = .ok (.ifCond .eq 9, 3) := by decide +kernel
theorem dX6_readTest_29 : decode cX6_readTest 29 = .ok (.aload_n 0, 1) := by decide +kernel
theorem dX6_readTest_30 : decode cX6_readTest 30 = .ok (.bipush (-30), 2) := by decide +kernel
theorem dX6_readTest_32 : decode cX6_readTest 32 = .ok (.invokevirtual 77, 3) := by decide +kernel
theorem dX6_readTest_35 : decode cX6_readTest 35 = .ok (.aload_n 0, 1) := by decide +kernel
theorem dX6_readTest_36 : decode cX6_readTest 36 = .ok (.getfield 27, 3) := by decide +kernel
theorem dX6_readTest_39 : decode cX6_readTest 39 = .ok (.invokevirtual 36, 3) := by decide +kernel
theorem dX6_readTest_42 : decode cX6_readTest 42 = .ok (.istore 5, 2) := by decide +kernel
theorem dX6_readTest_44 : decode cX6_readTest 44 = .ok (.iload 5, 2) := by decide +kernel
theorem dX6_readTest_46 : decode cX6_readTest 46 = .ok (.bipush 15, 2) := by decide +kernel
theorem dX6_readTest_48 : decode cX6_readTest 48 = .ok (.if_icmp .ne 7, 3) := by decide +kernel
theorem dX6_readTest_51 : decode cX6_readTest 51 = .ok (.iconst 1, 1) := by decide +kernel
theorem dX6_readTest_52 : decode cX6_readTest 52 = .ok (.goto 4, 3) := by decide +kernel
theorem dX6_readTest_55 : decode cX6_readTest 55 = .ok (.iconst 0, 1) := by decide +kernel
theorem dX6_readTest_56 : decode cX6_readTest 56 = .ok (.istore_n 2, 1) := by decide +kernel
theorem dX6_readTest_57 : decode cX6_readTest 57 = .ok (.iload_n 2, 1) := by decide +kernel
theorem dX6_readTest_58 : decode cX6_readTest 58 = .ok (.ifCond .ne 15, 3) := by decide +kernel
theorem dX6_readTest_61 : decode cX6_readTest 61 = .ok (.iload_n 3, 1) := by decide +kernel
theorem dX6_readTest_62 : decode cX6_readTest 62 = .ok (.ifCond .eq 11, 3) := by decide +kernel
theorem dX6_readTest_65 : decode cX6_readTest 65 = .ok (.aload_n 0, 1) := by decide +kernel
theorem dX6_readTest_66 : decode cX6_readTest 66 = .ok (.bipush (-31), 2) := by decide +kernel
theorem dX6_readTest_68 : decode cX6_readTest 68 = .ok (.invokevirtual 77, 3) := by decide +kernel
theorem dX6_readTest_71 : decode cX6_readTest 71 = .ok (.iconst 0, 1) := by decide +kernel
theorem dX6_readTest_72 : decode cX6_readTest 72 = .ok (.istore_n 3, 1) := by decide +kernel
theorem dX6_readTest_73 : decode cX6_readTest 73 = .ok (.iload 5, 2) := by decide +kernel
theorem dX6_readTest_75 : decode cX6_readTest 75 = .ok (.bipush 15, 2) := by decide +kernel
theorem dX6_readTest_77 : decode cX6_readTest 77 = .ok (.if_icmp .eq 12, 3) := by decide +kernel
theorem dX6_readTest_80 : decode cX6_readTest 80 = .ok (.iload 5, 2) := by decide +kernel
theorem dX6_readTest_82 : decode cX6_readTest 82 = .ok (.bipush 16, 2) := by decide +kernel
theorem dX6_readTest_84 : decode cX6_readTest 84 = .ok (.if_icmp .eq 5, 3) := by decide +kernel
theorem dX6_readTest_87 : decode cX6_readTest 87 = .ok (.iconst 1, 1) := by decide +kernel
theorem dX6_readTest_88 : decode cX6_readTest 88 = .ok (.ireturn, 1) := by decide +kernel
theorem dX6_readTest_89 : decode cX6_readTest 89 = .ok (.iload_n 3, 1) := by decide +kernel
theorem dX6_readTest_90 : decode cX6_readTest 90 = .ok (.iload 5, 2) := by decide +kernel
theorem dX6_readTest_92 : decode cX6_readTest 92 = .ok (.bipush 16, 2) := by decide +kernel
theorem dX6_readTest_94 : decode cX6_readTest 94 = .ok (.if_icmp .ne 7, 3) := by decide +kernel
theorem dX6_readTest_97 : decode cX6_readTest 97 = .ok (.iconst 1, 1) := by decide +kernel
theorem dX6_readTest_98 : decode cX6_readTest 98 = .ok (.goto 4, 3) := by decide +kernel
theorem dX6_readTest_101 : decode cX6_readTest 101 = .ok (.iconst 0, 1) := by decide +kernel
theorem dX6_readTest_102 : decode cX6_readTest 102 = .ok (.ior, 1) := by decide +kernel
theorem dX6_readTest_103 : decode cX6_readTest 103 = .ok (.istore_n 3, 1) := by decide +kernel
theorem dX6_readTest_104 : decode cX6_readTest 104 = .ok (.aload_n 0, 1) := by decide +kernel
theorem dX6_readTest_105 : decode cX6_readTest 105 = .ok (.getfield 27, 3) := by decide +kernel
theorem dX6_readTest_108 : decode cX6_readTest 108 = .ok (.invokevirtual 47, 3) := by decide +kernel
theorem dX6_readTest_111 : decode cX6_readTest 111 = .ok (.iinc 4 1, 3) := by decide +kernel
theorem dX6_readTest_114 : decode cX6_readTest 114 = .ok (.goto (-107), 3) := by decide +kernel
theorem dX6_readTest_117 : decode cX6_readTest 117 = .ok (.aload_n 0, 1) := by decide +kernel
theorem dX6_readTest_118 : decode cX6_readTest 118 = .ok (.getfield 27, 3) := by decide +kernel
theorem dX6_readTest_121 : decode cX6_readTest 121 = .ok (.aload_n 0, 1) := by decide +kernel
theorem dX6_readTest_122 : decode cX6_readTest 122 = .ok (.getfield 27, 3) := by decide +kernel
theorem dX6_readTest_125 : decode cX6_readTest 125 = .ok (.getfield 40, 3) := by decide +kernel
theorem dX6_readTest_128 : decode cX6_readTest 128 = .ok (.iconst 0, 1) := by decide +kernel
theorem dX6_readTest_129 : decode cX6_readTest 129 = .ok (.invokevirtual 43, 3) := by decide +kernel
theorem dX6_readTest_132 : decode cX6_readTest 132 = .ok (.ireturn, 1) := by decide +kernel
theorem dX6_readValue_0 : decode cX6_readValue 0 = .ok (.aload_n 0, 1) := by decide +kernel
theorem dX6_readValue_1 : decode cX6_readValue 1 = .ok (.getfield 27, 3) := by decide +kernel
theorem dX6_readValue_4 : decode cX6_readValue 4 = .ok (.invokevirtual 58, 3) := by decide +kernel
theorem dX6_readValue_7 : decode cX6_readValue 7 = .ok (.istore_n 1, 1) := by decide +kernel
theorem dX6_readValue_8 : decode cX6_readValue 8 = .ok (.aload_n 0, 1) := by decide +kernel
theorem dX6_readValue_9 : decode cX6_readValue 9 = .ok (.getfield 27, 3) := by decide +kernel
theorem dX6_readValue_12 : decode cX6_readValue 12 = .ok (.getfield 40, 3) := by decide +kernel
theorem dX6_readValue_15 : decode cX6_readValue 15 = .ok (.istore_n 2, 1) := by decide +kernel
theorem dX6_readValue_16 : decode cX6_readValue 16 = .ok (.iload_n 1, 1) := by decide +kernel
theorem dX6_readValue_17 : decode cX6_readValue 17 = .ok (.bipush 48, 2) := by decide +kernel
theorem dX6_readValue_19 : decode cX6_readValue 19 = .ok (.if_icmp .lt 35, 3) := by decide +kernel
theorem dX6_readValue_22 : decode cX6_readValue 22 = .ok (.iload_n 1, 1) := by decide +kernel
theorem dX6_readValue_23 : decode cX6_readValue 23 = .ok (.bipush 57, 2) := by decide +kernel
theorem dX6_readValue_25 : decode cX6_readValue 25 = .ok (.if_icmp .gt 29, 3) := by decide +kernel
theorem dX6_readValue_28 : decode cX6_readValue 28 = .ok (.aload_n 0, 1) := by decide +kernel
theorem dX6_readValue_29 : decode cX6_readValue 29 = .ok (.getfield 27, 3) := by decide +kernel
theorem dX6_readValue_32 : decode cX6_readValue 32 = .ok (.iconst 0, 1) := by decide +kernel
theorem dX6_readValue_33 : decode cX6_readValue 33 = .ok (.ldc 93, 2) := by decide +kernel
theorem dX6_readValue_35 : decode cX6_readValue 35 = .ok (.invokevirtual 94, 3) := by decide +kernel
theorem dX6_readValue_38 : decode cX6_readValue 38 = .ok (.ifCond .ne 5, 3) := by decide +kernel
theorem dX6_readValue_41 : decode cX6_readValue 41 = .ok (.iconst 0, 1) := by decide +kernel
theorem dX6_readValue_42 : decode cX6_readValue 42 = .ok (.ireturn, 1) := by decide +kernel
theorem dX6_readValue_43 : decode cX6_readValue 43 = .ok (.aload_n 0, 1) := by decide +kernel
theorem dX6_readValue_44 : decode cX6_readValue 44 = .ok (.getfield 27, 3) := by decide +kernel
theorem dX6_readValue_47 : decode cX6_readValue 47 = .ok (.getfield 97, 3) := by decide +kernel
theorem dX6_readValue_50 : decode cX6_readValue 50 = .ok (.istore_n 3, 1) := by decide +kernel
theorem dX6_readValue_51 : decode cX6_readValue 51 = .ok (.goto 46, 3) := by decide +kernel
theorem dX6_readValue_54 : decode cX6_readValue 54 = .ok (.aload_n 0, 1) := by decide +kernel
theorem dX6_readValue_55 : decode cX6_readValue 55 = .ok (.getfield 27, 3) := by decide +kernel
theorem dX6_readValue_58 : decode cX6_readValue 58 = .ok (.invokevirtual 36, 3) := by decide +kernel
theorem dX6_readValue_61 : decode cX6_readValue 61 = .ok (.istore 4, 2) := by decide +kernel
theorem dX6_readValue_63 : decode cX6_readValue 63 = .ok (.iload 4, 2) := by decide +kernel
theorem dX6_readValue_65 : decode cX6_readValue 65 = .ok (.ifCond .lt 10, 3) := by decide +kernel
theorem dX6_readValue_68 : decode cX6_readValue 68 = .ok (.iload 4, 2) := by decide +kernel
