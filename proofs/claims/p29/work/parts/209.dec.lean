theorem dX11_leaves_166 : decode cX11_leaves 166 = .ok (.ifCond .ge 6, 3) := by decide +kernel
theorem dX11_leaves_169 : decode cX11_leaves 169 = .ok (.goto 52, 3) := by decide +kernel
theorem dX11_leaves_172 : decode cX11_leaves 172 = .ok (.aload_n 0, 1) := by decide +kernel
theorem dX11_leaves_173 : decode cX11_leaves 173 = .ok (.iload_n 1, 1) := by decide +kernel
theorem dX11_leaves_174 : decode cX11_leaves 174 = .ok (.aload_n 0, 1) := by decide +kernel
theorem dX11_leaves_175 : decode cX11_leaves 175 = .ok (.getfield 20, 3) := by decide +kernel
theorem dX11_leaves_178 : decode cX11_leaves 178 = .ok (.iload 8, 2) := by decide +kernel
theorem dX11_leaves_180 : decode cX11_leaves 180 = .ok (.iconst 1, 1) := by decide +kernel
theorem dX11_leaves_181 : decode cX11_leaves 181 = .ok (.iadd, 1) := by decide +kernel
theorem dX11_leaves_182 : decode cX11_leaves 182 = .ok (.iaload, 1) := by decide +kernel
theorem dX11_leaves_183 : decode cX11_leaves 183 = .ok (.aload_n 0, 1) := by decide +kernel
theorem dX11_leaves_184 : decode cX11_leaves 184 = .ok (.getfield 20, 3) := by decide +kernel
theorem dX11_leaves_187 : decode cX11_leaves 187 = .ok (.iload 8, 2) := by decide +kernel
theorem dX11_leaves_189 : decode cX11_leaves 189 = .ok (.iconst 2, 1) := by decide +kernel
theorem dX11_leaves_190 : decode cX11_leaves 190 = .ok (.iadd, 1) := by decide +kernel
theorem dX11_leaves_191 : decode cX11_leaves 191 = .ok (.iaload, 1) := by decide +kernel
theorem dX11_leaves_192 : decode cX11_leaves 192 = .ok (.invokevirtual 271, 3) := by decide +kernel
theorem dX11_leaves_195 : decode cX11_leaves 195 = .ok (.lstore 9, 2) := by decide +kernel
theorem dX11_leaves_197 : decode cX11_leaves 197 = .ok (.iload 4, 2) := by decide +kernel
theorem dX11_leaves_199 : decode cX11_leaves 199 = .ok (.ifCond .lt 14, 3) := by decide +kernel
theorem dX11_leaves_202 : decode cX11_leaves 202 = .ok (.lload 9, 2) := by decide +kernel
theorem dX11_leaves_204 : decode cX11_leaves 204 = .ok (.lload 5, 2) := by decide +kernel
theorem dX11_leaves_206 : decode cX11_leaves 206 = .ok (.lcmp, 1) := by decide +kernel
theorem dX11_leaves_207 : decode cX11_leaves 207 = .ok (.ifCond .gt 6, 3) := by decide +kernel
theorem dX11_leaves_210 : decode cX11_leaves 210 = .ok (.goto 11, 3) := by decide +kernel
theorem dX11_leaves_213 : decode cX11_leaves 213 = .ok (.iload 7, 2) := by decide +kernel
theorem dX11_leaves_215 : decode cX11_leaves 215 = .ok (.istore 4, 2) := by decide +kernel
theorem dX11_leaves_217 : decode cX11_leaves 217 = .ok (.lload 9, 2) := by decide +kernel
theorem dX11_leaves_219 : decode cX11_leaves 219 = .ok (.lstore 5, 2) := by decide +kernel
theorem dX11_leaves_221 : decode cX11_leaves 221 = .ok (.iinc 7 1, 3) := by decide +kernel
theorem dX11_leaves_224 : decode cX11_leaves 224 = .ok (.goto (-187), 3) := by decide +kernel
theorem dX11_leaves_227 : decode cX11_leaves 227 = .ok (.iload 4, 2) := by decide +kernel
theorem dX11_leaves_229 : decode cX11_leaves 229 = .ok (.ifCond .ge 4, 3) := by decide +kernel
theorem dX11_leaves_232 : decode cX11_leaves 232 = .ok (.return_, 1) := by decide +kernel
theorem dX11_leaves_233 : decode cX11_leaves 233 = .ok (.bipush 80, 2) := by decide +kernel
theorem dX11_leaves_235 : decode cX11_leaves 235 = .ok (.bipush 7, 2) := by decide +kernel
theorem dX11_leaves_237 : decode cX11_leaves 237 = .ok (.iload_n 2, 1) := by decide +kernel
theorem dX11_leaves_238 : decode cX11_leaves 238 = .ok (.imul, 1) := by decide +kernel
theorem dX11_leaves_239 : decode cX11_leaves 239 = .ok (.iadd, 1) := by decide +kernel
theorem dX11_leaves_240 : decode cX11_leaves 240 = .ok (.istore 7, 2) := by decide +kernel
theorem dX11_leaves_242 : decode cX11_leaves 242 = .ok (.aload_n 0, 1) := by decide +kernel
theorem dX11_leaves_243 : decode cX11_leaves 243 = .ok (.getfield 42, 3) := by decide +kernel
theorem dX11_leaves_246 : decode cX11_leaves 246 = .ok (.iload 7, 2) := by decide +kernel
theorem dX11_leaves_248 : decode cX11_leaves 248 = .ok (.bipush 8, 2) := by decide +kernel
theorem dX11_leaves_250 : decode cX11_leaves 250 = .ok (.iastore, 1) := by decide +kernel
theorem dX11_leaves_251 : decode cX11_leaves 251 = .ok (.aload_n 0, 1) := by decide +kernel
theorem dX11_leaves_252 : decode cX11_leaves 252 = .ok (.getfield 42, 3) := by decide +kernel
theorem dX11_leaves_255 : decode cX11_leaves 255 = .ok (.iload 7, 2) := by decide +kernel
theorem dX11_leaves_257 : decode cX11_leaves 257 = .ok (.iconst 3, 1) := by decide +kernel
theorem dX11_leaves_258 : decode cX11_leaves 258 = .ok (.iadd, 1) := by decide +kernel
theorem dX11_leaves_259 : decode cX11_leaves 259 = .ok (.iload 4, 2) := by decide +kernel
theorem dX11_leaves_261 : decode cX11_leaves 261 = .ok (.iastore, 1) := by decide +kernel
theorem dX11_leaves_262 : decode cX11_leaves 262 = .ok (.aload_n 0, 1) := by decide +kernel
theorem dX11_leaves_263 : decode cX11_leaves 263 = .ok (.getfield 42, 3) := by decide +kernel
theorem dX11_leaves_266 : decode cX11_leaves 266 = .ok (.iload 7, 2) := by decide +kernel
theorem dX11_leaves_268 : decode cX11_leaves 268 = .ok (.iconst 4, 1) := by decide +kernel
theorem dX11_leaves_269 : decode cX11_leaves 269 = .ok (.iadd, 1) := by decide +kernel
theorem dX11_leaves_270 : decode cX11_leaves 270 = .ok (.iconst 0, 1) := by decide +kernel
theorem dX11_leaves_271 : decode cX11_leaves 271 = .ok (.iastore, 1) := by decide +kernel
theorem dX11_leaves_272 : decode cX11_leaves 272 = .ok (.aload_n 0, 1) := by decide +kernel
theorem dX11_leaves_273 : decode cX11_leaves 273 = .ok (.getfield 42, 3) := by decide +kernel
theorem dX11_leaves_276 : decode cX11_leaves 276 = .ok (.iload 7, 2) := by decide +kernel
theorem dX11_leaves_278 : decode cX11_leaves 278 = .ok (.bipush 6, 2) := by decide +kernel
theorem dX11_leaves_280 : decode cX11_leaves 280 = .ok (.iadd, 1) := by decide +kernel
theorem dX11_leaves_281 : decode cX11_leaves 281 = .ok (.aload_n 0, 1) := by decide +kernel
theorem dX11_leaves_282 : decode cX11_leaves 282 = .ok (.aload_n 0, 1) := by decide +kernel
theorem dX11_leaves_283 : decode cX11_leaves 283 = .ok (.getfield 42, 3) := by decide +kernel
theorem dX11_leaves_286 : decode cX11_leaves 286 = .ok (.iconst 2, 1) := by decide +kernel
theorem dX11_leaves_287 : decode cX11_leaves 287 = .ok (.iaload, 1) := by decide +kernel
theorem dX11_leaves_288 : decode cX11_leaves 288 = .ok (.iload 4, 2) := by decide +kernel
theorem dX11_leaves_290 : decode cX11_leaves 290 = .ok (.iconst 1, 1) := by decide +kernel
theorem dX11_leaves_291 : decode cX11_leaves 291 = .ok (.invokevirtual 285, 3) := by decide +kernel
theorem dX11_leaves_294 : decode cX11_leaves 294 = .ok (.iastore, 1) := by decide +kernel
theorem dX11_leaves_295 : decode cX11_leaves 295 = .ok (.return_, 1) := by decide +kernel
theorem dX11_lengthTo_0 : decode cX11_lengthTo 0 = .ok (.iconst 0, 1) := by decide +kernel
theorem dX11_lengthTo_1 : decode cX11_lengthTo 1 = .ok (.istore_n 2, 1) := by decide +kernel
theorem dX11_lengthTo_2 : decode cX11_lengthTo 2 = .ok (.aload_n 0, 1) := by decide +kernel
theorem dX11_lengthTo_3 : decode cX11_lengthTo 3 = .ok (.getfield 55, 3) := by decide +kernel
theorem dX11_lengthTo_6 : decode cX11_lengthTo 6 = .ok (.iload_n 1, 1) := by decide +kernel
theorem dX11_lengthTo_7 : decode cX11_lengthTo 7 = .ok (.iaload, 1) := by decide +kernel
theorem dX11_lengthTo_8 : decode cX11_lengthTo 8 = .ok (.istore_n 3, 1) := by decide +kernel
theorem dX11_lengthTo_9 : decode cX11_lengthTo 9 = .ok (.iload_n 3, 1) := by decide +kernel
theorem dX11_lengthTo_10 : decode cX11_lengthTo 10 = .ok (.ifCond .lt 16, 3) := by decide +kernel
theorem dX11_lengthTo_13 : decode cX11_lengthTo 13 = .ok (.iinc 2 1, 3) := by decide +kernel
theorem dX11_lengthTo_16 : decode cX11_lengthTo 16 = .ok (.aload_n 0, 1) := by decide +kernel
theorem dX11_lengthTo_17 : decode cX11_lengthTo 17 = .ok (.getfield 55, 3) := by decide +kernel
theorem dX11_lengthTo_20 : decode cX11_lengthTo 20 = .ok (.iload_n 3, 1) := by decide +kernel
theorem dX11_lengthTo_21 : decode cX11_lengthTo 21 = .ok (.iaload, 1) := by decide +kernel
theorem dX11_lengthTo_22 : decode cX11_lengthTo 22 = .ok (.istore_n 3, 1) := by decide +kernel
theorem dX11_lengthTo_23 : decode cX11_lengthTo 23 = .ok (.goto (-14), 3) := by decide +kernel
theorem dX11_lengthTo_26 : decode cX11_lengthTo 26 = .ok (.iload_n 2, 1) := by decide +kernel
theorem dX11_lengthTo_27 : decode cX11_lengthTo 27 = .ok (.ireturn, 1) := by decide +kernel
theorem dX11_longest_0 : decode cX11_longest 0 = .ok (.aload_n 0, 1) := by decide +kernel
theorem dX11_longest_1 : decode cX11_longest 1 = .ok (.iload_n 1, 1) := by decide +kernel
theorem dX11_longest_2 : decode cX11_longest 2 = .ok (.invokevirtual 379, 3) := by decide +kernel
theorem dX11_longest_5 : decode cX11_longest 5 = .ok (.ifCond .eq 27, 3) := by decide +kernel
theorem dX11_longest_8 : decode cX11_longest 8 = .ok (.iload_n 2, 1) := by decide +kernel
theorem dX11_longest_9 : decode cX11_longest 9 = .ok (.i2l, 1) := by decide +kernel
theorem dX11_longest_10 : decode cX11_longest 10 = .ok (.lconst 0, 1) := by decide +kernel
theorem dX11_longest_11 : decode cX11_longest 11 = .ok (.ldc2_w 382, 3) := by decide +kernel
theorem dX11_longest_14 : decode cX11_longest 14 = .ok (.invokestatic 125, 3) := by decide +kernel
theorem dX11_longest_17 : decode cX11_longest 17 = .ok (.ifCond .eq 15, 3) := by decide +kernel
theorem dX11_longest_20 : decode cX11_longest 20 = .ok (.iload_n 3, 1) := by decide +kernel
theorem dX11_longest_21 : decode cX11_longest 21 = .ok (.i2l, 1) := by decide +kernel
theorem dX11_longest_22 : decode cX11_longest 22 = .ok (.lconst 0, 1) := by decide +kernel
theorem dX11_longest_23 : decode cX11_longest 23 = .ok (.ldc2_w 384, 3) := by decide +kernel
theorem dX11_longest_26 : decode cX11_longest 26 = .ok (.invokestatic 125, 3) := by decide +kernel
theorem dX11_longest_29 : decode cX11_longest 29 = .ok (.ifCond .ne 5, 3) := by decide +kernel
theorem dX11_longest_32 : decode cX11_longest 32 = .ok (.iconst (-1), 1) := by decide +kernel
theorem dX11_longest_33 : decode cX11_longest 33 = .ok (.ireturn, 1) := by decide +kernel
theorem dX11_longest_34 : decode cX11_longest 34 = .ok (.aload_n 0, 1) := by decide +kernel
theorem dX11_longest_35 : decode cX11_longest 35 = .ok (.iload_n 1, 1) := by decide +kernel
theorem dX11_longest_36 : decode cX11_longest 36 = .ok (.invokevirtual 386, 3) := by decide +kernel
theorem dX11_longest_39 : decode cX11_longest 39 = .ok (.iconst 0, 1) := by decide +kernel
theorem dX11_longest_40 : decode cX11_longest 40 = .ok (.istore 4, 2) := by decide +kernel
theorem dX11_longest_42 : decode cX11_longest 42 = .ok (.iload 4, 2) := by decide +kernel
theorem dX11_longest_44 : decode cX11_longest 44 = .ok (.iload_n 2, 1) := by decide +kernel
theorem dX11_longest_45 : decode cX11_longest 45 = .ok (.if_icmp .ge 16, 3) := by decide +kernel
theorem dX11_longest_48 : decode cX11_longest 48 = .ok (.aload_n 0, 1) := by decide +kernel
theorem dX11_longest_49 : decode cX11_longest 49 = .ok (.invokevirtual 389, 3) := by decide +kernel
theorem dX11_longest_52 : decode cX11_longest 52 = .ok (.ifCond .eq 9, 3) := by decide +kernel
theorem dX11_longest_55 : decode cX11_longest 55 = .ok (.iinc 4 1, 3) := by decide +kernel
theorem dX11_longest_58 : decode cX11_longest 58 = .ok (.goto (-16), 3) := by decide +kernel
theorem dX11_longest_61 : decode cX11_longest 61 = .ok (.iload_n 3, 1) := by decide +kernel
theorem dX11_longest_62 : decode cX11_longest 62 = .ok (.ifCond .ne 10, 3) := by decide +kernel
theorem dX11_longest_65 : decode cX11_longest 65 = .ok (.aload_n 0, 1) := by decide +kernel
theorem dX11_longest_66 : decode cX11_longest 66 = .ok (.getfield 370, 3) := by decide +kernel
theorem dX11_longest_69 : decode cX11_longest 69 = .ok (.goto 17, 3) := by decide +kernel
theorem dX11_longest_72 : decode cX11_longest 72 = .ok (.iload_n 3, 1) := by decide +kernel
theorem dX11_longest_73 : decode cX11_longest 73 = .ok (.iconst 1, 1) := by decide +kernel
theorem dX11_longest_74 : decode cX11_longest 74 = .ok (.if_icmp .ne 10, 3) := by decide +kernel
theorem dX11_longest_77 : decode cX11_longest 77 = .ok (.aload_n 0, 1) := by decide +kernel
theorem dX11_longest_78 : decode cX11_longest 78 = .ok (.getfield 373, 3) := by decide +kernel
theorem dX11_longest_81 : decode cX11_longest 81 = .ok (.goto 5, 3) := by decide +kernel
theorem dX11_longest_84 : decode cX11_longest 84 = .ok (.iload 4, 2) := by decide +kernel
theorem dX11_longest_86 : decode cX11_longest 86 = .ok (.ireturn, 1) := by decide +kernel
theorem dX11_makes_0 : decode cX11_makes 0 = .ok (.aload_n 0, 1) := by decide +kernel
theorem dX11_makes_1 : decode cX11_makes 1 = .ok (.getfield 156, 3) := by decide +kernel
theorem dX11_makes_4 : decode cX11_makes 4 = .ok (.bipush 60, 2) := by decide +kernel
theorem dX11_makes_6 : decode cX11_makes 6 = .ok (.if_icmp .ne 10, 3) := by decide +kernel
theorem dX11_makes_9 : decode cX11_makes 9 = .ok (.aload_n 0, 1) := by decide +kernel
theorem dX11_makes_10 : decode cX11_makes 10 = .ok (.iconst 3, 1) := by decide +kernel
theorem dX11_makes_11 : decode cX11_makes 11 = .ok (.iload_n 1, 1) := by decide +kernel
theorem dX11_makes_12 : decode cX11_makes 12 = .ok (.invokevirtual 118, 3) := by decide +kernel
theorem dX11_makes_15 : decode cX11_makes 15 = .ok (.ireturn, 1) := by decide +kernel
theorem dX11_makes_16 : decode cX11_makes 16 = .ok (.aload_n 0, 1) := by decide +kernel
theorem dX11_makes_17 : decode cX11_makes 17 = .ok (.dup, 1) := by decide +kernel
theorem dX11_makes_18 : decode cX11_makes 18 = .ok (.getfield 156, 3) := by decide +kernel
theorem dX11_makes_21 : decode cX11_makes 21 = .ok (.iconst 1, 1) := by decide +kernel
theorem dX11_makes_22 : decode cX11_makes 22 = .ok (.iadd, 1) := by decide +kernel
theorem dX11_makes_23 : decode cX11_makes 23 = .ok (.putfield 156, 3) := by decide +kernel
theorem dX11_makes_26 : decode cX11_makes 26 = .ok (.iconst 1, 1) := by decide +kernel
theorem dX11_makes_27 : decode cX11_makes 27 = .ok (.ireturn, 1) := by decide +kernel
theorem dX11_meets_0 : decode cX11_meets 0 = .ok (.aload_n 0, 1) := by decide +kernel
theorem dX11_meets_1 : decode cX11_meets 1 = .ok (.getfield 58, 3) := by decide +kernel
theorem dX11_meets_4 : decode cX11_meets 4 = .ok (.iload_n 1, 1) := by decide +kernel
theorem dX11_meets_5 : decode cX11_meets 5 = .ok (.iaload, 1) := by decide +kernel
theorem dX11_meets_6 : decode cX11_meets 6 = .ok (.ifCond .le 4, 3) := by decide +kernel
theorem dX11_meets_9 : decode cX11_meets 9 = .ok (.return_, 1) := by decide +kernel
theorem dX11_meets_10 : decode cX11_meets 10 = .ok (.aload_n 0, 1) := by decide +kernel
theorem dX11_meets_11 : decode cX11_meets 11 = .ok (.getfield 52, 3) := by decide +kernel
theorem dX11_meets_14 : decode cX11_meets 14 = .ok (.aload_n 0, 1) := by decide +kernel
theorem dX11_meets_15 : decode cX11_meets 15 = .ok (.getfield 332, 3) := by decide +kernel
theorem dX11_meets_18 : decode cX11_meets 18 = .ok (.iload_n 1, 1) := by decide +kernel
theorem dX11_meets_19 : decode cX11_meets 19 = .ok (.iastore, 1) := by decide +kernel
theorem dX11_meets_20 : decode cX11_meets 20 = .ok (.aload_n 0, 1) := by decide +kernel
theorem dX11_meets_21 : decode cX11_meets 21 = .ok (.getfield 55, 3) := by decide +kernel
theorem dX11_meets_24 : decode cX11_meets 24 = .ok (.aload_n 0, 1) := by decide +kernel
theorem dX11_meets_25 : decode cX11_meets 25 = .ok (.getfield 332, 3) := by decide +kernel
theorem dX11_meets_28 : decode cX11_meets 28 = .ok (.iload_n 2, 1) := by decide +kernel
theorem dX11_meets_29 : decode cX11_meets 29 = .ok (.iastore, 1) := by decide +kernel
theorem dX11_meets_30 : decode cX11_meets 30 = .ok (.aload_n 0, 1) := by decide +kernel
theorem dX11_meets_31 : decode cX11_meets 31 = .ok (.dup, 1) := by decide +kernel
theorem dX11_meets_32 : decode cX11_meets 32 = .ok (.getfield 332, 3) := by decide +kernel
theorem dX11_meets_35 : decode cX11_meets 35 = .ok (.iconst 1, 1) := by decide +kernel
theorem dX11_meets_36 : decode cX11_meets 36 = .ok (.iadd, 1) := by decide +kernel
theorem dX11_meets_37 : decode cX11_meets 37 = .ok (.putfield 332, 3) := by decide +kernel
theorem dX11_meets_40 : decode cX11_meets 40 = .ok (.aload_n 0, 1) := by decide +kernel
theorem dX11_meets_41 : decode cX11_meets 41 = .ok (.getfield 58, 3) := by decide +kernel
theorem dX11_meets_44 : decode cX11_meets 44 = .ok (.iload_n 1, 1) := by decide +kernel
theorem dX11_meets_45 : decode cX11_meets 45 = .ok (.aload_n 0, 1) := by decide +kernel
theorem dX11_meets_46 : decode cX11_meets 46 = .ok (.getfield 332, 3) := by decide +kernel
theorem dX11_meets_49 : decode cX11_meets 49 = .ok (.iastore, 1) := by decide +kernel
theorem dX11_meets_50 : decode cX11_meets 50 = .ok (.return_, 1) := by decide +kernel
theorem dX11_minute_0 : decode cX11_minute 0 = .ok (.iconst 0, 1) := by decide +kernel
theorem dX11_minute_1 : decode cX11_minute 1 = .ok (.istore_n 2, 1) := by decide +kernel
theorem dX11_minute_2 : decode cX11_minute 2 = .ok (.iload_n 2, 1) := by decide +kernel
theorem dX11_minute_3 : decode cX11_minute 3 = .ok (.aload_n 0, 1) := by decide +kernel
theorem dX11_minute_4 : decode cX11_minute 4 = .ok (.getfield 42, 3) := by decide +kernel
theorem dX11_minute_7 : decode cX11_minute 7 = .ok (.iconst 1, 1) := by decide +kernel
theorem dX11_minute_8 : decode cX11_minute 8 = .ok (.iaload, 1) := by decide +kernel
theorem dX11_minute_9 : decode cX11_minute 9 = .ok (.if_icmp .ge 78, 3) := by decide +kernel
theorem dX11_minute_12 : decode cX11_minute 12 = .ok (.aload_n 0, 1) := by decide +kernel
theorem dX11_minute_13 : decode cX11_minute 13 = .ok (.iload_n 2, 1) := by decide +kernel
theorem dX11_minute_14 : decode cX11_minute 14 = .ok (.iconst 3, 1) := by decide +kernel
theorem dX11_minute_15 : decode cX11_minute 15 = .ok (.invokevirtual 279, 3) := by decide +kernel
theorem dX11_minute_18 : decode cX11_minute 18 = .ok (.istore_n 3, 1) := by decide +kernel
theorem dX11_minute_19 : decode cX11_minute 19 = .ok (.iload_n 3, 1) := by decide +kernel
theorem dX11_minute_20 : decode cX11_minute 20 = .ok (.iconst (-1), 1) := by decide +kernel
theorem dX11_minute_21 : decode cX11_minute 21 = .ok (.if_icmp .ne 6, 3) := by decide +kernel
theorem dX11_minute_24 : decode cX11_minute 24 = .ok (.goto 57, 3) := by decide +kernel
theorem dX11_minute_27 : decode cX11_minute 27 = .ok (.aload_n 0, 1) := by decide +kernel
theorem dX11_minute_28 : decode cX11_minute 28 = .ok (.getfield 42, 3) := by decide +kernel
theorem dX11_minute_31 : decode cX11_minute 31 = .ok (.bipush 80, 2) := by decide +kernel
theorem dX11_minute_33 : decode cX11_minute 33 = .ok (.bipush 7, 2) := by decide +kernel
theorem dX11_minute_35 : decode cX11_minute 35 = .ok (.iload_n 2, 1) := by decide +kernel
theorem dX11_minute_36 : decode cX11_minute 36 = .ok (.imul, 1) := by decide +kernel
theorem dX11_minute_37 : decode cX11_minute 37 = .ok (.iadd, 1) := by decide +kernel
theorem dX11_minute_38 : decode cX11_minute 38 = .ok (.iconst 4, 1) := by decide +kernel
theorem dX11_minute_39 : decode cX11_minute 39 = .ok (.iadd, 1) := by decide +kernel
theorem dX11_minute_40 : decode cX11_minute 40 = .ok (.dup2, 1) := by decide +kernel
theorem dX11_minute_41 : decode cX11_minute 41 = .ok (.iaload, 1) := by decide +kernel
theorem dX11_minute_42 : decode cX11_minute 42 = .ok (.iconst 1, 1) := by decide +kernel
theorem dX11_minute_43 : decode cX11_minute 43 = .ok (.iadd, 1) := by decide +kernel
theorem dX11_minute_44 : decode cX11_minute 44 = .ok (.iastore, 1) := by decide +kernel
theorem dX11_minute_45 : decode cX11_minute 45 = .ok (.aload_n 0, 1) := by decide +kernel
theorem dX11_minute_46 : decode cX11_minute 46 = .ok (.iload_n 2, 1) := by decide +kernel
theorem dX11_minute_47 : decode cX11_minute 47 = .ok (.iconst 4, 1) := by decide +kernel
theorem dX11_minute_48 : decode cX11_minute 48 = .ok (.invokevirtual 279, 3) := by decide +kernel
theorem dX11_minute_51 : decode cX11_minute 51 = .ok (.aload_n 0, 1) := by decide +kernel
theorem dX11_minute_52 : decode cX11_minute 52 = .ok (.iload_n 3, 1) := by decide +kernel
theorem dX11_minute_53 : decode cX11_minute 53 = .ok (.iconst 2, 1) := by decide +kernel
theorem dX11_minute_54 : decode cX11_minute 54 = .ok (.invokevirtual 275, 3) := by decide +kernel
theorem dX11_minute_57 : decode cX11_minute 57 = .ok (.if_icmp .ne 24, 3) := by decide +kernel
theorem dX11_minute_60 : decode cX11_minute 60 = .ok (.aload_n 0, 1) := by decide +kernel
theorem dX11_minute_61 : decode cX11_minute 61 = .ok (.iload_n 2, 1) := by decide +kernel
theorem dX11_minute_62 : decode cX11_minute 62 = .ok (.iload_n 3, 1) := by decide +kernel
theorem dX11_minute_63 : decode cX11_minute 63 = .ok (.aload_n 0, 1) := by decide +kernel
theorem dX11_minute_64 : decode cX11_minute 64 = .ok (.iload_n 2, 1) := by decide +kernel
theorem dX11_minute_65 : decode cX11_minute 65 = .ok (.bipush 6, 2) := by decide +kernel
theorem dX11_minute_67 : decode cX11_minute 67 = .ok (.invokevirtual 279, 3) := by decide +kernel
theorem dX11_minute_70 : decode cX11_minute 70 = .ok (.aload_n 0, 1) := by decide +kernel
theorem dX11_minute_71 : decode cX11_minute 71 = .ok (.getfield 42, 3) := by decide +kernel
theorem dX11_minute_74 : decode cX11_minute 74 = .ok (.iconst 4, 1) := by decide +kernel
theorem dX11_minute_75 : decode cX11_minute 75 = .ok (.iaload, 1) := by decide +kernel
theorem dX11_minute_76 : decode cX11_minute 76 = .ok (.iconst 1, 1) := by decide +kernel
theorem dX11_minute_77 : decode cX11_minute 77 = .ok (.iadd, 1) := by decide +kernel
theorem dX11_minute_78 : decode cX11_minute 78 = .ok (.invokevirtual 319, 3) := by decide +kernel
theorem dX11_minute_81 : decode cX11_minute 81 = .ok (.iinc 2 1, 3) := by decide +kernel
theorem dX11_minute_84 : decode cX11_minute 84 = .ok (.goto (-82), 3) := by decide +kernel
theorem dX11_minute_87 : decode cX11_minute 87 = .ok (.iconst 0, 1) := by decide +kernel
theorem dX11_minute_88 : decode cX11_minute 88 = .ok (.istore_n 2, 1) := by decide +kernel
theorem dX11_minute_89 : decode cX11_minute 89 = .ok (.iload_n 2, 1) := by decide +kernel
theorem dX11_minute_90 : decode cX11_minute 90 = .ok (.aload_n 0, 1) := by decide +kernel
theorem dX11_minute_91 : decode cX11_minute 91 = .ok (.getfield 42, 3) := by decide +kernel
theorem dX11_minute_94 : decode cX11_minute 94 = .ok (.iconst 1, 1) := by decide +kernel
theorem dX11_minute_95 : decode cX11_minute 95 = .ok (.iaload, 1) := by decide +kernel
theorem dX11_minute_96 : decode cX11_minute 96 = .ok (.if_icmp .ge 55, 3) := by decide +kernel
theorem dX11_minute_99 : decode cX11_minute 99 = .ok (.aload_n 0, 1) := by decide +kernel
theorem dX11_minute_100 : decode cX11_minute 100 = .ok (.iload_n 2, 1) := by decide +kernel
theorem dX11_minute_101 : decode cX11_minute 101 = .ok (.iconst 3, 1) := by decide +kernel
theorem dX11_minute_102 : decode cX11_minute 102 = .ok (.invokevirtual 279, 3) := by decide +kernel
theorem dX11_minute_105 : decode cX11_minute 105 = .ok (.iconst (-1), 1) := by decide +kernel
theorem dX11_minute_106 : decode cX11_minute 106 = .ok (.if_icmp .ne 39, 3) := by decide +kernel
theorem dX11_minute_109 : decode cX11_minute 109 = .ok (.aload_n 0, 1) := by decide +kernel
theorem dX11_minute_110 : decode cX11_minute 110 = .ok (.iload_n 2, 1) := by decide +kernel
theorem dX11_minute_111 : decode cX11_minute 111 = .ok (.iconst 0, 1) := by decide +kernel
theorem dX11_minute_112 : decode cX11_minute 112 = .ok (.invokevirtual 279, 3) := by decide +kernel
theorem dX11_minute_115 : decode cX11_minute 115 = .ok (.aload_n 0, 1) := by decide +kernel
theorem dX11_minute_116 : decode cX11_minute 116 = .ok (.iload_n 2, 1) := by decide +kernel
theorem dX11_minute_117 : decode cX11_minute 117 = .ok (.iconst 1, 1) := by decide +kernel
theorem dX11_minute_118 : decode cX11_minute 118 = .ok (.invokevirtual 279, 3) := by decide +kernel
theorem dX11_minute_121 : decode cX11_minute 121 = .ok (.if_icmp .eq 24, 3) := by decide +kernel
theorem dX11_minute_124 : decode cX11_minute 124 = .ok (.aload_n 0, 1) := by decide +kernel
theorem dX11_minute_125 : decode cX11_minute 125 = .ok (.getfield 42, 3) := by decide +kernel
theorem dX11_minute_128 : decode cX11_minute 128 = .ok (.iconst 4, 1) := by decide +kernel
theorem dX11_minute_129 : decode cX11_minute 129 = .ok (.iaload, 1) := by decide +kernel
theorem dX11_minute_130 : decode cX11_minute 130 = .ok (.aload_n 0, 1) := by decide +kernel
theorem dX11_minute_131 : decode cX11_minute 131 = .ok (.iload_n 2, 1) := by decide +kernel
theorem dX11_minute_132 : decode cX11_minute 132 = .ok (.iconst 2, 1) := by decide +kernel
theorem dX11_minute_133 : decode cX11_minute 133 = .ok (.invokevirtual 279, 3) := by decide +kernel
theorem dX11_minute_136 : decode cX11_minute 136 = .ok (.if_icmp .lt 9, 3) := by decide +kernel
theorem dX11_minute_139 : decode cX11_minute 139 = .ok (.aload_n 0, 1) := by decide +kernel
theorem dX11_minute_140 : decode cX11_minute 140 = .ok (.iload_n 1, 1) := by decide +kernel
theorem dX11_minute_141 : decode cX11_minute 141 = .ok (.iload_n 2, 1) := by decide +kernel
theorem dX11_minute_142 : decode cX11_minute 142 = .ok (.invokevirtual 426, 3) := by decide +kernel
theorem dX11_minute_145 : decode cX11_minute 145 = .ok (.iinc 2 1, 3) := by decide +kernel
theorem dX11_minute_148 : decode cX11_minute 148 = .ok (.goto (-59), 3) := by decide +kernel
theorem dX11_minute_151 : decode cX11_minute 151 = .ok (.iconst 0, 1) := by decide +kernel
theorem dX11_minute_152 : decode cX11_minute 152 = .ok (.istore_n 2, 1) := by decide +kernel
theorem dX11_minute_153 : decode cX11_minute 153 = .ok (.iload_n 2, 1) := by decide +kernel
theorem dX11_minute_154 : decode cX11_minute 154 = .ok (.aload_n 0, 1) := by decide +kernel
theorem dX11_minute_155 : decode cX11_minute 155 = .ok (.getfield 42, 3) := by decide +kernel
theorem dX11_minute_158 : decode cX11_minute 158 = .ok (.iconst 1, 1) := by decide +kernel
theorem dX11_minute_159 : decode cX11_minute 159 = .ok (.iaload, 1) := by decide +kernel
theorem dX11_minute_160 : decode cX11_minute 160 = .ok (.if_icmp .ge 78, 3) := by decide +kernel
theorem dX11_minute_163 : decode cX11_minute 163 = .ok (.iconst 0, 1) := by decide +kernel
theorem dX11_minute_164 : decode cX11_minute 164 = .ok (.istore_n 3, 1) := by decide +kernel
theorem dX11_minute_165 : decode cX11_minute 165 = .ok (.iload_n 3, 1) := by decide +kernel
theorem dX11_minute_166 : decode cX11_minute 166 = .ok (.iload_n 2, 1) := by decide +kernel
theorem dX11_minute_167 : decode cX11_minute 167 = .ok (.if_icmp .ge 65, 3) := by decide +kernel
theorem dX11_minute_170 : decode cX11_minute 170 = .ok (.aload_n 0, 1) := by decide +kernel
theorem dX11_minute_171 : decode cX11_minute 171 = .ok (.getfield 42, 3) := by decide +kernel
theorem dX11_minute_174 : decode cX11_minute 174 = .ok (.iconst 5, 1) := by decide +kernel
theorem dX11_minute_175 : decode cX11_minute 175 = .ok (.dup2, 1) := by decide +kernel
theorem dX11_minute_176 : decode cX11_minute 176 = .ok (.iaload, 1) := by decide +kernel
theorem dX11_minute_177 : decode cX11_minute 177 = .ok (.aload_n 0, 1) := by decide +kernel
theorem dX11_minute_178 : decode cX11_minute 178 = .ok (.iload_n 2, 1) := by decide +kernel
theorem dX11_minute_179 : decode cX11_minute 179 = .ok (.iconst 3, 1) := by decide +kernel
theorem dX11_minute_180 : decode cX11_minute 180 = .ok (.invokevirtual 279, 3) := by decide +kernel
theorem dX11_minute_183 : decode cX11_minute 183 = .ok (.iconst (-1), 1) := by decide +kernel
theorem dX11_minute_184 : decode cX11_minute 184 = .ok (.if_icmp .eq 39, 3) := by decide +kernel
theorem dX11_minute_187 : decode cX11_minute 187 = .ok (.aload_n 0, 1) := by decide +kernel
theorem dX11_minute_188 : decode cX11_minute 188 = .ok (.iload_n 2, 1) := by decide +kernel
theorem dX11_minute_189 : decode cX11_minute 189 = .ok (.iconst 3, 1) := by decide +kernel
theorem dX11_minute_190 : decode cX11_minute 190 = .ok (.invokevirtual 279, 3) := by decide +kernel
theorem dX11_minute_193 : decode cX11_minute 193 = .ok (.aload_n 0, 1) := by decide +kernel
theorem dX11_minute_194 : decode cX11_minute 194 = .ok (.iload_n 3, 1) := by decide +kernel
theorem dX11_minute_195 : decode cX11_minute 195 = .ok (.iconst 3, 1) := by decide +kernel
theorem dX11_minute_196 : decode cX11_minute 196 = .ok (.invokevirtual 279, 3) := by decide +kernel
theorem dX11_minute_199 : decode cX11_minute 199 = .ok (.if_icmp .ne 24, 3) := by decide +kernel
theorem dX11_minute_202 : decode cX11_minute 202 = .ok (.aload_n 0, 1) := by decide +kernel
theorem dX11_minute_203 : decode cX11_minute 203 = .ok (.iload_n 2, 1) := by decide +kernel
theorem dX11_minute_204 : decode cX11_minute 204 = .ok (.bipush 6, 2) := by decide +kernel
theorem dX11_minute_206 : decode cX11_minute 206 = .ok (.invokevirtual 279, 3) := by decide +kernel
theorem dX11_minute_209 : decode cX11_minute 209 = .ok (.aload_n 0, 1) := by decide +kernel
theorem dX11_minute_210 : decode cX11_minute 210 = .ok (.iload_n 3, 1) := by decide +kernel
theorem dX11_minute_211 : decode cX11_minute 211 = .ok (.bipush 6, 2) := by decide +kernel
theorem dX11_minute_213 : decode cX11_minute 213 = .ok (.invokevirtual 279, 3) := by decide +kernel
theorem dX11_minute_216 : decode cX11_minute 216 = .ok (.if_icmp .eq 7, 3) := by decide +kernel
theorem dX11_minute_219 : decode cX11_minute 219 = .ok (.iconst 1, 1) := by decide +kernel
theorem dX11_minute_220 : decode cX11_minute 220 = .ok (.goto 4, 3) := by decide +kernel
theorem dX11_minute_223 : decode cX11_minute 223 = .ok (.iconst 0, 1) := by decide +kernel
theorem dX11_minute_224 : decode cX11_minute 224 = .ok (.iadd, 1) := by decide +kernel
theorem dX11_minute_225 : decode cX11_minute 225 = .ok (.iastore, 1) := by decide +kernel
theorem dX11_minute_226 : decode cX11_minute 226 = .ok (.iinc 3 1, 3) := by decide +kernel
theorem dX11_minute_229 : decode cX11_minute 229 = .ok (.goto (-64), 3) := by decide +kernel
theorem dX11_minute_232 : decode cX11_minute 232 = .ok (.iinc 2 1, 3) := by decide +kernel
theorem dX11_minute_235 : decode cX11_minute 235 = .ok (.goto (-82), 3) := by decide +kernel
theorem dX11_minute_238 : decode cX11_minute 238 = .ok (.aload_n 0, 1) := by decide +kernel
theorem dX11_minute_239 : decode cX11_minute 239 = .ok (.getfield 42, 3) := by decide +kernel
theorem dX11_minute_242 : decode cX11_minute 242 = .ok (.iconst 4, 1) := by decide +kernel
theorem dX11_minute_243 : decode cX11_minute 243 = .ok (.dup2, 1) := by decide +kernel
theorem dX11_minute_244 : decode cX11_minute 244 = .ok (.iaload, 1) := by decide +kernel
theorem dX11_minute_245 : decode cX11_minute 245 = .ok (.iconst 1, 1) := by decide +kernel
theorem dX11_minute_246 : decode cX11_minute 246 = .ok (.iadd, 1) := by decide +kernel
theorem dX11_minute_247 : decode cX11_minute 247 = .ok (.iastore, 1) := by decide +kernel
theorem dX11_minute_248 : decode cX11_minute 248 = .ok (.return_, 1) := by decide +kernel
theorem dX11_minutes_0 : decode cX11_minutes 0 = .ok (.iconst 0, 1) := by decide +kernel
theorem dX11_minutes_1 : decode cX11_minutes 1 = .ok (.istore_n 3, 1) := by decide +kernel
theorem dX11_minutes_2 : decode cX11_minutes 2 = .ok (.iload_n 3, 1) := by decide +kernel
theorem dX11_minutes_3 : decode cX11_minutes 3 = .ok (.iload_n 2, 1) := by decide +kernel
theorem dX11_minutes_4 : decode cX11_minutes 4 = .ok (.if_icmp .ge 14, 3) := by decide +kernel
theorem dX11_minutes_7 : decode cX11_minutes 7 = .ok (.aload_n 0, 1) := by decide +kernel
theorem dX11_minutes_8 : decode cX11_minutes 8 = .ok (.iload_n 1, 1) := by decide +kernel
theorem dX11_minutes_9 : decode cX11_minutes 9 = .ok (.invokevirtual 429, 3) := by decide +kernel
theorem dX11_minutes_12 : decode cX11_minutes 12 = .ok (.iinc 3 1, 3) := by decide +kernel
theorem dX11_minutes_15 : decode cX11_minutes 15 = .ok (.goto (-13), 3) := by decide +kernel
theorem dX11_minutes_18 : decode cX11_minutes 18 = .ok (.return_, 1) := by decide +kernel
theorem dX11_numberHere_0 : decode cX11_numberHere 0 = .ok (.aload_n 0, 1) := by decide +kernel
theorem dX11_numberHere_1 : decode cX11_numberHere 1 = .ok (.invokevirtual 100, 3) := by decide +kernel
theorem dX11_numberHere_4 : decode cX11_numberHere 4 = .ok (.pop, 1) := by decide +kernel
theorem dX11_numberHere_5 : decode cX11_numberHere 5 = .ok (.aload_n 0, 1) := by decide +kernel
theorem dX11_numberHere_6 : decode cX11_numberHere 6 = .ok (.aload_n 0, 1) := by decide +kernel
theorem dX11_numberHere_7 : decode cX11_numberHere 7 = .ok (.getfield 97, 3) := by decide +kernel
theorem dX11_numberHere_10 : decode cX11_numberHere 10 = .ok (.invokevirtual 115, 3) := by decide +kernel
theorem dX11_numberHere_13 : decode cX11_numberHere 13 = .ok (.ifCond .ne 13, 3) := by decide +kernel
theorem dX11_numberHere_16 : decode cX11_numberHere 16 = .ok (.aload_n 0, 1) := by decide +kernel
theorem dX11_numberHere_17 : decode cX11_numberHere 17 = .ok (.iconst 0, 1) := by decide +kernel
theorem dX11_numberHere_18 : decode cX11_numberHere 18 = .ok (.aload_n 0, 1) := by decide +kernel
theorem dX11_numberHere_19 : decode cX11_numberHere 19 = .ok (.getfield 97, 3) := by decide +kernel
theorem dX11_numberHere_22 : decode cX11_numberHere 22 = .ok (.invokevirtual 118, 3) := by decide +kernel
theorem dX11_numberHere_25 : decode cX11_numberHere 25 = .ok (.ireturn, 1) := by decide +kernel
theorem dX11_numberHere_26 : decode cX11_numberHere 26 = .ok (.aload_n 0, 1) := by decide +kernel
theorem dX11_numberHere_27 : decode cX11_numberHere 27 = .ok (.getfield 97, 3) := by decide +kernel
theorem dX11_numberHere_30 : decode cX11_numberHere 30 = .ok (.istore_n 3, 1) := by decide +kernel
theorem dX11_numberHere_31 : decode cX11_numberHere 31 = .ok (.iconst 0, 1) := by decide +kernel
theorem dX11_numberHere_32 : decode cX11_numberHere 32 = .ok (.istore 4, 2) := by decide +kernel
theorem dX11_numberHere_34 : decode cX11_numberHere 34 = .ok (.aload_n 0, 1) := by decide +kernel
theorem dX11_numberHere_35 : decode cX11_numberHere 35 = .ok (.aload_n 0, 1) := by decide +kernel
theorem dX11_numberHere_36 : decode cX11_numberHere 36 = .ok (.getfield 97, 3) := by decide +kernel
theorem dX11_numberHere_39 : decode cX11_numberHere 39 = .ok (.invokevirtual 115, 3) := by decide +kernel
theorem dX11_numberHere_42 : decode cX11_numberHere 42 = .ok (.ifCond .eq 46, 3) := by decide +kernel
theorem dX11_numberHere_45 : decode cX11_numberHere 45 = .ok (.aload_n 0, 1) := by decide +kernel
theorem dX11_numberHere_46 : decode cX11_numberHere 46 = .ok (.getfield 97, 3) := by decide +kernel
theorem dX11_numberHere_49 : decode cX11_numberHere 49 = .ok (.iload_n 3, 1) := by decide +kernel
theorem dX11_numberHere_50 : decode cX11_numberHere 50 = .ok (.isub, 1) := by decide +kernel
theorem dX11_numberHere_51 : decode cX11_numberHere 51 = .ok (.iconst 5, 1) := by decide +kernel
theorem dX11_numberHere_52 : decode cX11_numberHere 52 = .ok (.if_icmp .ge 23, 3) := by decide +kernel
theorem dX11_numberHere_55 : decode cX11_numberHere 55 = .ok (.bipush 10, 2) := by decide +kernel
theorem dX11_numberHere_57 : decode cX11_numberHere 57 = .ok (.iload 4, 2) := by decide +kernel
theorem dX11_numberHere_59 : decode cX11_numberHere 59 = .ok (.imul, 1) := by decide +kernel
theorem dX11_numberHere_60 : decode cX11_numberHere 60 = .ok (.aload_n 0, 1) := by decide +kernel
theorem dX11_numberHere_61 : decode cX11_numberHere 61 = .ok (.getfield 7, 3) := by decide +kernel
theorem dX11_numberHere_64 : decode cX11_numberHere 64 = .ok (.aload_n 0, 1) := by decide +kernel
theorem dX11_numberHere_65 : decode cX11_numberHere 65 = .ok (.getfield 97, 3) := by decide +kernel
theorem dX11_numberHere_68 : decode cX11_numberHere 68 = .ok (.baload, 1) := by decide +kernel
theorem dX11_numberHere_69 : decode cX11_numberHere 69 = .ok (.iadd, 1) := by decide +kernel
theorem dX11_numberHere_70 : decode cX11_numberHere 70 = .ok (.bipush 48, 2) := by decide +kernel
theorem dX11_numberHere_72 : decode cX11_numberHere 72 = .ok (.isub, 1) := by decide +kernel
theorem dX11_numberHere_73 : decode cX11_numberHere 73 = .ok (.istore 4, 2) := by decide +kernel
theorem dX11_numberHere_75 : decode cX11_numberHere 75 = .ok (.aload_n 0, 1) := by decide +kernel
theorem dX11_numberHere_76 : decode cX11_numberHere 76 = .ok (.dup, 1) := by decide +kernel
theorem dX11_numberHere_77 : decode cX11_numberHere 77 = .ok (.getfield 97, 3) := by decide +kernel
theorem dX11_numberHere_80 : decode cX11_numberHere 80 = .ok (.iconst 1, 1) := by decide +kernel
theorem dX11_numberHere_81 : decode cX11_numberHere 81 = .ok (.iadd, 1) := by decide +kernel
theorem dX11_numberHere_82 : decode cX11_numberHere 82 = .ok (.putfield 97, 3) := by decide +kernel
theorem dX11_numberHere_85 : decode cX11_numberHere 85 = .ok (.goto (-51), 3) := by decide +kernel
theorem dX11_numberHere_88 : decode cX11_numberHere 88 = .ok (.aload_n 0, 1) := by decide +kernel
theorem dX11_numberHere_89 : decode cX11_numberHere 89 = .ok (.iload 4, 2) := by decide +kernel
theorem dX11_numberHere_91 : decode cX11_numberHere 91 = .ok (.putfield 122, 3) := by decide +kernel
theorem dX11_numberHere_94 : decode cX11_numberHere 94 = .ok (.aload_n 0, 1) := by decide +kernel
theorem dX11_numberHere_95 : decode cX11_numberHere 95 = .ok (.getfield 97, 3) := by decide +kernel
theorem dX11_numberHere_98 : decode cX11_numberHere 98 = .ok (.iload_n 3, 1) := by decide +kernel
theorem dX11_numberHere_99 : decode cX11_numberHere 99 = .ok (.isub, 1) := by decide +kernel
theorem dX11_numberHere_100 : decode cX11_numberHere 100 = .ok (.iconst 5, 1) := by decide +kernel
theorem dX11_numberHere_101 : decode cX11_numberHere 101 = .ok (.if_icmp .gt 16, 3) := by decide +kernel
theorem dX11_numberHere_104 : decode cX11_numberHere 104 = .ok (.iload 4, 2) := by decide +kernel
theorem dX11_numberHere_106 : decode cX11_numberHere 106 = .ok (.i2l, 1) := by decide +kernel
theorem dX11_numberHere_107 : decode cX11_numberHere 107 = .ok (.iload_n 1, 1) := by decide +kernel
theorem dX11_numberHere_108 : decode cX11_numberHere 108 = .ok (.i2l, 1) := by decide +kernel
theorem dX11_numberHere_109 : decode cX11_numberHere 109 = .ok (.iload_n 2, 1) := by decide +kernel
theorem dX11_numberHere_110 : decode cX11_numberHere 110 = .ok (.i2l, 1) := by decide +kernel
theorem dX11_numberHere_111 : decode cX11_numberHere 111 = .ok (.invokestatic 125, 3) := by decide +kernel
theorem dX11_numberHere_114 : decode cX11_numberHere 114 = .ok (.ifCond .ne 12, 3) := by decide +kernel
theorem dX11_numberHere_117 : decode cX11_numberHere 117 = .ok (.aload_n 0, 1) := by decide +kernel
theorem dX11_numberHere_118 : decode cX11_numberHere 118 = .ok (.iconst 1, 1) := by decide +kernel
theorem dX11_numberHere_119 : decode cX11_numberHere 119 = .ok (.iload_n 3, 1) := by decide +kernel
theorem dX11_numberHere_120 : decode cX11_numberHere 120 = .ok (.invokevirtual 118, 3) := by decide +kernel
theorem dX11_numberHere_123 : decode cX11_numberHere 123 = .ok (.ifCond .eq 7, 3) := by decide +kernel
theorem dX11_numberHere_126 : decode cX11_numberHere 126 = .ok (.iconst 1, 1) := by decide +kernel
theorem dX11_numberHere_127 : decode cX11_numberHere 127 = .ok (.goto 4, 3) := by decide +kernel
theorem dX11_numberHere_130 : decode cX11_numberHere 130 = .ok (.iconst 0, 1) := by decide +kernel
theorem dX11_numberHere_131 : decode cX11_numberHere 131 = .ok (.ireturn, 1) := by decide +kernel
theorem dX11_onWay_0 : decode cX11_onWay 0 = .ok (.iconst 0, 1) := by decide +kernel
theorem dX11_onWay_1 : decode cX11_onWay 1 = .ok (.istore_n 2, 1) := by decide +kernel
theorem dX11_onWay_2 : decode cX11_onWay 2 = .ok (.iconst 0, 1) := by decide +kernel
theorem dX11_onWay_3 : decode cX11_onWay 3 = .ok (.istore_n 3, 1) := by decide +kernel
theorem dX11_onWay_4 : decode cX11_onWay 4 = .ok (.iload_n 3, 1) := by decide +kernel
theorem dX11_onWay_5 : decode cX11_onWay 5 = .ok (.aload_n 0, 1) := by decide +kernel
theorem dX11_onWay_6 : decode cX11_onWay 6 = .ok (.getfield 42, 3) := by decide +kernel
theorem dX11_onWay_9 : decode cX11_onWay 9 = .ok (.iconst 1, 1) := by decide +kernel
theorem dX11_onWay_10 : decode cX11_onWay 10 = .ok (.iaload, 1) := by decide +kernel
theorem dX11_onWay_11 : decode cX11_onWay 11 = .ok (.if_icmp .ge 27, 3) := by decide +kernel
theorem dX11_onWay_14 : decode cX11_onWay 14 = .ok (.iload_n 2, 1) := by decide +kernel
theorem dX11_onWay_15 : decode cX11_onWay 15 = .ok (.aload_n 0, 1) := by decide +kernel
theorem dX11_onWay_16 : decode cX11_onWay 16 = .ok (.iload_n 3, 1) := by decide +kernel
theorem dX11_onWay_17 : decode cX11_onWay 17 = .ok (.iconst 3, 1) := by decide +kernel
theorem dX11_onWay_18 : decode cX11_onWay 18 = .ok (.invokevirtual 279, 3) := by decide +kernel
theorem dX11_onWay_21 : decode cX11_onWay 21 = .ok (.iload_n 1, 1) := by decide +kernel
theorem dX11_onWay_22 : decode cX11_onWay 22 = .ok (.if_icmp .ne 7, 3) := by decide +kernel
theorem dX11_onWay_25 : decode cX11_onWay 25 = .ok (.iconst 1, 1) := by decide +kernel
theorem dX11_onWay_26 : decode cX11_onWay 26 = .ok (.goto 4, 3) := by decide +kernel
theorem dX11_onWay_29 : decode cX11_onWay 29 = .ok (.iconst 0, 1) := by decide +kernel
theorem dX11_onWay_30 : decode cX11_onWay 30 = .ok (.iadd, 1) := by decide +kernel
theorem dX11_onWay_31 : decode cX11_onWay 31 = .ok (.istore_n 2, 1) := by decide +kernel
theorem dX11_onWay_32 : decode cX11_onWay 32 = .ok (.iinc 3 1, 3) := by decide +kernel
theorem dX11_onWay_35 : decode cX11_onWay 35 = .ok (.goto (-31), 3) := by decide +kernel
theorem dX11_onWay_38 : decode cX11_onWay 38 = .ok (.iload_n 2, 1) := by decide +kernel
theorem dX11_onWay_39 : decode cX11_onWay 39 = .ok (.ireturn, 1) := by decide +kernel
theorem dX11_one_0 : decode cX11_one 0 = .ok (.iload_n 0, 1) := by decide +kernel
theorem dX11_one_1 : decode cX11_one 1 = .ok (.tableswitch 149 2 12 #[59, 63, 67, 71, 85, 97, 109, 121, 133, 149, 145], 59) := by decide +kernel
theorem dX11_one_60 : decode cX11_one 60 = .ok (.lload_n 1, 1) := by decide +kernel
theorem dX11_one_61 : decode cX11_one 61 = .ok (.lload_n 3, 1) := by decide +kernel
theorem dX11_one_62 : decode cX11_one 62 = .ok (.ladd, 1) := by decide +kernel
theorem dX11_one_63 : decode cX11_one 63 = .ok (.lreturn, 1) := by decide +kernel
theorem dX11_one_64 : decode cX11_one 64 = .ok (.lload_n 1, 1) := by decide +kernel
theorem dX11_one_65 : decode cX11_one 65 = .ok (.lload_n 3, 1) := by decide +kernel
theorem dX11_one_66 : decode cX11_one 66 = .ok (.lsub, 1) := by decide +kernel
theorem dX11_one_67 : decode cX11_one 67 = .ok (.lreturn, 1) := by decide +kernel
theorem dX11_one_68 : decode cX11_one 68 = .ok (.lload_n 1, 1) := by decide +kernel
theorem dX11_one_69 : decode cX11_one 69 = .ok (.lload_n 3, 1) := by decide +kernel
theorem dX11_one_70 : decode cX11_one 70 = .ok (.lmul, 1) := by decide +kernel
theorem dX11_one_71 : decode cX11_one 71 = .ok (.lreturn, 1) := by decide +kernel
theorem dX11_one_72 : decode cX11_one 72 = .ok (.lload_n 3, 1) := by decide +kernel
theorem dX11_one_73 : decode cX11_one 73 = .ok (.lconst 0, 1) := by decide +kernel
theorem dX11_one_74 : decode cX11_one 74 = .ok (.lcmp, 1) := by decide +kernel
theorem dX11_one_75 : decode cX11_one 75 = .ok (.ifCond .ne 7, 3) := by decide +kernel
theorem dX11_one_78 : decode cX11_one 78 = .ok (.lconst 0, 1) := by decide +kernel
theorem dX11_one_79 : decode cX11_one 79 = .ok (.goto 6, 3) := by decide +kernel
theorem dX11_one_82 : decode cX11_one 82 = .ok (.lload_n 1, 1) := by decide +kernel
theorem dX11_one_83 : decode cX11_one 83 = .ok (.lload_n 3, 1) := by decide +kernel
theorem dX11_one_84 : decode cX11_one 84 = .ok (.ldiv, 1) := by decide +kernel
theorem dX11_one_85 : decode cX11_one 85 = .ok (.lreturn, 1) := by decide +kernel
theorem dX11_one_86 : decode cX11_one 86 = .ok (.lload_n 1, 1) := by decide +kernel
theorem dX11_one_87 : decode cX11_one 87 = .ok (.lload_n 3, 1) := by decide +kernel
theorem dX11_one_88 : decode cX11_one 88 = .ok (.lcmp, 1) := by decide +kernel
theorem dX11_one_89 : decode cX11_one 89 = .ok (.ifCond .ge 7, 3) := by decide +kernel
theorem dX11_one_92 : decode cX11_one 92 = .ok (.lconst 1, 1) := by decide +kernel
theorem dX11_one_93 : decode cX11_one 93 = .ok (.goto 4, 3) := by decide +kernel
theorem dX11_one_96 : decode cX11_one 96 = .ok (.lconst 0, 1) := by decide +kernel
theorem dX11_one_97 : decode cX11_one 97 = .ok (.lreturn, 1) := by decide +kernel
theorem dX11_one_98 : decode cX11_one 98 = .ok (.lload_n 1, 1) := by decide +kernel
theorem dX11_one_99 : decode cX11_one 99 = .ok (.lload_n 3, 1) := by decide +kernel
theorem dX11_one_100 : decode cX11_one 100 = .ok (.lcmp, 1) := by decide +kernel
theorem dX11_one_101 : decode cX11_one 101 = .ok (.ifCond .gt 7, 3) := by decide +kernel
theorem dX11_one_104 : decode cX11_one 104 = .ok (.lconst 1, 1) := by decide +kernel
theorem dX11_one_105 : decode cX11_one 105 = .ok (.goto 4, 3) := by decide +kernel
theorem dX11_one_108 : decode cX11_one 108 = .ok (.lconst 0, 1) := by decide +kernel
theorem dX11_one_109 : decode cX11_one 109 = .ok (.lreturn, 1) := by decide +kernel
theorem dX11_one_110 : decode cX11_one 110 = .ok (.lload_n 1, 1) := by decide +kernel
theorem dX11_one_111 : decode cX11_one 111 = .ok (.lload_n 3, 1) := by decide +kernel
theorem dX11_one_112 : decode cX11_one 112 = .ok (.lcmp, 1) := by decide +kernel
theorem dX11_one_113 : decode cX11_one 113 = .ok (.ifCond .ne 7, 3) := by decide +kernel
theorem dX11_one_116 : decode cX11_one 116 = .ok (.lconst 1, 1) := by decide +kernel
theorem dX11_one_117 : decode cX11_one 117 = .ok (.goto 4, 3) := by decide +kernel
theorem dX11_one_120 : decode cX11_one 120 = .ok (.lconst 0, 1) := by decide +kernel
theorem dX11_one_121 : decode cX11_one 121 = .ok (.lreturn, 1) := by decide +kernel
theorem dX11_one_122 : decode cX11_one 122 = .ok (.lload_n 1, 1) := by decide +kernel
theorem dX11_one_123 : decode cX11_one 123 = .ok (.lload_n 3, 1) := by decide +kernel
