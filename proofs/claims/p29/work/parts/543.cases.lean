set_option maxHeartbeats 4000000 in
set_option maxRecDepth 100000 in
theorem ca_0 {p : Program} {l : Launch} {e : Env} {s : State} {m : MethodId} {b L : Nat} {xs : Nat → Int32} {below : List Frame} {meth : Method} {cd : Code} {H : Heap} {locs : List Loc} {Q : State → Prop} {ls : Array Slot} {A : Nat → Prop} {D : va_G} {c : Nat → ClassId} {kS vS : Nat} {fS : Nat → Int32} {h0 m0 k nm nq : Nat} {iv : Int32} {T : Nat} (C : CX p s m cd b L xs A D c kS vS fS) (hk : k ≤ 199) (hL : L ≤ 384) (hiv : iv.toInt = (T : Int)) (hT : T + 6 ≤ L) (hl : lv_has ls 4 [(3, .int iv), (2, .ref m0), (1, .ref h0), (0, .ref b)]) (hJ : LQ (LR c) D A s c h0 m0 nm nq H locs) (kk : ∀ (H1 : Heap) (locs1 : List Loc) (nm' nq' : Nat), LQ (LR c) D A s c h0 m0 nm' nq' H1 locs1 → W p l e room_1 s m #[Value.ref b] below meth cd H1 locs1 (100 + 100 * (k + 1 + 1) + (nm' + nq' / 256)) (3160000 + 5000 * (k + 1 + 1) + (2 * nm' + 2 * nq')) Q (F0 m 1138 ls [])) : W p l e room_1 s m #[Value.ref b] below meth cd H locs (100 + 100 * k + (nm + nq / 256)) (3160000 + 5000 * k + (2 * nm + 2 * nq)) Q (F0 m 176 ls []) := by
  have C0 := C
  obtain ⟨hx, hb, hml, hown, hts, hN, hK, hA, hE, hX, hbl, hbA⟩ := C
  have hk : k ≤ 200 := by omega
  refine lv_aload_n hx hb dL_law_176 rfl (lv_at hl 2 rfl) ?_
  refine lv_aload_n hx hb dL_law_177 rfl (lv_at hl 3 rfl) ?_
  refine lv_iload_n hx hb dL_law_178 rfl (lv_at hl 0 rfl) ?_
  refine lv_iconst (v := 1) hx hb dL_law_179 (by decide) ?_
  refine lv_iadd hx hb dL_law_180 ?_
  refine va_sld hx hb hX hbl hbA hJ.vS (sl_in (J := 1) hiv (by decide) (by omega) hL) dL_law_181 ?_
  refine lv_aload_n hx hb dL_law_182 rfl (lv_at hl 3 rfl) ?_
  refine lv_iload_n hx hb dL_law_183 rfl (lv_at hl 0 rfl) ?_
  refine lv_iconst (v := 2) hx hb dL_law_184 (by decide) ?_
  refine lv_iadd hx hb dL_law_185 ?_
  refine va_sld hx hb hX hbl hbA hJ.vS (sl_in (J := 2) hiv (by decide) (by omega) hL) dL_law_186 ?_
  refine lv_aload_n hx hb dL_law_187 rfl (lv_at hl 3 rfl) ?_
  refine lv_iload_n hx hb dL_law_188 rfl (lv_at hl 0 rfl) ?_
  refine lv_iconst (v := 3) hx hb dL_law_189 (by decide) ?_
  refine lv_iadd hx hb dL_law_190 ?_
  refine va_sld hx hb hX hbl hbA hJ.vS (sl_in (J := 3) hiv (by decide) (by omega) hL) dL_law_191 ?_
  refine lv_aload_n hx hb dL_law_192 rfl (lv_at hl 3 rfl) ?_
  refine lv_iload_n hx hb dL_law_193 rfl (lv_at hl 0 rfl) ?_
  refine lv_iconst (v := 4) hx hb dL_law_194 (by decide) ?_
  refine lv_iadd hx hb dL_law_195 ?_
  refine va_sld hx hb hX hbl hbA hJ.vS (sl_in (J := 4) hiv (by decide) (by omega) hL) dL_law_196 ?_
  refine lv_aload_n hx hb dL_law_197 rfl (lv_at hl 3 rfl) ?_
  refine lv_iload_n hx hb dL_law_198 rfl (lv_at hl 0 rfl) ?_
  refine lv_iconst (v := 5) hx hb dL_law_199 (by decide) ?_
  refine lv_iadd hx hb dL_law_200 ?_
  refine va_sld hx hb hX hbl hbA hJ.vS (sl_in (J := 5) hiv (by decide) (by omega) hL) dL_law_201 ?_
  refine cs_feed (xs (Int32.toNatClampNeg (iv + 1))) (xs (Int32.toNatClampNeg (iv + 2))) (xs (Int32.toNatClampNeg (iv + 3))) (xs (Int32.toNatClampNeg (iv + 4))) (xs (Int32.toNatClampNeg (iv + 5))) C0 hk hl.1 hJ (fun r0 H locs nm nq hJ => ?_)
  refine lv_pop hx hb dL_law_205 rfl ?_
  refine lv_aload_n hx hb dL_law_206 rfl (lv_at hl 1 rfl) ?_
  refine lv_aload_n hx hb dL_law_207 rfl (lv_at hl 3 rfl) ?_
  refine lv_iload_n hx hb dL_law_208 rfl (lv_at hl 0 rfl) ?_
  refine lv_iconst (v := 1) hx hb dL_law_209 (by decide) ?_
  refine lv_iadd hx hb dL_law_210 ?_
  refine va_sld hx hb hX hbl hbA hJ.vS (sl_in (J := 1) hiv (by decide) (by omega) hL) dL_law_211 ?_
  refine lv_aload_n hx hb dL_law_212 rfl (lv_at hl 3 rfl) ?_
  refine lv_iload_n hx hb dL_law_213 rfl (lv_at hl 0 rfl) ?_
  refine lv_iconst (v := 2) hx hb dL_law_214 (by decide) ?_
  refine lv_iadd hx hb dL_law_215 ?_
  refine va_sld hx hb hX hbl hbA hJ.vS (sl_in (J := 2) hiv (by decide) (by omega) hL) dL_law_216 ?_
  refine lv_aload_n hx hb dL_law_217 rfl (lv_at hl 3 rfl) ?_
  refine lv_iload_n hx hb dL_law_218 rfl (lv_at hl 0 rfl) ?_
  refine lv_iconst (v := 3) hx hb dL_law_219 (by decide) ?_
  refine lv_iadd hx hb dL_law_220 ?_
  refine va_sld hx hb hX hbl hbA hJ.vS (sl_in (J := 3) hiv (by decide) (by omega) hL) dL_law_221 ?_
  refine lv_aload_n hx hb dL_law_222 rfl (lv_at hl 3 rfl) ?_
  refine lv_iload_n hx hb dL_law_223 rfl (lv_at hl 0 rfl) ?_
  refine lv_iconst (v := 4) hx hb dL_law_224 (by decide) ?_
  refine lv_iadd hx hb dL_law_225 ?_
  refine va_sld hx hb hX hbl hbA hJ.vS (sl_in (J := 4) hiv (by decide) (by omega) hL) dL_law_226 ?_
  refine lv_aload_n hx hb dL_law_227 rfl (lv_at hl 3 rfl) ?_
  refine lv_iload_n hx hb dL_law_228 rfl (lv_at hl 0 rfl) ?_
  refine lv_iconst (v := 5) hx hb dL_law_229 (by decide) ?_
  refine lv_iadd hx hb dL_law_230 ?_
  refine va_sld hx hb hX hbl hbA hJ.vS (sl_in (J := 5) hiv (by decide) (by omega) hL) dL_law_231 ?_
  refine rs_feed (xs (Int32.toNatClampNeg (iv + 1))) (xs (Int32.toNatClampNeg (iv + 2))) (xs (Int32.toNatClampNeg (iv + 3))) (xs (Int32.toNatClampNeg (iv + 4))) (xs (Int32.toNatClampNeg (iv + 5))) C0 (by omega) hl.1 hJ (fun r H locs hJ => ?_)
  refine lv_pop hx hb dL_law_235 rfl ?_
  exact lv_goto (tgt := 1138) hx hb dL_law_236 (by decide) (kk H locs nm nq hJ)
set_option maxHeartbeats 4000000 in
set_option maxRecDepth 100000 in
theorem ca_1 {p : Program} {l : Launch} {e : Env} {s : State} {m : MethodId} {b L : Nat} {xs : Nat → Int32} {below : List Frame} {meth : Method} {cd : Code} {H : Heap} {locs : List Loc} {Q : State → Prop} {ls : Array Slot} {A : Nat → Prop} {D : va_G} {c : Nat → ClassId} {kS vS : Nat} {fS : Nat → Int32} {h0 m0 k nm nq : Nat} {iv : Int32} {T : Nat} (C : CX p s m cd b L xs A D c kS vS fS) (hk : k ≤ 199) (hL : L ≤ 384) (hiv : iv.toInt = (T : Int)) (hT : T + 6 ≤ L) (hl : lv_has ls 4 [(3, .int iv), (2, .ref m0), (1, .ref h0), (0, .ref b)]) (hJ : LQ (LR c) D A s c h0 m0 nm nq H locs) (kk : ∀ (H1 : Heap) (locs1 : List Loc) (nm' nq' : Nat), LQ (LR c) D A s c h0 m0 nm' nq' H1 locs1 → W p l e room_1 s m #[Value.ref b] below meth cd H1 locs1 (100 + 100 * (k + 1 + 1) + (nm' + nq' / 256)) (3160000 + 5000 * (k + 1 + 1) + (2 * nm' + 2 * nq')) Q (F0 m 1138 ls [])) : W p l e room_1 s m #[Value.ref b] below meth cd H locs (100 + 100 * k + (nm + nq / 256)) (3160000 + 5000 * k + (2 * nm + 2 * nq)) Q (F0 m 239 ls []) := by
  have C0 := C
  obtain ⟨hx, hb, hml, hown, hts, hN, hK, hA, hE, hX, hbl, hbA⟩ := C
  have hk : k ≤ 200 := by omega
  refine lv_aload_n hx hb dL_law_239 rfl (lv_at hl 2 rfl) ?_
  refine lv_aload_n hx hb dL_law_240 rfl (lv_at hl 3 rfl) ?_
  refine lv_iload_n hx hb dL_law_241 rfl (lv_at hl 0 rfl) ?_
  refine lv_iconst (v := 1) hx hb dL_law_242 (by decide) ?_
  refine lv_iadd hx hb dL_law_243 ?_
  refine va_sld hx hb hX hbl hbA hJ.vS (sl_in (J := 1) hiv (by decide) (by omega) hL) dL_law_244 ?_
  refine cs_end (xs (Int32.toNatClampNeg (iv + 1))) C0 hk hl.1 hJ (fun r0 H locs nm nq hJ => ?_)
  refine lv_pop hx hb dL_law_248 rfl ?_
  refine lv_aload_n hx hb dL_law_249 rfl (lv_at hl 1 rfl) ?_
  refine lv_aload_n hx hb dL_law_250 rfl (lv_at hl 3 rfl) ?_
  refine lv_iload_n hx hb dL_law_251 rfl (lv_at hl 0 rfl) ?_
  refine lv_iconst (v := 1) hx hb dL_law_252 (by decide) ?_
  refine lv_iadd hx hb dL_law_253 ?_
  refine va_sld hx hb hX hbl hbA hJ.vS (sl_in (J := 1) hiv (by decide) (by omega) hL) dL_law_254 ?_
  refine rs_end (xs (Int32.toNatClampNeg (iv + 1))) C0 (by omega) hl.1 hJ (fun r H locs hJ => ?_)
  refine lv_pop hx hb dL_law_258 rfl ?_
  exact lv_goto (tgt := 1138) hx hb dL_law_259 (by decide) (kk H locs nm nq hJ)
set_option maxHeartbeats 4000000 in
set_option maxRecDepth 100000 in
theorem ca_2 {p : Program} {l : Launch} {e : Env} {s : State} {m : MethodId} {b L : Nat} {xs : Nat → Int32} {below : List Frame} {meth : Method} {cd : Code} {H : Heap} {locs : List Loc} {Q : State → Prop} {ls : Array Slot} {A : Nat → Prop} {D : va_G} {c : Nat → ClassId} {kS vS : Nat} {fS : Nat → Int32} {h0 m0 k nm nq : Nat} {iv : Int32} {T : Nat} (C : CX p s m cd b L xs A D c kS vS fS) (hk : k ≤ 199) (hL : L ≤ 384) (hiv : iv.toInt = (T : Int)) (hT : T + 6 ≤ L) (hl : lv_has ls 4 [(3, .int iv), (2, .ref m0), (1, .ref h0), (0, .ref b)]) (hJ : LQ (LR c) D A s c h0 m0 nm nq H locs) (kk : ∀ (H1 : Heap) (locs1 : List Loc) (nm' nq' : Nat), LQ (LR c) D A s c h0 m0 nm' nq' H1 locs1 → W p l e room_1 s m #[Value.ref b] below meth cd H1 locs1 (100 + 100 * (k + 1 + 1) + (nm' + nq' / 256)) (3160000 + 5000 * (k + 1 + 1) + (2 * nm' + 2 * nq')) Q (F0 m 1138 ls [])) : W p l e room_1 s m #[Value.ref b] below meth cd H locs (100 + 100 * k + (nm + nq / 256)) (3160000 + 5000 * k + (2 * nm + 2 * nq)) Q (F0 m 262 ls []) := by
  have C0 := C
  obtain ⟨hx, hb, hml, hown, hts, hN, hK, hA, hE, hX, hbl, hbA⟩ := C
  have hk : k ≤ 200 := by omega
  refine lv_aload_n hx hb dL_law_262 rfl (lv_at hl 2 rfl) ?_
  refine cs_land C0 hk hl.1 hJ (fun r0 H locs nm nq hJ => ?_)
  refine lv_pop hx hb dL_law_266 rfl ?_
  refine lv_aload_n hx hb dL_law_267 rfl (lv_at hl 1 rfl) ?_
  refine rs_land C0 (by omega) hl.1 hJ (fun r H locs hJ => ?_)
  refine lv_pop hx hb dL_law_271 rfl ?_
  exact lv_goto (tgt := 1138) hx hb dL_law_272 (by decide) (kk H locs nm nq hJ)
set_option maxHeartbeats 4000000 in
set_option maxRecDepth 100000 in
theorem ca_3 {p : Program} {l : Launch} {e : Env} {s : State} {m : MethodId} {b L : Nat} {xs : Nat → Int32} {below : List Frame} {meth : Method} {cd : Code} {H : Heap} {locs : List Loc} {Q : State → Prop} {ls : Array Slot} {A : Nat → Prop} {D : va_G} {c : Nat → ClassId} {kS vS : Nat} {fS : Nat → Int32} {h0 m0 k nm nq : Nat} {iv : Int32} {T : Nat} (C : CX p s m cd b L xs A D c kS vS fS) (hk : k ≤ 199) (hL : L ≤ 384) (hiv : iv.toInt = (T : Int)) (hT : T + 6 ≤ L) (hl : lv_has ls 4 [(3, .int iv), (2, .ref m0), (1, .ref h0), (0, .ref b)]) (hJ : LQ (LR c) D A s c h0 m0 nm nq H locs) (kk : ∀ (H1 : Heap) (locs1 : List Loc) (nm' nq' : Nat), LQ (LR c) D A s c h0 m0 nm' nq' H1 locs1 → W p l e room_1 s m #[Value.ref b] below meth cd H1 locs1 (100 + 100 * (k + 1 + 1) + (nm' + nq' / 256)) (3160000 + 5000 * (k + 1 + 1) + (2 * nm' + 2 * nq')) Q (F0 m 1138 ls [])) : W p l e room_1 s m #[Value.ref b] below meth cd H locs (100 + 100 * k + (nm + nq / 256)) (3160000 + 5000 * k + (2 * nm + 2 * nq)) Q (F0 m 275 ls []) := by
  have C0 := C
  obtain ⟨hx, hb, hml, hown, hts, hN, hK, hA, hE, hX, hbl, hbA⟩ := C
  have hk : k ≤ 200 := by omega
  refine lv_aload_n hx hb dL_law_275 rfl (lv_at hl 2 rfl) ?_
  refine cs_rule C0 hk hl.1 hJ (fun r0 H locs nm nq hJ => ?_)
  refine lv_pop hx hb dL_law_279 rfl ?_
  refine lv_aload_n hx hb dL_law_280 rfl (lv_at hl 1 rfl) ?_
  refine rs_rule C0 (by omega) hl.1 hJ (fun r H locs hJ => ?_)
  refine lv_pop hx hb dL_law_284 rfl ?_
  exact lv_goto (tgt := 1138) hx hb dL_law_285 (by decide) (kk H locs nm nq hJ)
set_option maxHeartbeats 4000000 in
set_option maxRecDepth 100000 in
theorem ca_4 {p : Program} {l : Launch} {e : Env} {s : State} {m : MethodId} {b L : Nat} {xs : Nat → Int32} {below : List Frame} {meth : Method} {cd : Code} {H : Heap} {locs : List Loc} {Q : State → Prop} {ls : Array Slot} {A : Nat → Prop} {D : va_G} {c : Nat → ClassId} {kS vS : Nat} {fS : Nat → Int32} {h0 m0 k nm nq : Nat} {iv : Int32} {T : Nat} (C : CX p s m cd b L xs A D c kS vS fS) (hk : k ≤ 199) (hL : L ≤ 384) (hiv : iv.toInt = (T : Int)) (hT : T + 6 ≤ L) (hl : lv_has ls 4 [(3, .int iv), (2, .ref m0), (1, .ref h0), (0, .ref b)]) (hJ : LQ (LR c) D A s c h0 m0 nm nq H locs) (kk : ∀ (H1 : Heap) (locs1 : List Loc) (nm' nq' : Nat), LQ (LR c) D A s c h0 m0 nm' nq' H1 locs1 → W p l e room_1 s m #[Value.ref b] below meth cd H1 locs1 (100 + 100 * (k + 1 + 1) + (nm' + nq' / 256)) (3160000 + 5000 * (k + 1 + 1) + (2 * nm' + 2 * nq')) Q (F0 m 1138 ls [])) : W p l e room_1 s m #[Value.ref b] below meth cd H locs (100 + 100 * k + (nm + nq / 256)) (3160000 + 5000 * k + (2 * nm + 2 * nq)) Q (F0 m 288 ls []) := by
  have C0 := C
  obtain ⟨hx, hb, hml, hown, hts, hN, hK, hA, hE, hX, hbl, hbA⟩ := C
  have hk : k ≤ 200 := by omega
  refine lv_aload_n hx hb dL_law_288 rfl (lv_at hl 2 rfl) ?_
  refine lv_aload_n hx hb dL_law_289 rfl (lv_at hl 3 rfl) ?_
  refine lv_iload_n hx hb dL_law_290 rfl (lv_at hl 0 rfl) ?_
  refine lv_iconst (v := 1) hx hb dL_law_291 (by decide) ?_
  refine lv_iadd hx hb dL_law_292 ?_
  refine va_sld hx hb hX hbl hbA hJ.vS (sl_in (J := 1) hiv (by decide) (by omega) hL) dL_law_293 ?_
  refine lv_aload_n hx hb dL_law_294 rfl (lv_at hl 3 rfl) ?_
  refine lv_iload_n hx hb dL_law_295 rfl (lv_at hl 0 rfl) ?_
  refine lv_iconst (v := 2) hx hb dL_law_296 (by decide) ?_
  refine lv_iadd hx hb dL_law_297 ?_
  refine va_sld hx hb hX hbl hbA hJ.vS (sl_in (J := 2) hiv (by decide) (by omega) hL) dL_law_298 ?_
  refine cs_way (xs (Int32.toNatClampNeg (iv + 1))) (xs (Int32.toNatClampNeg (iv + 2))) C0 hk hl.1 hJ (fun r0 H locs nm nq hJ => ?_)
  refine lv_pop hx hb dL_law_302 rfl ?_
  refine lv_aload_n hx hb dL_law_303 rfl (lv_at hl 1 rfl) ?_
  refine lv_aload_n hx hb dL_law_304 rfl (lv_at hl 3 rfl) ?_
  refine lv_iload_n hx hb dL_law_305 rfl (lv_at hl 0 rfl) ?_
  refine lv_iconst (v := 1) hx hb dL_law_306 (by decide) ?_
  refine lv_iadd hx hb dL_law_307 ?_
  refine va_sld hx hb hX hbl hbA hJ.vS (sl_in (J := 1) hiv (by decide) (by omega) hL) dL_law_308 ?_
  refine lv_aload_n hx hb dL_law_309 rfl (lv_at hl 3 rfl) ?_
  refine lv_iload_n hx hb dL_law_310 rfl (lv_at hl 0 rfl) ?_
  refine lv_iconst (v := 2) hx hb dL_law_311 (by decide) ?_
  refine lv_iadd hx hb dL_law_312 ?_
  refine va_sld hx hb hX hbl hbA hJ.vS (sl_in (J := 2) hiv (by decide) (by omega) hL) dL_law_313 ?_
  refine rs_way (xs (Int32.toNatClampNeg (iv + 1))) (xs (Int32.toNatClampNeg (iv + 2))) C0 (by omega) hl.1 hJ (fun r H locs hJ => ?_)
  refine lv_pop hx hb dL_law_317 rfl ?_
  exact lv_goto (tgt := 1138) hx hb dL_law_318 (by decide) (kk H locs nm nq hJ)
set_option maxHeartbeats 4000000 in
set_option maxRecDepth 100000 in
theorem ca_5 {p : Program} {l : Launch} {e : Env} {s : State} {m : MethodId} {b L : Nat} {xs : Nat → Int32} {below : List Frame} {meth : Method} {cd : Code} {H : Heap} {locs : List Loc} {Q : State → Prop} {ls : Array Slot} {A : Nat → Prop} {D : va_G} {c : Nat → ClassId} {kS vS : Nat} {fS : Nat → Int32} {h0 m0 k nm nq : Nat} {iv : Int32} {T : Nat} (C : CX p s m cd b L xs A D c kS vS fS) (hk : k ≤ 199) (hL : L ≤ 384) (hiv : iv.toInt = (T : Int)) (hT : T + 6 ≤ L) (hl : lv_has ls 4 [(3, .int iv), (2, .ref m0), (1, .ref h0), (0, .ref b)]) (hJ : LQ (LR c) D A s c h0 m0 nm nq H locs) (kk : ∀ (H1 : Heap) (locs1 : List Loc) (nm' nq' : Nat), LQ (LR c) D A s c h0 m0 nm' nq' H1 locs1 → W p l e room_1 s m #[Value.ref b] below meth cd H1 locs1 (100 + 100 * (k + 1 + 1) + (nm' + nq' / 256)) (3160000 + 5000 * (k + 1 + 1) + (2 * nm' + 2 * nq')) Q (F0 m 1138 ls [])) : W p l e room_1 s m #[Value.ref b] below meth cd H locs (100 + 100 * k + (nm + nq / 256)) (3160000 + 5000 * k + (2 * nm + 2 * nq)) Q (F0 m 321 ls []) := by
  have C0 := C
  obtain ⟨hx, hb, hml, hown, hts, hN, hK, hA, hE, hX, hbl, hbA⟩ := C
  have hk : k ≤ 200 := by omega
  refine lv_aload_n hx hb dL_law_321 rfl (lv_at hl 2 rfl) ?_
  refine lv_aload_n hx hb dL_law_322 rfl (lv_at hl 3 rfl) ?_
  refine lv_iload_n hx hb dL_law_323 rfl (lv_at hl 0 rfl) ?_
  refine lv_iconst (v := 1) hx hb dL_law_324 (by decide) ?_
  refine lv_iadd hx hb dL_law_325 ?_
  refine va_sld hx hb hX hbl hbA hJ.vS (sl_in (J := 1) hiv (by decide) (by omega) hL) dL_law_326 ?_
  refine lv_aload_n hx hb dL_law_327 rfl (lv_at hl 3 rfl) ?_
  refine lv_iload_n hx hb dL_law_328 rfl (lv_at hl 0 rfl) ?_
  refine lv_iconst (v := 2) hx hb dL_law_329 (by decide) ?_
  refine lv_iadd hx hb dL_law_330 ?_
  refine va_sld hx hb hX hbl hbA hJ.vS (sl_in (J := 2) hiv (by decide) (by omega) hL) dL_law_331 ?_
  refine cs_goer (xs (Int32.toNatClampNeg (iv + 1))) (xs (Int32.toNatClampNeg (iv + 2))) C0 hk hl.1 hJ (fun r0 H locs nm nq hJ => ?_)
  refine lv_pop hx hb dL_law_335 rfl ?_
  refine lv_aload_n hx hb dL_law_336 rfl (lv_at hl 1 rfl) ?_
  refine lv_aload_n hx hb dL_law_337 rfl (lv_at hl 3 rfl) ?_
  refine lv_iload_n hx hb dL_law_338 rfl (lv_at hl 0 rfl) ?_
  refine lv_iconst (v := 1) hx hb dL_law_339 (by decide) ?_
  refine lv_iadd hx hb dL_law_340 ?_
  refine va_sld hx hb hX hbl hbA hJ.vS (sl_in (J := 1) hiv (by decide) (by omega) hL) dL_law_341 ?_
  refine lv_aload_n hx hb dL_law_342 rfl (lv_at hl 3 rfl) ?_
  refine lv_iload_n hx hb dL_law_343 rfl (lv_at hl 0 rfl) ?_
  refine lv_iconst (v := 2) hx hb dL_law_344 (by decide) ?_
  refine lv_iadd hx hb dL_law_345 ?_
  refine va_sld hx hb hX hbl hbA hJ.vS (sl_in (J := 2) hiv (by decide) (by omega) hL) dL_law_346 ?_
  refine rs_goer (xs (Int32.toNatClampNeg (iv + 1))) (xs (Int32.toNatClampNeg (iv + 2))) C0 (by omega) hl.1 hJ (fun r H locs hJ => ?_)
  refine lv_pop hx hb dL_law_350 rfl ?_
  exact lv_goto (tgt := 1138) hx hb dL_law_351 (by decide) (kk H locs nm nq hJ)
set_option maxHeartbeats 4000000 in
set_option maxRecDepth 100000 in
theorem ca_6 {p : Program} {l : Launch} {e : Env} {s : State} {m : MethodId} {b L : Nat} {xs : Nat → Int32} {below : List Frame} {meth : Method} {cd : Code} {H : Heap} {locs : List Loc} {Q : State → Prop} {ls : Array Slot} {A : Nat → Prop} {D : va_G} {c : Nat → ClassId} {kS vS : Nat} {fS : Nat → Int32} {h0 m0 k nm nq : Nat} {iv : Int32} {T : Nat} (C : CX p s m cd b L xs A D c kS vS fS) (hk : k ≤ 199) (hL : L ≤ 384) (hiv : iv.toInt = (T : Int)) (hT : T + 6 ≤ L) (hl : lv_has ls 4 [(3, .int iv), (2, .ref m0), (1, .ref h0), (0, .ref b)]) (hJ : LQ (LR c) D A s c h0 m0 nm nq H locs) (kk : ∀ (H1 : Heap) (locs1 : List Loc) (nm' nq' : Nat), LQ (LR c) D A s c h0 m0 nm' nq' H1 locs1 → W p l e room_1 s m #[Value.ref b] below meth cd H1 locs1 (100 + 100 * (k + 1 + 1) + (nm' + nq' / 256)) (3160000 + 5000 * (k + 1 + 1) + (2 * nm' + 2 * nq')) Q (F0 m 1138 ls [])) : W p l e room_1 s m #[Value.ref b] below meth cd H locs (100 + 100 * k + (nm + nq / 256)) (3160000 + 5000 * k + (2 * nm + 2 * nq)) Q (F0 m 354 ls []) := by
  have C0 := C
  obtain ⟨hx, hb, hml, hown, hts, hN, hK, hA, hE, hX, hbl, hbA⟩ := C
  have hk : k ≤ 200 := by omega
  refine lv_aload_n hx hb dL_law_354 rfl (lv_at hl 2 rfl) ?_
  refine lv_aload_n hx hb dL_law_355 rfl (lv_at hl 3 rfl) ?_
  refine lv_iload_n hx hb dL_law_356 rfl (lv_at hl 0 rfl) ?_
  refine lv_iconst (v := 1) hx hb dL_law_357 (by decide) ?_
  refine lv_iadd hx hb dL_law_358 ?_
  refine va_sld hx hb hX hbl hbA hJ.vS (sl_in (J := 1) hiv (by decide) (by omega) hL) dL_law_359 ?_
  refine lv_aload_n hx hb dL_law_360 rfl (lv_at hl 3 rfl) ?_
  refine lv_iload_n hx hb dL_law_361 rfl (lv_at hl 0 rfl) ?_
  refine lv_iconst (v := 2) hx hb dL_law_362 (by decide) ?_
  refine lv_iadd hx hb dL_law_363 ?_
  refine va_sld hx hb hX hbl hbA hJ.vS (sl_in (J := 2) hiv (by decide) (by omega) hL) dL_law_364 ?_
  refine cs_place (xs (Int32.toNatClampNeg (iv + 1))) (xs (Int32.toNatClampNeg (iv + 2))) C0 hk hl.1 hJ (fun r0 H locs nm nq hJ => ?_)
  refine lv_pop hx hb dL_law_368 rfl ?_
  refine lv_aload_n hx hb dL_law_369 rfl (lv_at hl 1 rfl) ?_
  refine lv_aload_n hx hb dL_law_370 rfl (lv_at hl 3 rfl) ?_
  refine lv_iload_n hx hb dL_law_371 rfl (lv_at hl 0 rfl) ?_
  refine lv_iconst (v := 1) hx hb dL_law_372 (by decide) ?_
  refine lv_iadd hx hb dL_law_373 ?_
  refine va_sld hx hb hX hbl hbA hJ.vS (sl_in (J := 1) hiv (by decide) (by omega) hL) dL_law_374 ?_
  refine lv_aload_n hx hb dL_law_375 rfl (lv_at hl 3 rfl) ?_
  refine lv_iload_n hx hb dL_law_376 rfl (lv_at hl 0 rfl) ?_
  refine lv_iconst (v := 2) hx hb dL_law_377 (by decide) ?_
  refine lv_iadd hx hb dL_law_378 ?_
  refine va_sld hx hb hX hbl hbA hJ.vS (sl_in (J := 2) hiv (by decide) (by omega) hL) dL_law_379 ?_
  refine rs_place (xs (Int32.toNatClampNeg (iv + 1))) (xs (Int32.toNatClampNeg (iv + 2))) C0 (by omega) hl.1 hJ (fun r H locs hJ => ?_)
  refine lv_pop hx hb dL_law_383 rfl ?_
  exact lv_goto (tgt := 1138) hx hb dL_law_384 (by decide) (kk H locs nm nq hJ)
set_option maxHeartbeats 4000000 in
set_option maxRecDepth 100000 in
theorem ca_7 {p : Program} {l : Launch} {e : Env} {s : State} {m : MethodId} {b L : Nat} {xs : Nat → Int32} {below : List Frame} {meth : Method} {cd : Code} {H : Heap} {locs : List Loc} {Q : State → Prop} {ls : Array Slot} {A : Nat → Prop} {D : va_G} {c : Nat → ClassId} {kS vS : Nat} {fS : Nat → Int32} {h0 m0 k nm nq : Nat} {iv : Int32} {T : Nat} (C : CX p s m cd b L xs A D c kS vS fS) (hk : k ≤ 199) (hL : L ≤ 384) (hiv : iv.toInt = (T : Int)) (hT : T + 6 ≤ L) (hl : lv_has ls 4 [(3, .int iv), (2, .ref m0), (1, .ref h0), (0, .ref b)]) (hJ : LQ (LR c) D A s c h0 m0 nm nq H locs) (kk : ∀ (H1 : Heap) (locs1 : List Loc) (nm' nq' : Nat), LQ (LR c) D A s c h0 m0 nm' nq' H1 locs1 → W p l e room_1 s m #[Value.ref b] below meth cd H1 locs1 (100 + 100 * (k + 1 + 1) + (nm' + nq' / 256)) (3160000 + 5000 * (k + 1 + 1) + (2 * nm' + 2 * nq')) Q (F0 m 1138 ls [])) : W p l e room_1 s m #[Value.ref b] below meth cd H locs (100 + 100 * k + (nm + nq / 256)) (3160000 + 5000 * k + (2 * nm + 2 * nq)) Q (F0 m 387 ls []) := by
  have C0 := C
  obtain ⟨hx, hb, hml, hown, hts, hN, hK, hA, hE, hX, hbl, hbA⟩ := C
  have hk : k ≤ 200 := by omega
  refine lv_aload_n hx hb dL_law_387 rfl (lv_at hl 2 rfl) ?_
  refine lv_aload_n hx hb dL_law_388 rfl (lv_at hl 3 rfl) ?_
  refine lv_iload_n hx hb dL_law_389 rfl (lv_at hl 0 rfl) ?_
  refine lv_iconst (v := 1) hx hb dL_law_390 (by decide) ?_
  refine lv_iadd hx hb dL_law_391 ?_
  refine va_sld hx hb hX hbl hbA hJ.vS (sl_in (J := 1) hiv (by decide) (by omega) hL) dL_law_392 ?_
  refine lv_aload_n hx hb dL_law_393 rfl (lv_at hl 3 rfl) ?_
  refine lv_iload_n hx hb dL_law_394 rfl (lv_at hl 0 rfl) ?_
  refine lv_iconst (v := 2) hx hb dL_law_395 (by decide) ?_
  refine lv_iadd hx hb dL_law_396 ?_
  refine va_sld hx hb hX hbl hbA hJ.vS (sl_in (J := 2) hiv (by decide) (by omega) hL) dL_law_397 ?_
  refine cs_far (xs (Int32.toNatClampNeg (iv + 1))) (xs (Int32.toNatClampNeg (iv + 2))) C0 hk hl.1 hJ (fun r0 H locs nm nq hJ => ?_)
  refine lv_pop hx hb dL_law_401 rfl ?_
  refine lv_aload_n hx hb dL_law_402 rfl (lv_at hl 1 rfl) ?_
  refine lv_aload_n hx hb dL_law_403 rfl (lv_at hl 3 rfl) ?_
  refine lv_iload_n hx hb dL_law_404 rfl (lv_at hl 0 rfl) ?_
  refine lv_iconst (v := 1) hx hb dL_law_405 (by decide) ?_
  refine lv_iadd hx hb dL_law_406 ?_
  refine va_sld hx hb hX hbl hbA hJ.vS (sl_in (J := 1) hiv (by decide) (by omega) hL) dL_law_407 ?_
  refine lv_aload_n hx hb dL_law_408 rfl (lv_at hl 3 rfl) ?_
  refine lv_iload_n hx hb dL_law_409 rfl (lv_at hl 0 rfl) ?_
  refine lv_iconst (v := 2) hx hb dL_law_410 (by decide) ?_
  refine lv_iadd hx hb dL_law_411 ?_
  refine va_sld hx hb hX hbl hbA hJ.vS (sl_in (J := 2) hiv (by decide) (by omega) hL) dL_law_412 ?_
  refine rs_far (xs (Int32.toNatClampNeg (iv + 1))) (xs (Int32.toNatClampNeg (iv + 2))) C0 (by omega) hl.1 hJ (fun r H locs hJ => ?_)
  refine lv_pop hx hb dL_law_416 rfl ?_
  exact lv_goto (tgt := 1138) hx hb dL_law_417 (by decide) (kk H locs nm nq hJ)
set_option maxHeartbeats 4000000 in
set_option maxRecDepth 100000 in
theorem ca_8 {p : Program} {l : Launch} {e : Env} {s : State} {m : MethodId} {b L : Nat} {xs : Nat → Int32} {below : List Frame} {meth : Method} {cd : Code} {H : Heap} {locs : List Loc} {Q : State → Prop} {ls : Array Slot} {A : Nat → Prop} {D : va_G} {c : Nat → ClassId} {kS vS : Nat} {fS : Nat → Int32} {h0 m0 k nm nq : Nat} {iv : Int32} {T : Nat} (C : CX p s m cd b L xs A D c kS vS fS) (hk : k ≤ 199) (hL : L ≤ 384) (hiv : iv.toInt = (T : Int)) (hT : T + 6 ≤ L) (hl : lv_has ls 4 [(3, .int iv), (2, .ref m0), (1, .ref h0), (0, .ref b)]) (hJ : LQ (LR c) D A s c h0 m0 nm nq H locs) (kk : ∀ (H1 : Heap) (locs1 : List Loc) (nm' nq' : Nat), LQ (LR c) D A s c h0 m0 nm' nq' H1 locs1 → W p l e room_1 s m #[Value.ref b] below meth cd H1 locs1 (100 + 100 * (k + 1 + 1) + (nm' + nq' / 256)) (3160000 + 5000 * (k + 1 + 1) + (2 * nm' + 2 * nq')) Q (F0 m 1138 ls [])) : W p l e room_1 s m #[Value.ref b] below meth cd H locs (100 + 100 * k + (nm + nq / 256)) (3160000 + 5000 * k + (2 * nm + 2 * nq)) Q (F0 m 420 ls []) := by
  have C0 := C
  obtain ⟨hx, hb, hml, hown, hts, hN, hK, hA, hE, hX, hbl, hbA⟩ := C
  have hk : k ≤ 200 := by omega
  refine lv_aload_n hx hb dL_law_420 rfl (lv_at hl 2 rfl) ?_
  refine lv_aload_n hx hb dL_law_421 rfl (lv_at hl 3 rfl) ?_
  refine lv_iload_n hx hb dL_law_422 rfl (lv_at hl 0 rfl) ?_
  refine lv_iconst (v := 1) hx hb dL_law_423 (by decide) ?_
  refine lv_iadd hx hb dL_law_424 ?_
  refine va_sld hx hb hX hbl hbA hJ.vS (sl_in (J := 1) hiv (by decide) (by omega) hL) dL_law_425 ?_
  refine lv_aload_n hx hb dL_law_426 rfl (lv_at hl 3 rfl) ?_
  refine lv_iload_n hx hb dL_law_427 rfl (lv_at hl 0 rfl) ?_
  refine lv_iconst (v := 2) hx hb dL_law_428 (by decide) ?_
  refine lv_iadd hx hb dL_law_429 ?_
  refine va_sld hx hb hX hbl hbA hJ.vS (sl_in (J := 2) hiv (by decide) (by omega) hL) dL_law_430 ?_
  refine cs_go (xs (Int32.toNatClampNeg (iv + 1))) (xs (Int32.toNatClampNeg (iv + 2))) C0 hk hl.1 hJ (fun r0 H locs nm nq hJ => ?_)
  refine lv_pop hx hb dL_law_434 rfl ?_
  refine lv_aload_n hx hb dL_law_435 rfl (lv_at hl 1 rfl) ?_
  refine lv_aload_n hx hb dL_law_436 rfl (lv_at hl 3 rfl) ?_
  refine lv_iload_n hx hb dL_law_437 rfl (lv_at hl 0 rfl) ?_
  refine lv_iconst (v := 1) hx hb dL_law_438 (by decide) ?_
  refine lv_iadd hx hb dL_law_439 ?_
  refine va_sld hx hb hX hbl hbA hJ.vS (sl_in (J := 1) hiv (by decide) (by omega) hL) dL_law_440 ?_
  refine lv_aload_n hx hb dL_law_441 rfl (lv_at hl 3 rfl) ?_
  refine lv_iload_n hx hb dL_law_442 rfl (lv_at hl 0 rfl) ?_
  refine lv_iconst (v := 2) hx hb dL_law_443 (by decide) ?_
  refine lv_iadd hx hb dL_law_444 ?_
  refine va_sld hx hb hX hbl hbA hJ.vS (sl_in (J := 2) hiv (by decide) (by omega) hL) dL_law_445 ?_
  refine rs_go (xs (Int32.toNatClampNeg (iv + 1))) (xs (Int32.toNatClampNeg (iv + 2))) C0 (by omega) hl.1 hJ (fun r H locs hJ => ?_)
  refine lv_pop hx hb dL_law_449 rfl ?_
  exact lv_goto (tgt := 1138) hx hb dL_law_450 (by decide) (kk H locs nm nq hJ)
set_option maxHeartbeats 4000000 in
set_option maxRecDepth 100000 in
theorem ca_9 {p : Program} {l : Launch} {e : Env} {s : State} {m : MethodId} {b L : Nat} {xs : Nat → Int32} {below : List Frame} {meth : Method} {cd : Code} {H : Heap} {locs : List Loc} {Q : State → Prop} {ls : Array Slot} {A : Nat → Prop} {D : va_G} {c : Nat → ClassId} {kS vS : Nat} {fS : Nat → Int32} {h0 m0 k nm nq : Nat} {iv : Int32} {T : Nat} (C : CX p s m cd b L xs A D c kS vS fS) (hk : k ≤ 199) (hL : L ≤ 384) (hiv : iv.toInt = (T : Int)) (hT : T + 6 ≤ L) (hl : lv_has ls 4 [(3, .int iv), (2, .ref m0), (1, .ref h0), (0, .ref b)]) (hJ : LQ (LR c) D A s c h0 m0 nm nq H locs) (kk : ∀ (H1 : Heap) (locs1 : List Loc) (nm' nq' : Nat), LQ (LR c) D A s c h0 m0 nm' nq' H1 locs1 → W p l e room_1 s m #[Value.ref b] below meth cd H1 locs1 (100 + 100 * (k + 1 + 1) + (nm' + nq' / 256)) (3160000 + 5000 * (k + 1 + 1) + (2 * nm' + 2 * nq')) Q (F0 m 1138 ls [])) : W p l e room_1 s m #[Value.ref b] below meth cd H locs (100 + 100 * k + (nm + nq / 256)) (3160000 + 5000 * k + (2 * nm + 2 * nq)) Q (F0 m 453 ls []) := by
  have C0 := C
  obtain ⟨hx, hb, hml, hown, hts, hN, hK, hA, hE, hX, hbl, hbA⟩ := C
  have hk : k ≤ 200 := by omega
  refine lv_aload_n hx hb dL_law_453 rfl (lv_at hl 2 rfl) ?_
  refine lv_aload_n hx hb dL_law_454 rfl (lv_at hl 3 rfl) ?_
  refine lv_iload_n hx hb dL_law_455 rfl (lv_at hl 0 rfl) ?_
  refine lv_iconst (v := 1) hx hb dL_law_456 (by decide) ?_
  refine lv_iadd hx hb dL_law_457 ?_
  refine va_sld hx hb hX hbl hbA hJ.vS (sl_in (J := 1) hiv (by decide) (by omega) hL) dL_law_458 ?_
  refine cs_turn (xs (Int32.toNatClampNeg (iv + 1))) C0 hk hl.1 hJ (fun r0 H locs nm nq hJ => ?_)
  refine lv_pop hx hb dL_law_462 rfl ?_
  refine lv_aload_n hx hb dL_law_463 rfl (lv_at hl 1 rfl) ?_
  refine lv_aload_n hx hb dL_law_464 rfl (lv_at hl 3 rfl) ?_
  refine lv_iload_n hx hb dL_law_465 rfl (lv_at hl 0 rfl) ?_
  refine lv_iconst (v := 1) hx hb dL_law_466 (by decide) ?_
  refine lv_iadd hx hb dL_law_467 ?_
  refine va_sld hx hb hX hbl hbA hJ.vS (sl_in (J := 1) hiv (by decide) (by omega) hL) dL_law_468 ?_
  refine rs_turn (xs (Int32.toNatClampNeg (iv + 1))) C0 (by omega) hl.1 hJ (fun r H locs hJ => ?_)
  refine lv_pop hx hb dL_law_472 rfl ?_
  exact lv_goto (tgt := 1138) hx hb dL_law_473 (by decide) (kk H locs nm nq hJ)
set_option maxHeartbeats 4000000 in
set_option maxRecDepth 100000 in
theorem ca_10 {p : Program} {l : Launch} {e : Env} {s : State} {m : MethodId} {b L : Nat} {xs : Nat → Int32} {below : List Frame} {meth : Method} {cd : Code} {H : Heap} {locs : List Loc} {Q : State → Prop} {ls : Array Slot} {A : Nat → Prop} {D : va_G} {c : Nat → ClassId} {kS vS : Nat} {fS : Nat → Int32} {h0 m0 k nm nq : Nat} {iv : Int32} {T : Nat} (C : CX p s m cd b L xs A D c kS vS fS) (hk : k ≤ 199) (hL : L ≤ 384) (hiv : iv.toInt = (T : Int)) (hT : T + 6 ≤ L) (hl : lv_has ls 4 [(3, .int iv), (2, .ref m0), (1, .ref h0), (0, .ref b)]) (hJ : LQ (LR c) D A s c h0 m0 nm nq H locs) (kk : ∀ (H1 : Heap) (locs1 : List Loc) (nm' nq' : Nat), LQ (LR c) D A s c h0 m0 nm' nq' H1 locs1 → W p l e room_1 s m #[Value.ref b] below meth cd H1 locs1 (100 + 100 * (k + 1 + 1) + (nm' + nq' / 256)) (3160000 + 5000 * (k + 1 + 1) + (2 * nm' + 2 * nq')) Q (F0 m 1138 ls [])) : W p l e room_1 s m #[Value.ref b] below meth cd H locs (100 + 100 * k + (nm + nq / 256)) (3160000 + 5000 * k + (2 * nm + 2 * nq)) Q (F0 m 476 ls []) := by
  have C0 := C
  obtain ⟨hx, hb, hml, hown, hts, hN, hK, hA, hE, hX, hbl, hbA⟩ := C
  have hk : k ≤ 200 := by omega
  refine lv_aload_n hx hb dL_law_476 rfl (lv_at hl 2 rfl) ?_
  refine lv_aload_n hx hb dL_law_477 rfl (lv_at hl 3 rfl) ?_
  refine lv_iload_n hx hb dL_law_478 rfl (lv_at hl 0 rfl) ?_
  refine lv_iconst (v := 1) hx hb dL_law_479 (by decide) ?_
  refine lv_iadd hx hb dL_law_480 ?_
  refine va_sld hx hb hX hbl hbA hJ.vS (sl_in (J := 1) hiv (by decide) (by omega) hL) dL_law_481 ?_
  refine cs_fewest (xs (Int32.toNatClampNeg (iv + 1))) C0 hk hl.1 hJ (fun r0 H locs nm nq hJ => ?_)
  refine lv_pop hx hb dL_law_485 rfl ?_
  refine lv_aload_n hx hb dL_law_486 rfl (lv_at hl 1 rfl) ?_
  refine lv_aload_n hx hb dL_law_487 rfl (lv_at hl 3 rfl) ?_
  refine lv_iload_n hx hb dL_law_488 rfl (lv_at hl 0 rfl) ?_
  refine lv_iconst (v := 1) hx hb dL_law_489 (by decide) ?_
  refine lv_iadd hx hb dL_law_490 ?_
  refine va_sld hx hb hX hbl hbA hJ.vS (sl_in (J := 1) hiv (by decide) (by omega) hL) dL_law_491 ?_
  refine rs_fewest (xs (Int32.toNatClampNeg (iv + 1))) C0 (by omega) hl.1 hJ (fun r H locs hJ => ?_)
  refine lv_pop hx hb dL_law_495 rfl ?_
  exact lv_goto (tgt := 1138) hx hb dL_law_496 (by decide) (kk H locs nm nq hJ)
set_option maxHeartbeats 4000000 in
set_option maxRecDepth 100000 in
theorem ca_11 {p : Program} {l : Launch} {e : Env} {s : State} {m : MethodId} {b L : Nat} {xs : Nat → Int32} {below : List Frame} {meth : Method} {cd : Code} {H : Heap} {locs : List Loc} {Q : State → Prop} {ls : Array Slot} {A : Nat → Prop} {D : va_G} {c : Nat → ClassId} {kS vS : Nat} {fS : Nat → Int32} {h0 m0 k nm nq : Nat} {iv : Int32} {T : Nat} (C : CX p s m cd b L xs A D c kS vS fS) (hk : k ≤ 199) (hL : L ≤ 384) (hiv : iv.toInt = (T : Int)) (hT : T + 6 ≤ L) (hl : lv_has ls 4 [(3, .int iv), (2, .ref m0), (1, .ref h0), (0, .ref b)]) (hJ : LQ (LR c) D A s c h0 m0 nm nq H locs) (kk : ∀ (H1 : Heap) (locs1 : List Loc) (nm' nq' : Nat), LQ (LR c) D A s c h0 m0 nm' nq' H1 locs1 → W p l e room_1 s m #[Value.ref b] below meth cd H1 locs1 (100 + 100 * (k + 1 + 1) + (nm' + nq' / 256)) (3160000 + 5000 * (k + 1 + 1) + (2 * nm' + 2 * nq')) Q (F0 m 1138 ls [])) : W p l e room_1 s m #[Value.ref b] below meth cd H locs (100 + 100 * k + (nm + nq / 256)) (3160000 + 5000 * k + (2 * nm + 2 * nq)) Q (F0 m 499 ls []) := by
  have C0 := C
  obtain ⟨hx, hb, hml, hown, hts, hN, hK, hA, hE, hX, hbl, hbA⟩ := C
  have hk : k ≤ 200 := by omega
  refine lv_aload_n hx hb dL_law_499 rfl (lv_at hl 2 rfl) ?_
  refine lv_aload_n hx hb dL_law_500 rfl (lv_at hl 3 rfl) ?_
  refine lv_iload_n hx hb dL_law_501 rfl (lv_at hl 0 rfl) ?_
  refine lv_iconst (v := 1) hx hb dL_law_502 (by decide) ?_
  refine lv_iadd hx hb dL_law_503 ?_
  refine va_sld hx hb hX hbl hbA hJ.vS (sl_in (J := 1) hiv (by decide) (by omega) hL) dL_law_504 ?_
  refine lv_aload_n hx hb dL_law_505 rfl (lv_at hl 3 rfl) ?_
  refine lv_iload_n hx hb dL_law_506 rfl (lv_at hl 0 rfl) ?_
  refine lv_iconst (v := 2) hx hb dL_law_507 (by decide) ?_
  refine lv_iadd hx hb dL_law_508 ?_
  refine va_sld hx hb hX hbl hbA hJ.vS (sl_in (J := 2) hiv (by decide) (by omega) hL) dL_law_509 ?_
  refine cs_step (xs (Int32.toNatClampNeg (iv + 1))) (xs (Int32.toNatClampNeg (iv + 2))) C0 hk hl.1 hJ (fun r0 H locs nm nq hJ => ?_)
  refine lv_pop hx hb dL_law_513 rfl ?_
  refine lv_aload_n hx hb dL_law_514 rfl (lv_at hl 1 rfl) ?_
  refine lv_aload_n hx hb dL_law_515 rfl (lv_at hl 3 rfl) ?_
  refine lv_iload_n hx hb dL_law_516 rfl (lv_at hl 0 rfl) ?_
  refine lv_iconst (v := 1) hx hb dL_law_517 (by decide) ?_
  refine lv_iadd hx hb dL_law_518 ?_
  refine va_sld hx hb hX hbl hbA hJ.vS (sl_in (J := 1) hiv (by decide) (by omega) hL) dL_law_519 ?_
  refine lv_aload_n hx hb dL_law_520 rfl (lv_at hl 3 rfl) ?_
  refine lv_iload_n hx hb dL_law_521 rfl (lv_at hl 0 rfl) ?_
  refine lv_iconst (v := 2) hx hb dL_law_522 (by decide) ?_
  refine lv_iadd hx hb dL_law_523 ?_
  refine va_sld hx hb hX hbl hbA hJ.vS (sl_in (J := 2) hiv (by decide) (by omega) hL) dL_law_524 ?_
  refine rs_step (xs (Int32.toNatClampNeg (iv + 1))) (xs (Int32.toNatClampNeg (iv + 2))) C0 (by omega) hl.1 hJ (fun r H locs hJ => ?_)
  refine lv_pop hx hb dL_law_528 rfl ?_
  exact lv_goto (tgt := 1138) hx hb dL_law_529 (by decide) (kk H locs nm nq hJ)
set_option maxHeartbeats 4000000 in
set_option maxRecDepth 100000 in
theorem ca_12 {p : Program} {l : Launch} {e : Env} {s : State} {m : MethodId} {b L : Nat} {xs : Nat → Int32} {below : List Frame} {meth : Method} {cd : Code} {H : Heap} {locs : List Loc} {Q : State → Prop} {ls : Array Slot} {A : Nat → Prop} {D : va_G} {c : Nat → ClassId} {kS vS : Nat} {fS : Nat → Int32} {h0 m0 k nm nq : Nat} {iv : Int32} {T : Nat} (C : CX p s m cd b L xs A D c kS vS fS) (hk : k ≤ 199) (hL : L ≤ 384) (hiv : iv.toInt = (T : Int)) (hT : T + 6 ≤ L) (hl : lv_has ls 4 [(3, .int iv), (2, .ref m0), (1, .ref h0), (0, .ref b)]) (hJ : LQ (LR c) D A s c h0 m0 nm nq H locs) (kk : ∀ (H1 : Heap) (locs1 : List Loc) (nm' nq' : Nat), LQ (LR c) D A s c h0 m0 nm' nq' H1 locs1 → W p l e room_1 s m #[Value.ref b] below meth cd H1 locs1 (100 + 100 * (k + 1 + 1) + (nm' + nq' / 256)) (3160000 + 5000 * (k + 1 + 1) + (2 * nm' + 2 * nq')) Q (F0 m 1138 ls [])) : W p l e room_1 s m #[Value.ref b] below meth cd H locs (100 + 100 * k + (nm + nq / 256)) (3160000 + 5000 * k + (2 * nm + 2 * nq)) Q (F0 m 532 ls []) := by
  have C0 := C
  obtain ⟨hx, hb, hml, hown, hts, hN, hK, hA, hE, hX, hbl, hbA⟩ := C
  have hk : k ≤ 200 := by omega
  refine lv_aload_n hx hb dL_law_532 rfl (lv_at hl 2 rfl) ?_
  refine lv_aload_n hx hb dL_law_533 rfl (lv_at hl 3 rfl) ?_
  refine lv_iload_n hx hb dL_law_534 rfl (lv_at hl 0 rfl) ?_
  refine lv_iconst (v := 1) hx hb dL_law_535 (by decide) ?_
  refine lv_iadd hx hb dL_law_536 ?_
  refine va_sld hx hb hX hbl hbA hJ.vS (sl_in (J := 1) hiv (by decide) (by omega) hL) dL_law_537 ?_
  refine lv_aload_n hx hb dL_law_538 rfl (lv_at hl 3 rfl) ?_
  refine lv_iload_n hx hb dL_law_539 rfl (lv_at hl 0 rfl) ?_
  refine lv_iconst (v := 2) hx hb dL_law_540 (by decide) ?_
  refine lv_iadd hx hb dL_law_541 ?_
  refine va_sld hx hb hX hbl hbA hJ.vS (sl_in (J := 2) hiv (by decide) (by omega) hL) dL_law_542 ?_
  refine cs_comes (xs (Int32.toNatClampNeg (iv + 1))) (xs (Int32.toNatClampNeg (iv + 2))) C0 hk hl.1 hJ (fun r0 H locs nm nq hJ => ?_)
  refine lv_pop hx hb dL_law_546 rfl ?_
  refine lv_aload_n hx hb dL_law_547 rfl (lv_at hl 1 rfl) ?_
  refine lv_aload_n hx hb dL_law_548 rfl (lv_at hl 3 rfl) ?_
  refine lv_iload_n hx hb dL_law_549 rfl (lv_at hl 0 rfl) ?_
  refine lv_iconst (v := 1) hx hb dL_law_550 (by decide) ?_
  refine lv_iadd hx hb dL_law_551 ?_
  refine va_sld hx hb hX hbl hbA hJ.vS (sl_in (J := 1) hiv (by decide) (by omega) hL) dL_law_552 ?_
  refine lv_aload_n hx hb dL_law_553 rfl (lv_at hl 3 rfl) ?_
  refine lv_iload_n hx hb dL_law_554 rfl (lv_at hl 0 rfl) ?_
  refine lv_iconst (v := 2) hx hb dL_law_555 (by decide) ?_
  refine lv_iadd hx hb dL_law_556 ?_
  refine va_sld hx hb hX hbl hbA hJ.vS (sl_in (J := 2) hiv (by decide) (by omega) hL) dL_law_557 ?_
  refine rs_comes (xs (Int32.toNatClampNeg (iv + 1))) (xs (Int32.toNatClampNeg (iv + 2))) C0 (by omega) hl.1 hJ (fun r H locs hJ => ?_)
  refine lv_pop hx hb dL_law_561 rfl ?_
  exact lv_goto (tgt := 1138) hx hb dL_law_562 (by decide) (kk H locs nm nq hJ)
set_option maxHeartbeats 4000000 in
set_option maxRecDepth 100000 in
theorem ca_13 {p : Program} {l : Launch} {e : Env} {s : State} {m : MethodId} {b L : Nat} {xs : Nat → Int32} {below : List Frame} {meth : Method} {cd : Code} {H : Heap} {locs : List Loc} {Q : State → Prop} {ls : Array Slot} {A : Nat → Prop} {D : va_G} {c : Nat → ClassId} {kS vS : Nat} {fS : Nat → Int32} {h0 m0 k nm nq : Nat} {iv : Int32} {T : Nat} (C : CX p s m cd b L xs A D c kS vS fS) (hk : k ≤ 199) (hL : L ≤ 384) (hiv : iv.toInt = (T : Int)) (hT : T + 6 ≤ L) (hl : lv_has ls 4 [(3, .int iv), (2, .ref m0), (1, .ref h0), (0, .ref b)]) (hJ : LQ (LR c) D A s c h0 m0 nm nq H locs) (kk : ∀ (H1 : Heap) (locs1 : List Loc) (nm' nq' : Nat), LQ (LR c) D A s c h0 m0 nm' nq' H1 locs1 → W p l e room_1 s m #[Value.ref b] below meth cd H1 locs1 (100 + 100 * (k + 1 + 1) + (nm' + nq' / 256)) (3160000 + 5000 * (k + 1 + 1) + (2 * nm' + 2 * nq')) Q (F0 m 1138 ls [])) : W p l e room_1 s m #[Value.ref b] below meth cd H locs (100 + 100 * k + (nm + nq / 256)) (3160000 + 5000 * k + (2 * nm + 2 * nq)) Q (F0 m 565 ls []) := by
  have C0 := C
  obtain ⟨hx, hb, hml, hown, hts, hN, hK, hA, hE, hX, hbl, hbA⟩ := C
  have hk : k ≤ 200 := by omega
  refine lv_aload_n hx hb dL_law_565 rfl (lv_at hl 2 rfl) ?_
  refine lv_aload_n hx hb dL_law_566 rfl (lv_at hl 3 rfl) ?_
  refine lv_iload_n hx hb dL_law_567 rfl (lv_at hl 0 rfl) ?_
  refine lv_iconst (v := 1) hx hb dL_law_568 (by decide) ?_
  refine lv_iadd hx hb dL_law_569 ?_
  refine va_sld hx hb hX hbl hbA hJ.vS (sl_in (J := 1) hiv (by decide) (by omega) hL) dL_law_570 ?_
  refine lv_aload_n hx hb dL_law_571 rfl (lv_at hl 3 rfl) ?_
  refine lv_iload_n hx hb dL_law_572 rfl (lv_at hl 0 rfl) ?_
  refine lv_iconst (v := 2) hx hb dL_law_573 (by decide) ?_
  refine lv_iadd hx hb dL_law_574 ?_
  refine va_sld hx hb hX hbl hbA hJ.vS (sl_in (J := 2) hiv (by decide) (by omega) hL) dL_law_575 ?_
  refine cs_closed (xs (Int32.toNatClampNeg (iv + 1))) (xs (Int32.toNatClampNeg (iv + 2))) C0 hk hl.1 hJ (fun r0 H locs nm nq hJ => ?_)
  refine lv_pop hx hb dL_law_579 rfl ?_
  refine lv_aload_n hx hb dL_law_580 rfl (lv_at hl 1 rfl) ?_
  refine lv_aload_n hx hb dL_law_581 rfl (lv_at hl 3 rfl) ?_
  refine lv_iload_n hx hb dL_law_582 rfl (lv_at hl 0 rfl) ?_
  refine lv_iconst (v := 1) hx hb dL_law_583 (by decide) ?_
  refine lv_iadd hx hb dL_law_584 ?_
  refine va_sld hx hb hX hbl hbA hJ.vS (sl_in (J := 1) hiv (by decide) (by omega) hL) dL_law_585 ?_
  refine lv_aload_n hx hb dL_law_586 rfl (lv_at hl 3 rfl) ?_
  refine lv_iload_n hx hb dL_law_587 rfl (lv_at hl 0 rfl) ?_
  refine lv_iconst (v := 2) hx hb dL_law_588 (by decide) ?_
  refine lv_iadd hx hb dL_law_589 ?_
  refine va_sld hx hb hX hbl hbA hJ.vS (sl_in (J := 2) hiv (by decide) (by omega) hL) dL_law_590 ?_
  refine rs_closed (xs (Int32.toNatClampNeg (iv + 1))) (xs (Int32.toNatClampNeg (iv + 2))) C0 (by omega) hl.1 hJ (fun r H locs hJ => ?_)
  refine lv_pop hx hb dL_law_594 rfl ?_
  exact lv_goto (tgt := 1138) hx hb dL_law_595 (by decide) (kk H locs nm nq hJ)
set_option maxHeartbeats 4000000 in
set_option maxRecDepth 100000 in
theorem ca_14 {p : Program} {l : Launch} {e : Env} {s : State} {m : MethodId} {b L : Nat} {xs : Nat → Int32} {below : List Frame} {meth : Method} {cd : Code} {H : Heap} {locs : List Loc} {Q : State → Prop} {ls : Array Slot} {A : Nat → Prop} {D : va_G} {c : Nat → ClassId} {kS vS : Nat} {fS : Nat → Int32} {h0 m0 k nm nq : Nat} {iv : Int32} {T : Nat} (C : CX p s m cd b L xs A D c kS vS fS) (hk : k ≤ 199) (hL : L ≤ 384) (hiv : iv.toInt = (T : Int)) (hT : T + 6 ≤ L) (hl : lv_has ls 4 [(3, .int iv), (2, .ref m0), (1, .ref h0), (0, .ref b)]) (hJ : LQ (LR c) D A s c h0 m0 nm nq H locs) (kk : ∀ (H1 : Heap) (locs1 : List Loc) (nm' nq' : Nat), LQ (LR c) D A s c h0 m0 nm' nq' H1 locs1 → W p l e room_1 s m #[Value.ref b] below meth cd H1 locs1 (100 + 100 * (k + 1 + 1) + (nm' + nq' / 256)) (3160000 + 5000 * (k + 1 + 1) + (2 * nm' + 2 * nq')) Q (F0 m 1138 ls [])) : W p l e room_1 s m #[Value.ref b] below meth cd H locs (100 + 100 * k + (nm + nq / 256)) (3160000 + 5000 * k + (2 * nm + 2 * nq)) Q (F0 m 598 ls []) := by
  have C0 := C
  obtain ⟨hx, hb, hml, hown, hts, hN, hK, hA, hE, hX, hbl, hbA⟩ := C
  have hk : k ≤ 200 := by omega
  refine lv_aload_n hx hb dL_law_598 rfl (lv_at hl 2 rfl) ?_
  refine cs_alike C0 hk hl.1 hJ (fun r0 H locs nm nq hJ => ?_)
  refine lv_pop hx hb dL_law_602 rfl ?_
  refine lv_aload_n hx hb dL_law_603 rfl (lv_at hl 1 rfl) ?_
  refine rs_alike C0 (by omega) hl.1 hJ (fun r H locs hJ => ?_)
  refine lv_pop hx hb dL_law_607 rfl ?_
  exact lv_goto (tgt := 1138) hx hb dL_law_608 (by decide) (kk H locs nm nq hJ)
set_option maxHeartbeats 4000000 in
set_option maxRecDepth 100000 in
theorem ca_15 {p : Program} {l : Launch} {e : Env} {s : State} {m : MethodId} {b L : Nat} {xs : Nat → Int32} {below : List Frame} {meth : Method} {cd : Code} {H : Heap} {locs : List Loc} {Q : State → Prop} {ls : Array Slot} {A : Nat → Prop} {D : va_G} {c : Nat → ClassId} {kS vS : Nat} {fS : Nat → Int32} {h0 m0 k nm nq : Nat} {iv : Int32} {T : Nat} (C : CX p s m cd b L xs A D c kS vS fS) (hk : k ≤ 199) (hL : L ≤ 384) (hiv : iv.toInt = (T : Int)) (hT : T + 6 ≤ L) (hl : lv_has ls 4 [(3, .int iv), (2, .ref m0), (1, .ref h0), (0, .ref b)]) (hJ : LQ (LR c) D A s c h0 m0 nm nq H locs) (kk : ∀ (H1 : Heap) (locs1 : List Loc) (nm' nq' : Nat), LQ (LR c) D A s c h0 m0 nm' nq' H1 locs1 → W p l e room_1 s m #[Value.ref b] below meth cd H1 locs1 (100 + 100 * (k + 1 + 1) + (nm' + nq' / 256)) (3160000 + 5000 * (k + 1 + 1) + (2 * nm' + 2 * nq')) Q (F0 m 1138 ls [])) : W p l e room_1 s m #[Value.ref b] below meth cd H locs (100 + 100 * k + (nm + nq / 256)) (3160000 + 5000 * k + (2 * nm + 2 * nq)) Q (F0 m 611 ls []) := by
  have C0 := C
  obtain ⟨hx, hb, hml, hown, hts, hN, hK, hA, hE, hX, hbl, hbA⟩ := C
  have hk : k ≤ 200 := by omega
  refine lv_aload_n hx hb dL_law_611 rfl (lv_at hl 2 rfl) ?_
  refine lv_aload_n hx hb dL_law_612 rfl (lv_at hl 3 rfl) ?_
  refine lv_iload_n hx hb dL_law_613 rfl (lv_at hl 0 rfl) ?_
  refine lv_iconst (v := 1) hx hb dL_law_614 (by decide) ?_
  refine lv_iadd hx hb dL_law_615 ?_
  refine va_sld hx hb hX hbl hbA hJ.vS (sl_in (J := 1) hiv (by decide) (by omega) hL) dL_law_616 ?_
  refine cs_decoys (xs (Int32.toNatClampNeg (iv + 1))) C0 hk hl.1 hJ (fun r0 H locs nm nq hJ => ?_)
  refine lv_pop hx hb dL_law_620 rfl ?_
  refine lv_aload_n hx hb dL_law_621 rfl (lv_at hl 1 rfl) ?_
  refine lv_aload_n hx hb dL_law_622 rfl (lv_at hl 3 rfl) ?_
  refine lv_iload_n hx hb dL_law_623 rfl (lv_at hl 0 rfl) ?_
  refine lv_iconst (v := 1) hx hb dL_law_624 (by decide) ?_
  refine lv_iadd hx hb dL_law_625 ?_
  refine va_sld hx hb hX hbl hbA hJ.vS (sl_in (J := 1) hiv (by decide) (by omega) hL) dL_law_626 ?_
  refine rs_decoys (xs (Int32.toNatClampNeg (iv + 1))) C0 (by omega) hl.1 hJ (fun r H locs hJ => ?_)
  refine lv_pop hx hb dL_law_630 rfl ?_
  exact lv_goto (tgt := 1138) hx hb dL_law_631 (by decide) (kk H locs nm nq hJ)
set_option maxHeartbeats 4000000 in
set_option maxRecDepth 100000 in
theorem ca_16 {p : Program} {l : Launch} {e : Env} {s : State} {m : MethodId} {b L : Nat} {xs : Nat → Int32} {below : List Frame} {meth : Method} {cd : Code} {H : Heap} {locs : List Loc} {Q : State → Prop} {ls : Array Slot} {A : Nat → Prop} {D : va_G} {c : Nat → ClassId} {kS vS : Nat} {fS : Nat → Int32} {h0 m0 k nm nq : Nat} {iv : Int32} {T : Nat} (C : CX p s m cd b L xs A D c kS vS fS) (hk : k ≤ 199) (hL : L ≤ 384) (hiv : iv.toInt = (T : Int)) (hT : T + 6 ≤ L) (hl : lv_has ls 4 [(3, .int iv), (2, .ref m0), (1, .ref h0), (0, .ref b)]) (hJ : LQ (LR c) D A s c h0 m0 nm nq H locs) (kk : ∀ (H1 : Heap) (locs1 : List Loc) (nm' nq' : Nat), LQ (LR c) D A s c h0 m0 nm' nq' H1 locs1 → W p l e room_1 s m #[Value.ref b] below meth cd H1 locs1 (100 + 100 * (k + 1 + 1) + (nm' + nq' / 256)) (3160000 + 5000 * (k + 1 + 1) + (2 * nm' + 2 * nq')) Q (F0 m 1138 ls [])) : W p l e room_1 s m #[Value.ref b] below meth cd H locs (100 + 100 * k + (nm + nq / 256)) (3160000 + 5000 * k + (2 * nm + 2 * nq)) Q (F0 m 634 ls []) := by
  have C0 := C
  obtain ⟨hx, hb, hml, hown, hts, hN, hK, hA, hE, hX, hbl, hbA⟩ := C
  have hk : k ≤ 200 := by omega
  refine lv_aload_n hx hb dL_law_634 rfl (lv_at hl 2 rfl) ?_
  refine lv_aload_n hx hb dL_law_635 rfl (lv_at hl 3 rfl) ?_
  refine lv_iload_n hx hb dL_law_636 rfl (lv_at hl 0 rfl) ?_
  refine lv_iconst (v := 1) hx hb dL_law_637 (by decide) ?_
  refine lv_iadd hx hb dL_law_638 ?_
  refine va_sld hx hb hX hbl hbA hJ.vS (sl_in (J := 1) hiv (by decide) (by omega) hL) dL_law_639 ?_
  refine lv_aload_n hx hb dL_law_640 rfl (lv_at hl 3 rfl) ?_
  refine lv_iload_n hx hb dL_law_641 rfl (lv_at hl 0 rfl) ?_
  refine lv_iconst (v := 2) hx hb dL_law_642 (by decide) ?_
  refine lv_iadd hx hb dL_law_643 ?_
  refine va_sld hx hb hX hbl hbA hJ.vS (sl_in (J := 2) hiv (by decide) (by omega) hL) dL_law_644 ?_
  refine lv_aload_n hx hb dL_law_645 rfl (lv_at hl 3 rfl) ?_
  refine lv_iload_n hx hb dL_law_646 rfl (lv_at hl 0 rfl) ?_
  refine lv_iconst (v := 3) hx hb dL_law_647 (by decide) ?_
  refine lv_iadd hx hb dL_law_648 ?_
  refine va_sld hx hb hX hbl hbA hJ.vS (sl_in (J := 3) hiv (by decide) (by omega) hL) dL_law_649 ?_
  by_cases hz : (xs (Int32.toNatClampNeg (iv + 3))) = 0
  · refine T_if_eq (tgt := 657) hx hb dL_law_650 (by decide) hz ?_
    refine lv_iconst (v := 0) hx hb dL_law_657 (by decide) ?_
    refine cs_post (xs (Int32.toNatClampNeg (iv + 1))) (xs (Int32.toNatClampNeg (iv + 2))) 0 C0 (by decide) hk hl.1 hJ (fun r0 H locs nm nq hJ => ?_)
    refine lv_pop hx hb dL_law_661 rfl ?_
    refine lv_aload_n hx hb dL_law_662 rfl (lv_at hl 1 rfl) ?_
    refine lv_aload_n hx hb dL_law_663 rfl (lv_at hl 3 rfl) ?_
    refine lv_iload_n hx hb dL_law_664 rfl (lv_at hl 0 rfl) ?_
    refine lv_iconst (v := 1) hx hb dL_law_665 (by decide) ?_
    refine lv_iadd hx hb dL_law_666 ?_
    refine va_sld hx hb hX hbl hbA hJ.vS (sl_in (J := 1) hiv (by decide) (by omega) hL) dL_law_667 ?_
    refine lv_aload_n hx hb dL_law_668 rfl (lv_at hl 3 rfl) ?_
    refine lv_iload_n hx hb dL_law_669 rfl (lv_at hl 0 rfl) ?_
    refine lv_iconst (v := 2) hx hb dL_law_670 (by decide) ?_
    refine lv_iadd hx hb dL_law_671 ?_
    refine va_sld hx hb hX hbl hbA hJ.vS (sl_in (J := 2) hiv (by decide) (by omega) hL) dL_law_672 ?_
    refine lv_aload_n hx hb dL_law_673 rfl (lv_at hl 3 rfl) ?_
    refine lv_iload_n hx hb dL_law_674 rfl (lv_at hl 0 rfl) ?_
    refine lv_iconst (v := 3) hx hb dL_law_675 (by decide) ?_
    refine lv_iadd hx hb dL_law_676 ?_
    refine va_sld hx hb hX hbl hbA hJ.vS (sl_in (J := 3) hiv (by decide) (by omega) hL) dL_law_677 ?_
    refine T_if_eq (tgt := 685) hx hb dL_law_678 (by decide) hz ?_
    refine lv_iconst (v := 0) hx hb dL_law_685 (by decide) ?_
    refine rs_post (xs (Int32.toNatClampNeg (iv + 1))) (xs (Int32.toNatClampNeg (iv + 2))) 0 C0 (by decide) (by omega) hl.1 hJ (fun r H locs hJ => ?_)
    refine lv_pop hx hb dL_law_689 rfl ?_
    exact lv_goto (tgt := 1138) hx hb dL_law_690 (by decide) (kk H locs nm nq hJ)
  · refine F_if_eq hx hb 657 dL_law_650 (by decide) hz ?_
    refine lv_iconst (v := 1) hx hb dL_law_653 (by decide) ?_
    refine lv_goto (tgt := 658) hx hb dL_law_654 (by decide) ?_
    refine cs_post (xs (Int32.toNatClampNeg (iv + 1))) (xs (Int32.toNatClampNeg (iv + 2))) 1 C0 (by decide) hk hl.1 hJ (fun r0 H locs nm nq hJ => ?_)
    refine lv_pop hx hb dL_law_661 rfl ?_
    refine lv_aload_n hx hb dL_law_662 rfl (lv_at hl 1 rfl) ?_
    refine lv_aload_n hx hb dL_law_663 rfl (lv_at hl 3 rfl) ?_
    refine lv_iload_n hx hb dL_law_664 rfl (lv_at hl 0 rfl) ?_
    refine lv_iconst (v := 1) hx hb dL_law_665 (by decide) ?_
    refine lv_iadd hx hb dL_law_666 ?_
    refine va_sld hx hb hX hbl hbA hJ.vS (sl_in (J := 1) hiv (by decide) (by omega) hL) dL_law_667 ?_
    refine lv_aload_n hx hb dL_law_668 rfl (lv_at hl 3 rfl) ?_
    refine lv_iload_n hx hb dL_law_669 rfl (lv_at hl 0 rfl) ?_
    refine lv_iconst (v := 2) hx hb dL_law_670 (by decide) ?_
    refine lv_iadd hx hb dL_law_671 ?_
    refine va_sld hx hb hX hbl hbA hJ.vS (sl_in (J := 2) hiv (by decide) (by omega) hL) dL_law_672 ?_
    refine lv_aload_n hx hb dL_law_673 rfl (lv_at hl 3 rfl) ?_
    refine lv_iload_n hx hb dL_law_674 rfl (lv_at hl 0 rfl) ?_
    refine lv_iconst (v := 3) hx hb dL_law_675 (by decide) ?_
    refine lv_iadd hx hb dL_law_676 ?_
    refine va_sld hx hb hX hbl hbA hJ.vS (sl_in (J := 3) hiv (by decide) (by omega) hL) dL_law_677 ?_
    refine F_if_eq hx hb 685 dL_law_678 (by decide) hz ?_
    refine lv_iconst (v := 1) hx hb dL_law_681 (by decide) ?_
    refine lv_goto (tgt := 686) hx hb dL_law_682 (by decide) ?_
    refine rs_post (xs (Int32.toNatClampNeg (iv + 1))) (xs (Int32.toNatClampNeg (iv + 2))) 1 C0 (by decide) (by omega) hl.1 hJ (fun r H locs hJ => ?_)
    refine lv_pop hx hb dL_law_689 rfl ?_
    exact lv_goto (tgt := 1138) hx hb dL_law_690 (by decide) (kk H locs nm nq hJ)
set_option maxHeartbeats 4000000 in
set_option maxRecDepth 100000 in
theorem ca_17 {p : Program} {l : Launch} {e : Env} {s : State} {m : MethodId} {b L : Nat} {xs : Nat → Int32} {below : List Frame} {meth : Method} {cd : Code} {H : Heap} {locs : List Loc} {Q : State → Prop} {ls : Array Slot} {A : Nat → Prop} {D : va_G} {c : Nat → ClassId} {kS vS : Nat} {fS : Nat → Int32} {h0 m0 k nm nq : Nat} {iv : Int32} {T : Nat} (C : CX p s m cd b L xs A D c kS vS fS) (hk : k ≤ 199) (hL : L ≤ 384) (hiv : iv.toInt = (T : Int)) (hT : T + 6 ≤ L) (hl : lv_has ls 4 [(3, .int iv), (2, .ref m0), (1, .ref h0), (0, .ref b)]) (hJ : LQ (LR c) D A s c h0 m0 nm nq H locs) (kk : ∀ (H1 : Heap) (locs1 : List Loc) (nm' nq' : Nat), LQ (LR c) D A s c h0 m0 nm' nq' H1 locs1 → W p l e room_1 s m #[Value.ref b] below meth cd H1 locs1 (100 + 100 * (k + 1 + 1) + (nm' + nq' / 256)) (3160000 + 5000 * (k + 1 + 1) + (2 * nm' + 2 * nq')) Q (F0 m 1138 ls [])) : W p l e room_1 s m #[Value.ref b] below meth cd H locs (100 + 100 * k + (nm + nq / 256)) (3160000 + 5000 * k + (2 * nm + 2 * nq)) Q (F0 m 693 ls []) := by
  have C0 := C
  obtain ⟨hx, hb, hml, hown, hts, hN, hK, hA, hE, hX, hbl, hbA⟩ := C
  have hk : k ≤ 200 := by omega
  refine lv_aload_n hx hb dL_law_693 rfl (lv_at hl 2 rfl) ?_
  refine lv_aload_n hx hb dL_law_694 rfl (lv_at hl 3 rfl) ?_
  refine lv_iload_n hx hb dL_law_695 rfl (lv_at hl 0 rfl) ?_
  refine lv_iconst (v := 1) hx hb dL_law_696 (by decide) ?_
  refine lv_iadd hx hb dL_law_697 ?_
  refine va_sld hx hb hX hbl hbA hJ.vS (sl_in (J := 1) hiv (by decide) (by omega) hL) dL_law_698 ?_
  refine lv_aload_n hx hb dL_law_699 rfl (lv_at hl 3 rfl) ?_
  refine lv_iload_n hx hb dL_law_700 rfl (lv_at hl 0 rfl) ?_
  refine lv_iconst (v := 2) hx hb dL_law_701 (by decide) ?_
  refine lv_iadd hx hb dL_law_702 ?_
  refine va_sld hx hb hX hbl hbA hJ.vS (sl_in (J := 2) hiv (by decide) (by omega) hL) dL_law_703 ?_
  refine lv_aload_n hx hb dL_law_704 rfl (lv_at hl 3 rfl) ?_
  refine lv_iload_n hx hb dL_law_705 rfl (lv_at hl 0 rfl) ?_
  refine lv_iconst (v := 3) hx hb dL_law_706 (by decide) ?_
  refine lv_iadd hx hb dL_law_707 ?_
  refine va_sld hx hb hX hbl hbA hJ.vS (sl_in (J := 3) hiv (by decide) (by omega) hL) dL_law_708 ?_
  refine cs_longest (xs (Int32.toNatClampNeg (iv + 1))) (xs (Int32.toNatClampNeg (iv + 2))) (xs (Int32.toNatClampNeg (iv + 3))) C0 hk hl.1 hJ (fun r0 H locs nm nq hJ => ?_)
  refine lv_pop hx hb dL_law_712 rfl ?_
  refine lv_aload_n hx hb dL_law_713 rfl (lv_at hl 1 rfl) ?_
  refine lv_aload_n hx hb dL_law_714 rfl (lv_at hl 3 rfl) ?_
  refine lv_iload_n hx hb dL_law_715 rfl (lv_at hl 0 rfl) ?_
  refine lv_iconst (v := 1) hx hb dL_law_716 (by decide) ?_
  refine lv_iadd hx hb dL_law_717 ?_
  refine va_sld hx hb hX hbl hbA hJ.vS (sl_in (J := 1) hiv (by decide) (by omega) hL) dL_law_718 ?_
  refine lv_aload_n hx hb dL_law_719 rfl (lv_at hl 3 rfl) ?_
  refine lv_iload_n hx hb dL_law_720 rfl (lv_at hl 0 rfl) ?_
  refine lv_iconst (v := 2) hx hb dL_law_721 (by decide) ?_
  refine lv_iadd hx hb dL_law_722 ?_
  refine va_sld hx hb hX hbl hbA hJ.vS (sl_in (J := 2) hiv (by decide) (by omega) hL) dL_law_723 ?_
  refine lv_aload_n hx hb dL_law_724 rfl (lv_at hl 3 rfl) ?_
  refine lv_iload_n hx hb dL_law_725 rfl (lv_at hl 0 rfl) ?_
  refine lv_iconst (v := 3) hx hb dL_law_726 (by decide) ?_
  refine lv_iadd hx hb dL_law_727 ?_
  refine va_sld hx hb hX hbl hbA hJ.vS (sl_in (J := 3) hiv (by decide) (by omega) hL) dL_law_728 ?_
  refine rs_longest (xs (Int32.toNatClampNeg (iv + 1))) (xs (Int32.toNatClampNeg (iv + 2))) (xs (Int32.toNatClampNeg (iv + 3))) C0 (by omega) hl.1 hJ (fun r H locs hJ => ?_)
  refine lv_pop hx hb dL_law_732 rfl ?_
  exact lv_goto (tgt := 1138) hx hb dL_law_733 (by decide) (kk H locs nm nq hJ)
set_option maxHeartbeats 4000000 in
set_option maxRecDepth 100000 in
theorem ca_18 {p : Program} {l : Launch} {e : Env} {s : State} {m : MethodId} {b L : Nat} {xs : Nat → Int32} {below : List Frame} {meth : Method} {cd : Code} {H : Heap} {locs : List Loc} {Q : State → Prop} {ls : Array Slot} {A : Nat → Prop} {D : va_G} {c : Nat → ClassId} {kS vS : Nat} {fS : Nat → Int32} {h0 m0 k nm nq : Nat} {iv : Int32} {T : Nat} (C : CX p s m cd b L xs A D c kS vS fS) (hk : k ≤ 199) (hL : L ≤ 384) (hiv : iv.toInt = (T : Int)) (hT : T + 6 ≤ L) (hl : lv_has ls 4 [(3, .int iv), (2, .ref m0), (1, .ref h0), (0, .ref b)]) (hJ : LQ (LR c) D A s c h0 m0 nm nq H locs) (kk : ∀ (H1 : Heap) (locs1 : List Loc) (nm' nq' : Nat), LQ (LR c) D A s c h0 m0 nm' nq' H1 locs1 → W p l e room_1 s m #[Value.ref b] below meth cd H1 locs1 (100 + 100 * (k + 1 + 1) + (nm' + nq' / 256)) (3160000 + 5000 * (k + 1 + 1) + (2 * nm' + 2 * nq')) Q (F0 m 1138 ls [])) : W p l e room_1 s m #[Value.ref b] below meth cd H locs (100 + 100 * k + (nm + nq / 256)) (3160000 + 5000 * k + (2 * nm + 2 * nq)) Q (F0 m 736 ls []) := by
  have C0 := C
  obtain ⟨hx, hb, hml, hown, hts, hN, hK, hA, hE, hX, hbl, hbA⟩ := C
  have hk : k ≤ 200 := by omega
  refine lv_aload_n hx hb dL_law_736 rfl (lv_at hl 2 rfl) ?_
  refine lv_aload_n hx hb dL_law_737 rfl (lv_at hl 3 rfl) ?_
  refine lv_iload_n hx hb dL_law_738 rfl (lv_at hl 0 rfl) ?_
  refine lv_iconst (v := 1) hx hb dL_law_739 (by decide) ?_
  refine lv_iadd hx hb dL_law_740 ?_
  refine va_sld hx hb hX hbl hbA hJ.vS (sl_in (J := 1) hiv (by decide) (by omega) hL) dL_law_741 ?_
  refine cs_covers (xs (Int32.toNatClampNeg (iv + 1))) C0 hk hl.1 hJ (fun r0 H locs nm nq hJ => ?_)
  refine lv_pop hx hb dL_law_745 rfl ?_
  refine lv_aload_n hx hb dL_law_746 rfl (lv_at hl 1 rfl) ?_
  refine lv_aload_n hx hb dL_law_747 rfl (lv_at hl 3 rfl) ?_
  refine lv_iload_n hx hb dL_law_748 rfl (lv_at hl 0 rfl) ?_
  refine lv_iconst (v := 1) hx hb dL_law_749 (by decide) ?_
  refine lv_iadd hx hb dL_law_750 ?_
  refine va_sld hx hb hX hbl hbA hJ.vS (sl_in (J := 1) hiv (by decide) (by omega) hL) dL_law_751 ?_
  refine rs_covers (xs (Int32.toNatClampNeg (iv + 1))) C0 (by omega) hl.1 hJ (fun r H locs hJ => ?_)
  refine lv_pop hx hb dL_law_755 rfl ?_
  exact lv_goto (tgt := 1138) hx hb dL_law_756 (by decide) (kk H locs nm nq hJ)
set_option maxHeartbeats 4000000 in
set_option maxRecDepth 100000 in
theorem ca_19 {p : Program} {l : Launch} {e : Env} {s : State} {m : MethodId} {b L : Nat} {xs : Nat → Int32} {below : List Frame} {meth : Method} {cd : Code} {H : Heap} {locs : List Loc} {Q : State → Prop} {ls : Array Slot} {A : Nat → Prop} {D : va_G} {c : Nat → ClassId} {kS vS : Nat} {fS : Nat → Int32} {h0 m0 k nm nq : Nat} {iv : Int32} {T : Nat} (C : CX p s m cd b L xs A D c kS vS fS) (hk : k ≤ 199) (hL : L ≤ 384) (hiv : iv.toInt = (T : Int)) (hT : T + 6 ≤ L) (hl : lv_has ls 4 [(3, .int iv), (2, .ref m0), (1, .ref h0), (0, .ref b)]) (hJ : LQ (LR c) D A s c h0 m0 nm nq H locs) (kk : ∀ (H1 : Heap) (locs1 : List Loc) (nm' nq' : Nat), LQ (LR c) D A s c h0 m0 nm' nq' H1 locs1 → W p l e room_1 s m #[Value.ref b] below meth cd H1 locs1 (100 + 100 * (k + 1 + 1) + (nm' + nq' / 256)) (3160000 + 5000 * (k + 1 + 1) + (2 * nm' + 2 * nq')) Q (F0 m 1138 ls [])) : W p l e room_1 s m #[Value.ref b] below meth cd H locs (100 + 100 * k + (nm + nq / 256)) (3160000 + 5000 * k + (2 * nm + 2 * nq)) Q (F0 m 759 ls []) := by
  have C0 := C
  obtain ⟨hx, hb, hml, hown, hts, hN, hK, hA, hE, hX, hbl, hbA⟩ := C
  have hk : k ≤ 200 := by omega
  refine lv_aload_n hx hb dL_law_759 rfl (lv_at hl 2 rfl) ?_
  refine lv_aload_n hx hb dL_law_760 rfl (lv_at hl 3 rfl) ?_
  refine lv_iload_n hx hb dL_law_761 rfl (lv_at hl 0 rfl) ?_
  refine lv_iconst (v := 1) hx hb dL_law_762 (by decide) ?_
  refine lv_iadd hx hb dL_law_763 ?_
  refine va_sld hx hb hX hbl hbA hJ.vS (sl_in (J := 1) hiv (by decide) (by omega) hL) dL_law_764 ?_
  refine lv_aload_n hx hb dL_law_765 rfl (lv_at hl 3 rfl) ?_
  refine lv_iload_n hx hb dL_law_766 rfl (lv_at hl 0 rfl) ?_
  refine lv_iconst (v := 2) hx hb dL_law_767 (by decide) ?_
  refine lv_iadd hx hb dL_law_768 ?_
  refine va_sld hx hb hX hbl hbA hJ.vS (sl_in (J := 2) hiv (by decide) (by omega) hL) dL_law_769 ?_
  refine cs_settles (xs (Int32.toNatClampNeg (iv + 1))) (xs (Int32.toNatClampNeg (iv + 2))) C0 hk hl.1 hJ (fun r0 H locs nm nq hJ => ?_)
  refine lv_pop hx hb dL_law_773 rfl ?_
  refine lv_aload_n hx hb dL_law_774 rfl (lv_at hl 1 rfl) ?_
  refine lv_aload_n hx hb dL_law_775 rfl (lv_at hl 3 rfl) ?_
  refine lv_iload_n hx hb dL_law_776 rfl (lv_at hl 0 rfl) ?_
  refine lv_iconst (v := 1) hx hb dL_law_777 (by decide) ?_
  refine lv_iadd hx hb dL_law_778 ?_
  refine va_sld hx hb hX hbl hbA hJ.vS (sl_in (J := 1) hiv (by decide) (by omega) hL) dL_law_779 ?_
  refine lv_aload_n hx hb dL_law_780 rfl (lv_at hl 3 rfl) ?_
  refine lv_iload_n hx hb dL_law_781 rfl (lv_at hl 0 rfl) ?_
  refine lv_iconst (v := 2) hx hb dL_law_782 (by decide) ?_
  refine lv_iadd hx hb dL_law_783 ?_
  refine va_sld hx hb hX hbl hbA hJ.vS (sl_in (J := 2) hiv (by decide) (by omega) hL) dL_law_784 ?_
  refine rs_settles_ (xs (Int32.toNatClampNeg (iv + 1))) (xs (Int32.toNatClampNeg (iv + 2))) C0 (by omega) hl.1 hJ (fun r H locs hJ => ?_)
  refine lv_pop hx hb dL_law_788 rfl ?_
  exact lv_goto (tgt := 1138) hx hb dL_law_789 (by decide) (kk H locs nm nq hJ)
set_option maxHeartbeats 4000000 in
set_option maxRecDepth 100000 in
theorem ca_20 {p : Program} {l : Launch} {e : Env} {s : State} {m : MethodId} {b L : Nat} {xs : Nat → Int32} {below : List Frame} {meth : Method} {cd : Code} {H : Heap} {locs : List Loc} {Q : State → Prop} {ls : Array Slot} {A : Nat → Prop} {D : va_G} {c : Nat → ClassId} {kS vS : Nat} {fS : Nat → Int32} {h0 m0 k nm nq : Nat} {iv : Int32} {T : Nat} (C : CX p s m cd b L xs A D c kS vS fS) (hk : k ≤ 199) (hL : L ≤ 384) (hiv : iv.toInt = (T : Int)) (hT : T + 6 ≤ L) (hl : lv_has ls 4 [(3, .int iv), (2, .ref m0), (1, .ref h0), (0, .ref b)]) (hJ : LQ (LR c) D A s c h0 m0 nm nq H locs) (kk : ∀ (H1 : Heap) (locs1 : List Loc) (nm' nq' : Nat), LQ (LR c) D A s c h0 m0 nm' nq' H1 locs1 → W p l e room_1 s m #[Value.ref b] below meth cd H1 locs1 (100 + 100 * (k + 1 + 1) + (nm' + nq' / 256)) (3160000 + 5000 * (k + 1 + 1) + (2 * nm' + 2 * nq')) Q (F0 m 1138 ls [])) : W p l e room_1 s m #[Value.ref b] below meth cd H locs (100 + 100 * k + (nm + nq / 256)) (3160000 + 5000 * k + (2 * nm + 2 * nq)) Q (F0 m 792 ls []) := by
  have C0 := C
  obtain ⟨hx, hb, hml, hown, hts, hN, hK, hA, hE, hX, hbl, hbA⟩ := C
  have hk : k ≤ 200 := by omega
  refine lv_aload_n hx hb dL_law_792 rfl (lv_at hl 2 rfl) ?_
  refine lv_aload_n hx hb dL_law_793 rfl (lv_at hl 3 rfl) ?_
  refine lv_iload_n hx hb dL_law_794 rfl (lv_at hl 0 rfl) ?_
  refine lv_iconst (v := 1) hx hb dL_law_795 (by decide) ?_
  refine lv_iadd hx hb dL_law_796 ?_
  refine va_sld hx hb hX hbl hbA hJ.vS (sl_in (J := 1) hiv (by decide) (by omega) hL) dL_law_797 ?_
  refine lv_aload_n hx hb dL_law_798 rfl (lv_at hl 3 rfl) ?_
  refine lv_iload_n hx hb dL_law_799 rfl (lv_at hl 0 rfl) ?_
  refine lv_iconst (v := 2) hx hb dL_law_800 (by decide) ?_
  refine lv_iadd hx hb dL_law_801 ?_
  refine va_sld hx hb hX hbl hbA hJ.vS (sl_in (J := 2) hiv (by decide) (by omega) hL) dL_law_802 ?_
  refine cs_row (xs (Int32.toNatClampNeg (iv + 1))) (xs (Int32.toNatClampNeg (iv + 2))) C0 hk hl.1 hJ (fun r0 H locs nm nq hJ => ?_)
  refine lv_pop hx hb dL_law_806 rfl ?_
  refine lv_aload_n hx hb dL_law_807 rfl (lv_at hl 1 rfl) ?_
  refine lv_aload_n hx hb dL_law_808 rfl (lv_at hl 3 rfl) ?_
  refine lv_iload_n hx hb dL_law_809 rfl (lv_at hl 0 rfl) ?_
  refine lv_iconst (v := 1) hx hb dL_law_810 (by decide) ?_
  refine lv_iadd hx hb dL_law_811 ?_
  refine va_sld hx hb hX hbl hbA hJ.vS (sl_in (J := 1) hiv (by decide) (by omega) hL) dL_law_812 ?_
  refine lv_aload_n hx hb dL_law_813 rfl (lv_at hl 3 rfl) ?_
  refine lv_iload_n hx hb dL_law_814 rfl (lv_at hl 0 rfl) ?_
  refine lv_iconst (v := 2) hx hb dL_law_815 (by decide) ?_
  refine lv_iadd hx hb dL_law_816 ?_
  refine va_sld hx hb hX hbl hbA hJ.vS (sl_in (J := 2) hiv (by decide) (by omega) hL) dL_law_817 ?_
  refine rs_row (xs (Int32.toNatClampNeg (iv + 1))) (xs (Int32.toNatClampNeg (iv + 2))) C0 (by omega) hl.1 hJ (fun r H locs hJ => ?_)
  refine lv_pop hx hb dL_law_821 rfl ?_
  exact lv_goto (tgt := 1138) hx hb dL_law_822 (by decide) (kk H locs nm nq hJ)
set_option maxHeartbeats 4000000 in
set_option maxRecDepth 100000 in
theorem ca_21 {p : Program} {l : Launch} {e : Env} {s : State} {m : MethodId} {b L : Nat} {xs : Nat → Int32} {below : List Frame} {meth : Method} {cd : Code} {H : Heap} {locs : List Loc} {Q : State → Prop} {ls : Array Slot} {A : Nat → Prop} {D : va_G} {c : Nat → ClassId} {kS vS : Nat} {fS : Nat → Int32} {h0 m0 k nm nq : Nat} {iv : Int32} {T : Nat} (C : CX p s m cd b L xs A D c kS vS fS) (hk : k ≤ 199) (hL : L ≤ 384) (hiv : iv.toInt = (T : Int)) (hT : T + 6 ≤ L) (hl : lv_has ls 4 [(3, .int iv), (2, .ref m0), (1, .ref h0), (0, .ref b)]) (hJ : LQ (LR c) D A s c h0 m0 nm nq H locs) (kk : ∀ (H1 : Heap) (locs1 : List Loc) (nm' nq' : Nat), LQ (LR c) D A s c h0 m0 nm' nq' H1 locs1 → W p l e room_1 s m #[Value.ref b] below meth cd H1 locs1 (100 + 100 * (k + 1 + 1) + (nm' + nq' / 256)) (3160000 + 5000 * (k + 1 + 1) + (2 * nm' + 2 * nq')) Q (F0 m 1138 ls [])) : W p l e room_1 s m #[Value.ref b] below meth cd H locs (100 + 100 * k + (nm + nq / 256)) (3160000 + 5000 * k + (2 * nm + 2 * nq)) Q (F0 m 825 ls []) := by
  have C0 := C
  obtain ⟨hx, hb, hml, hown, hts, hN, hK, hA, hE, hX, hbl, hbA⟩ := C
  have hk : k ≤ 200 := by omega
  refine lv_aload_n hx hb dL_law_825 rfl (lv_at hl 2 rfl) ?_
  refine cs_done C0 hk hl.1 hJ (fun r0 H locs nm nq hJ => ?_)
  refine lv_pop hx hb dL_law_829 rfl ?_
  refine lv_aload_n hx hb dL_law_830 rfl (lv_at hl 1 rfl) ?_
  refine rs_done C0 (by omega) hl.1 hJ (fun r H locs hJ => ?_)
  refine lv_pop hx hb dL_law_834 rfl ?_
  exact lv_goto (tgt := 1138) hx hb dL_law_835 (by decide) (kk H locs nm nq hJ)
set_option maxHeartbeats 4000000 in
set_option maxRecDepth 100000 in
theorem ca_22 {p : Program} {l : Launch} {e : Env} {s : State} {m : MethodId} {b L : Nat} {xs : Nat → Int32} {below : List Frame} {meth : Method} {cd : Code} {H : Heap} {locs : List Loc} {Q : State → Prop} {ls : Array Slot} {A : Nat → Prop} {D : va_G} {c : Nat → ClassId} {kS vS : Nat} {fS : Nat → Int32} {h0 m0 k nm nq : Nat} {iv : Int32} {T : Nat} (C : CX p s m cd b L xs A D c kS vS fS) (hk : k ≤ 199) (hL : L ≤ 384) (hiv : iv.toInt = (T : Int)) (hT : T + 6 ≤ L) (hl : lv_has ls 4 [(3, .int iv), (2, .ref m0), (1, .ref h0), (0, .ref b)]) (hJ : LQ (LR c) D A s c h0 m0 nm nq H locs) (kk : ∀ (H1 : Heap) (locs1 : List Loc) (nm' nq' : Nat), LQ (LR c) D A s c h0 m0 nm' nq' H1 locs1 → W p l e room_1 s m #[Value.ref b] below meth cd H1 locs1 (100 + 100 * (k + 1 + 1) + (nm' + nq' / 256)) (3160000 + 5000 * (k + 1 + 1) + (2 * nm' + 2 * nq')) Q (F0 m 1138 ls [])) : W p l e room_1 s m #[Value.ref b] below meth cd H locs (100 + 100 * k + (nm + nq / 256)) (3160000 + 5000 * k + (2 * nm + 2 * nq)) Q (F0 m 838 ls []) := by
  have C0 := C
  obtain ⟨hx, hb, hml, hown, hts, hN, hK, hA, hE, hX, hbl, hbA⟩ := C
  have hk : k ≤ 200 := by omega
  refine lv_aload_n hx hb dL_law_838 rfl (lv_at hl 2 rfl) ?_
  refine lv_aload_n hx hb dL_law_839 rfl (lv_at hl 3 rfl) ?_
  refine lv_iload_n hx hb dL_law_840 rfl (lv_at hl 0 rfl) ?_
  refine lv_iconst (v := 1) hx hb dL_law_841 (by decide) ?_
  refine lv_iadd hx hb dL_law_842 ?_
  refine va_sld hx hb hX hbl hbA hJ.vS (sl_in (J := 1) hiv (by decide) (by omega) hL) dL_law_843 ?_
  refine cs_free (xs (Int32.toNatClampNeg (iv + 1))) C0 hk hl.1 hJ (fun r0 H locs nm nq hJ => ?_)
  refine lv_pop hx hb dL_law_847 rfl ?_
  refine lv_aload_n hx hb dL_law_848 rfl (lv_at hl 1 rfl) ?_
  refine lv_aload_n hx hb dL_law_849 rfl (lv_at hl 3 rfl) ?_
  refine lv_iload_n hx hb dL_law_850 rfl (lv_at hl 0 rfl) ?_
  refine lv_iconst (v := 1) hx hb dL_law_851 (by decide) ?_
  refine lv_iadd hx hb dL_law_852 ?_
  refine va_sld hx hb hX hbl hbA hJ.vS (sl_in (J := 1) hiv (by decide) (by omega) hL) dL_law_853 ?_
  refine rs_free (xs (Int32.toNatClampNeg (iv + 1))) C0 (by omega) hl.1 hJ (fun r H locs hJ => ?_)
  refine lv_pop hx hb dL_law_857 rfl ?_
  exact lv_goto (tgt := 1138) hx hb dL_law_858 (by decide) (kk H locs nm nq hJ)
set_option maxHeartbeats 4000000 in
set_option maxRecDepth 100000 in
theorem ca_23 {p : Program} {l : Launch} {e : Env} {s : State} {m : MethodId} {b L : Nat} {xs : Nat → Int32} {below : List Frame} {meth : Method} {cd : Code} {H : Heap} {locs : List Loc} {Q : State → Prop} {ls : Array Slot} {A : Nat → Prop} {D : va_G} {c : Nat → ClassId} {kS vS : Nat} {fS : Nat → Int32} {h0 m0 k nm nq : Nat} {iv : Int32} {T : Nat} (C : CX p s m cd b L xs A D c kS vS fS) (hk : k ≤ 199) (hL : L ≤ 384) (hiv : iv.toInt = (T : Int)) (hT : T + 6 ≤ L) (hl : lv_has ls 4 [(3, .int iv), (2, .ref m0), (1, .ref h0), (0, .ref b)]) (hJ : LQ (LR c) D A s c h0 m0 nm nq H locs) (kk : ∀ (H1 : Heap) (locs1 : List Loc) (nm' nq' : Nat), LQ (LR c) D A s c h0 m0 nm' nq' H1 locs1 → W p l e room_1 s m #[Value.ref b] below meth cd H1 locs1 (100 + 100 * (k + 1 + 1) + (nm' + nq' / 256)) (3160000 + 5000 * (k + 1 + 1) + (2 * nm' + 2 * nq')) Q (F0 m 1138 ls [])) : W p l e room_1 s m #[Value.ref b] below meth cd H locs (100 + 100 * k + (nm + nq / 256)) (3160000 + 5000 * k + (2 * nm + 2 * nq)) Q (F0 m 861 ls []) := by
  have C0 := C
  obtain ⟨hx, hb, hml, hown, hts, hN, hK, hA, hE, hX, hbl, hbA⟩ := C
  have hk : k ≤ 200 := by omega
  refine lv_aload_n hx hb dL_law_861 rfl (lv_at hl 2 rfl) ?_
  refine lv_aload_n hx hb dL_law_862 rfl (lv_at hl 3 rfl) ?_
  refine lv_iload_n hx hb dL_law_863 rfl (lv_at hl 0 rfl) ?_
  refine lv_iconst (v := 1) hx hb dL_law_864 (by decide) ?_
  refine lv_iadd hx hb dL_law_865 ?_
  refine va_sld hx hb hX hbl hbA hJ.vS (sl_in (J := 1) hiv (by decide) (by omega) hL) dL_law_866 ?_
  refine lv_aload_n hx hb dL_law_867 rfl (lv_at hl 3 rfl) ?_
  refine lv_iload_n hx hb dL_law_868 rfl (lv_at hl 0 rfl) ?_
  refine lv_iconst (v := 2) hx hb dL_law_869 (by decide) ?_
  refine lv_iadd hx hb dL_law_870 ?_
  refine va_sld hx hb hX hbl hbA hJ.vS (sl_in (J := 2) hiv (by decide) (by omega) hL) dL_law_871 ?_
  refine cs_tick (xs (Int32.toNatClampNeg (iv + 1))) (xs (Int32.toNatClampNeg (iv + 2))) C0 hk hl.1 hJ (fun r0 H locs nm nq hJ => ?_)
  refine lv_pop hx hb dL_law_875 rfl ?_
  refine lv_aload_n hx hb dL_law_876 rfl (lv_at hl 1 rfl) ?_
  refine lv_aload_n hx hb dL_law_877 rfl (lv_at hl 3 rfl) ?_
  refine lv_iload_n hx hb dL_law_878 rfl (lv_at hl 0 rfl) ?_
  refine lv_iconst (v := 1) hx hb dL_law_879 (by decide) ?_
  refine lv_iadd hx hb dL_law_880 ?_
  refine va_sld hx hb hX hbl hbA hJ.vS (sl_in (J := 1) hiv (by decide) (by omega) hL) dL_law_881 ?_
  refine lv_aload_n hx hb dL_law_882 rfl (lv_at hl 3 rfl) ?_
  refine lv_iload_n hx hb dL_law_883 rfl (lv_at hl 0 rfl) ?_
  refine lv_iconst (v := 2) hx hb dL_law_884 (by decide) ?_
  refine lv_iadd hx hb dL_law_885 ?_
  refine va_sld hx hb hX hbl hbA hJ.vS (sl_in (J := 2) hiv (by decide) (by omega) hL) dL_law_886 ?_
  refine rs_tick (xs (Int32.toNatClampNeg (iv + 1))) (xs (Int32.toNatClampNeg (iv + 2))) C0 (by omega) hl.1 hJ (fun r H locs hJ => ?_)
  refine lv_pop hx hb dL_law_890 rfl ?_
  exact lv_goto (tgt := 1138) hx hb dL_law_891 (by decide) (kk H locs nm nq hJ)
set_option maxHeartbeats 4000000 in
set_option maxRecDepth 100000 in
theorem ca_24 {p : Program} {l : Launch} {e : Env} {s : State} {m : MethodId} {b L : Nat} {xs : Nat → Int32} {below : List Frame} {meth : Method} {cd : Code} {H : Heap} {locs : List Loc} {Q : State → Prop} {ls : Array Slot} {A : Nat → Prop} {D : va_G} {c : Nat → ClassId} {kS vS : Nat} {fS : Nat → Int32} {h0 m0 k nm nq : Nat} {iv : Int32} {T : Nat} (C : CX p s m cd b L xs A D c kS vS fS) (hk : k ≤ 199) (hL : L ≤ 384) (hiv : iv.toInt = (T : Int)) (hT : T + 6 ≤ L) (hl : lv_has ls 4 [(3, .int iv), (2, .ref m0), (1, .ref h0), (0, .ref b)]) (hJ : LQ (LR c) D A s c h0 m0 nm nq H locs) (kk : ∀ (H1 : Heap) (locs1 : List Loc) (nm' nq' : Nat), LQ (LR c) D A s c h0 m0 nm' nq' H1 locs1 → W p l e room_1 s m #[Value.ref b] below meth cd H1 locs1 (100 + 100 * (k + 1 + 1) + (nm' + nq' / 256)) (3160000 + 5000 * (k + 1 + 1) + (2 * nm' + 2 * nq')) Q (F0 m 1138 ls [])) : W p l e room_1 s m #[Value.ref b] below meth cd H locs (100 + 100 * k + (nm + nq / 256)) (3160000 + 5000 * k + (2 * nm + 2 * nq)) Q (F0 m 894 ls []) := by
  have C0 := C
  obtain ⟨hx, hb, hml, hown, hts, hN, hK, hA, hE, hX, hbl, hbA⟩ := C
  have hk : k ≤ 200 := by omega
  refine lv_aload_n hx hb dL_law_894 rfl (lv_at hl 2 rfl) ?_
  refine lv_aload_n hx hb dL_law_895 rfl (lv_at hl 3 rfl) ?_
  refine lv_iload_n hx hb dL_law_896 rfl (lv_at hl 0 rfl) ?_
  refine lv_iconst (v := 1) hx hb dL_law_897 (by decide) ?_
  refine lv_iadd hx hb dL_law_898 ?_
  refine va_sld hx hb hX hbl hbA hJ.vS (sl_in (J := 1) hiv (by decide) (by omega) hL) dL_law_899 ?_
  refine lv_aload_n hx hb dL_law_900 rfl (lv_at hl 3 rfl) ?_
  refine lv_iload_n hx hb dL_law_901 rfl (lv_at hl 0 rfl) ?_
  refine lv_iconst (v := 2) hx hb dL_law_902 (by decide) ?_
  refine lv_iadd hx hb dL_law_903 ?_
  refine va_sld hx hb hX hbl hbA hJ.vS (sl_in (J := 2) hiv (by decide) (by omega) hL) dL_law_904 ?_
  refine lv_aload_n hx hb dL_law_905 rfl (lv_at hl 3 rfl) ?_
  refine lv_iload_n hx hb dL_law_906 rfl (lv_at hl 0 rfl) ?_
  refine lv_iconst (v := 3) hx hb dL_law_907 (by decide) ?_
  refine lv_iadd hx hb dL_law_908 ?_
  refine va_sld hx hb hX hbl hbA hJ.vS (sl_in (J := 3) hiv (by decide) (by omega) hL) dL_law_909 ?_
  refine cs_ahead (xs (Int32.toNatClampNeg (iv + 1))) (xs (Int32.toNatClampNeg (iv + 2))) (xs (Int32.toNatClampNeg (iv + 3))) C0 hk hl.1 hJ (fun r0 H locs nm nq hJ => ?_)
  refine lv_pop hx hb dL_law_913 rfl ?_
  refine lv_aload_n hx hb dL_law_914 rfl (lv_at hl 1 rfl) ?_
  refine lv_aload_n hx hb dL_law_915 rfl (lv_at hl 3 rfl) ?_
  refine lv_iload_n hx hb dL_law_916 rfl (lv_at hl 0 rfl) ?_
  refine lv_iconst (v := 1) hx hb dL_law_917 (by decide) ?_
  refine lv_iadd hx hb dL_law_918 ?_
  refine va_sld hx hb hX hbl hbA hJ.vS (sl_in (J := 1) hiv (by decide) (by omega) hL) dL_law_919 ?_
  refine lv_aload_n hx hb dL_law_920 rfl (lv_at hl 3 rfl) ?_
  refine lv_iload_n hx hb dL_law_921 rfl (lv_at hl 0 rfl) ?_
  refine lv_iconst (v := 2) hx hb dL_law_922 (by decide) ?_
  refine lv_iadd hx hb dL_law_923 ?_
  refine va_sld hx hb hX hbl hbA hJ.vS (sl_in (J := 2) hiv (by decide) (by omega) hL) dL_law_924 ?_
  refine lv_aload_n hx hb dL_law_925 rfl (lv_at hl 3 rfl) ?_
  refine lv_iload_n hx hb dL_law_926 rfl (lv_at hl 0 rfl) ?_
  refine lv_iconst (v := 3) hx hb dL_law_927 (by decide) ?_
  refine lv_iadd hx hb dL_law_928 ?_
  refine va_sld hx hb hX hbl hbA hJ.vS (sl_in (J := 3) hiv (by decide) (by omega) hL) dL_law_929 ?_
  refine rs_ahead (xs (Int32.toNatClampNeg (iv + 1))) (xs (Int32.toNatClampNeg (iv + 2))) (xs (Int32.toNatClampNeg (iv + 3))) C0 (by omega) hl.1 hJ (fun r H locs hJ => ?_)
  refine lv_pop hx hb dL_law_933 rfl ?_
  exact lv_goto (tgt := 1138) hx hb dL_law_934 (by decide) (kk H locs nm nq hJ)
set_option maxHeartbeats 4000000 in
set_option maxRecDepth 100000 in
theorem ca_25 {p : Program} {l : Launch} {e : Env} {s : State} {m : MethodId} {b L : Nat} {xs : Nat → Int32} {below : List Frame} {meth : Method} {cd : Code} {H : Heap} {locs : List Loc} {Q : State → Prop} {ls : Array Slot} {A : Nat → Prop} {D : va_G} {c : Nat → ClassId} {kS vS : Nat} {fS : Nat → Int32} {h0 m0 k nm nq : Nat} {iv : Int32} {T : Nat} (C : CX p s m cd b L xs A D c kS vS fS) (hk : k ≤ 199) (hL : L ≤ 384) (hiv : iv.toInt = (T : Int)) (hT : T + 6 ≤ L) (hl : lv_has ls 4 [(3, .int iv), (2, .ref m0), (1, .ref h0), (0, .ref b)]) (hJ : LQ (LR c) D A s c h0 m0 nm nq H locs) (kk : ∀ (H1 : Heap) (locs1 : List Loc) (nm' nq' : Nat), LQ (LR c) D A s c h0 m0 nm' nq' H1 locs1 → W p l e room_1 s m #[Value.ref b] below meth cd H1 locs1 (100 + 100 * (k + 1 + 1) + (nm' + nq' / 256)) (3160000 + 5000 * (k + 1 + 1) + (2 * nm' + 2 * nq')) Q (F0 m 1138 ls [])) : W p l e room_1 s m #[Value.ref b] below meth cd H locs (100 + 100 * k + (nm + nq / 256)) (3160000 + 5000 * k + (2 * nm + 2 * nq)) Q (F0 m 937 ls []) := by
  have C0 := C
  obtain ⟨hx, hb, hml, hown, hts, hN, hK, hA, hE, hX, hbl, hbA⟩ := C
  have hk : k ≤ 200 := by omega
  refine lv_aload_n hx hb dL_law_937 rfl (lv_at hl 2 rfl) ?_
  refine lv_aload_n hx hb dL_law_938 rfl (lv_at hl 3 rfl) ?_
  refine lv_iload_n hx hb dL_law_939 rfl (lv_at hl 0 rfl) ?_
  refine lv_iconst (v := 1) hx hb dL_law_940 (by decide) ?_
  refine lv_iadd hx hb dL_law_941 ?_
  refine va_sld hx hb hX hbl hbA hJ.vS (sl_in (J := 1) hiv (by decide) (by omega) hL) dL_law_942 ?_
  refine cs_finest (xs (Int32.toNatClampNeg (iv + 1))) C0 hk hl.1 hJ (fun r0 H locs nm nq hJ => ?_)
  refine lv_pop hx hb dL_law_946 rfl ?_
  refine lv_aload_n hx hb dL_law_947 rfl (lv_at hl 1 rfl) ?_
  refine lv_aload_n hx hb dL_law_948 rfl (lv_at hl 3 rfl) ?_
  refine lv_iload_n hx hb dL_law_949 rfl (lv_at hl 0 rfl) ?_
  refine lv_iconst (v := 1) hx hb dL_law_950 (by decide) ?_
  refine lv_iadd hx hb dL_law_951 ?_
  refine va_sld hx hb hX hbl hbA hJ.vS (sl_in (J := 1) hiv (by decide) (by omega) hL) dL_law_952 ?_
  refine rs_finest (xs (Int32.toNatClampNeg (iv + 1))) C0 (by omega) hl.1 hJ (fun r H locs hJ => ?_)
  refine lv_pop hx hb dL_law_956 rfl ?_
  exact lv_goto (tgt := 1138) hx hb dL_law_957 (by decide) (kk H locs nm nq hJ)
set_option maxHeartbeats 4000000 in
set_option maxRecDepth 100000 in
theorem ca_26 {p : Program} {l : Launch} {e : Env} {s : State} {m : MethodId} {b L : Nat} {xs : Nat → Int32} {below : List Frame} {meth : Method} {cd : Code} {H : Heap} {locs : List Loc} {Q : State → Prop} {ls : Array Slot} {A : Nat → Prop} {D : va_G} {c : Nat → ClassId} {kS vS : Nat} {fS : Nat → Int32} {h0 m0 k nm nq : Nat} {iv : Int32} {T : Nat} (C : CX p s m cd b L xs A D c kS vS fS) (hk : k ≤ 199) (hL : L ≤ 384) (hiv : iv.toInt = (T : Int)) (hT : T + 6 ≤ L) (hl : lv_has ls 4 [(3, .int iv), (2, .ref m0), (1, .ref h0), (0, .ref b)]) (hJ : LQ (LR c) D A s c h0 m0 nm nq H locs) (kk : ∀ (H1 : Heap) (locs1 : List Loc) (nm' nq' : Nat), LQ (LR c) D A s c h0 m0 nm' nq' H1 locs1 → W p l e room_1 s m #[Value.ref b] below meth cd H1 locs1 (100 + 100 * (k + 1 + 1) + (nm' + nq' / 256)) (3160000 + 5000 * (k + 1 + 1) + (2 * nm' + 2 * nq')) Q (F0 m 1138 ls [])) : W p l e room_1 s m #[Value.ref b] below meth cd H locs (100 + 100 * k + (nm + nq / 256)) (3160000 + 5000 * k + (2 * nm + 2 * nq)) Q (F0 m 960 ls []) := by
  have C0 := C
  obtain ⟨hx, hb, hml, hown, hts, hN, hK, hA, hE, hX, hbl, hbA⟩ := C
  have hk : k ≤ 200 := by omega
  refine lv_aload_n hx hb dL_law_960 rfl (lv_at hl 2 rfl) ?_
  refine lv_aload_n hx hb dL_law_961 rfl (lv_at hl 3 rfl) ?_
  refine lv_iload_n hx hb dL_law_962 rfl (lv_at hl 0 rfl) ?_
  refine lv_iconst (v := 1) hx hb dL_law_963 (by decide) ?_
  refine lv_iadd hx hb dL_law_964 ?_
  refine va_sld hx hb hX hbl hbA hJ.vS (sl_in (J := 1) hiv (by decide) (by omega) hL) dL_law_965 ?_
  refine lv_aload_n hx hb dL_law_966 rfl (lv_at hl 3 rfl) ?_
  refine lv_iload_n hx hb dL_law_967 rfl (lv_at hl 0 rfl) ?_
  refine lv_iconst (v := 2) hx hb dL_law_968 (by decide) ?_
  refine lv_iadd hx hb dL_law_969 ?_
  refine va_sld hx hb hX hbl hbA hJ.vS (sl_in (J := 2) hiv (by decide) (by omega) hL) dL_law_970 ?_
  refine cs_home (xs (Int32.toNatClampNeg (iv + 1))) (xs (Int32.toNatClampNeg (iv + 2))) C0 hk hl.1 hJ (fun r0 H locs nm nq hJ => ?_)
  refine lv_pop hx hb dL_law_974 rfl ?_
  refine lv_aload_n hx hb dL_law_975 rfl (lv_at hl 1 rfl) ?_
  refine lv_aload_n hx hb dL_law_976 rfl (lv_at hl 3 rfl) ?_
  refine lv_iload_n hx hb dL_law_977 rfl (lv_at hl 0 rfl) ?_
  refine lv_iconst (v := 1) hx hb dL_law_978 (by decide) ?_
  refine lv_iadd hx hb dL_law_979 ?_
  refine va_sld hx hb hX hbl hbA hJ.vS (sl_in (J := 1) hiv (by decide) (by omega) hL) dL_law_980 ?_
  refine lv_aload_n hx hb dL_law_981 rfl (lv_at hl 3 rfl) ?_
  refine lv_iload_n hx hb dL_law_982 rfl (lv_at hl 0 rfl) ?_
  refine lv_iconst (v := 2) hx hb dL_law_983 (by decide) ?_
  refine lv_iadd hx hb dL_law_984 ?_
  refine va_sld hx hb hX hbl hbA hJ.vS (sl_in (J := 2) hiv (by decide) (by omega) hL) dL_law_985 ?_
  refine rs_home (xs (Int32.toNatClampNeg (iv + 1))) (xs (Int32.toNatClampNeg (iv + 2))) C0 (by omega) hl.1 hJ (fun r H locs hJ => ?_)
  refine lv_pop hx hb dL_law_989 rfl ?_
  exact lv_goto (tgt := 1138) hx hb dL_law_990 (by decide) (kk H locs nm nq hJ)
set_option maxHeartbeats 4000000 in
set_option maxRecDepth 100000 in
theorem ca_27 {p : Program} {l : Launch} {e : Env} {s : State} {m : MethodId} {b L : Nat} {xs : Nat → Int32} {below : List Frame} {meth : Method} {cd : Code} {H : Heap} {locs : List Loc} {Q : State → Prop} {ls : Array Slot} {A : Nat → Prop} {D : va_G} {c : Nat → ClassId} {kS vS : Nat} {fS : Nat → Int32} {h0 m0 k nm nq : Nat} {iv : Int32} {T : Nat} (C : CX p s m cd b L xs A D c kS vS fS) (hk : k ≤ 199) (hL : L ≤ 384) (hiv : iv.toInt = (T : Int)) (hT : T + 6 ≤ L) (hl : lv_has ls 4 [(3, .int iv), (2, .ref m0), (1, .ref h0), (0, .ref b)]) (hJ : LQ (LR c) D A s c h0 m0 nm nq H locs) (kk : ∀ (H1 : Heap) (locs1 : List Loc) (nm' nq' : Nat), LQ (LR c) D A s c h0 m0 nm' nq' H1 locs1 → W p l e room_1 s m #[Value.ref b] below meth cd H1 locs1 (100 + 100 * (k + 1 + 1) + (nm' + nq' / 256)) (3160000 + 5000 * (k + 1 + 1) + (2 * nm' + 2 * nq')) Q (F0 m 1138 ls [])) : W p l e room_1 s m #[Value.ref b] below meth cd H locs (100 + 100 * k + (nm + nq / 256)) (3160000 + 5000 * k + (2 * nm + 2 * nq)) Q (F0 m 993 ls []) := by
  have C0 := C
  obtain ⟨hx, hb, hml, hown, hts, hN, hK, hA, hE, hX, hbl, hbA⟩ := C
  have hk : k ≤ 200 := by omega
  refine lv_aload_n hx hb dL_law_993 rfl (lv_at hl 2 rfl) ?_
  refine lv_aload_n hx hb dL_law_994 rfl (lv_at hl 3 rfl) ?_
  refine lv_iload_n hx hb dL_law_995 rfl (lv_at hl 0 rfl) ?_
  refine lv_iconst (v := 1) hx hb dL_law_996 (by decide) ?_
  refine lv_iadd hx hb dL_law_997 ?_
  refine va_sld hx hb hX hbl hbA hJ.vS (sl_in (J := 1) hiv (by decide) (by omega) hL) dL_law_998 ?_
  refine cs_seed (xs (Int32.toNatClampNeg (iv + 1))) C0 hk hl.1 hJ (fun r0 H locs nm nq hJ => ?_)
  refine lv_aload_n hx hb dL_law_1002 rfl (lv_at hl 1 rfl) ?_
  refine lv_aload_n hx hb dL_law_1003 rfl (lv_at hl 3 rfl) ?_
  refine lv_iload_n hx hb dL_law_1004 rfl (lv_at hl 0 rfl) ?_
  refine lv_iconst (v := 1) hx hb dL_law_1005 (by decide) ?_
  refine lv_iadd hx hb dL_law_1006 ?_
  refine va_sld hx hb hX hbl hbA hJ.vS (sl_in (J := 1) hiv (by decide) (by omega) hL) dL_law_1007 ?_
  refine rs_seed (xs (Int32.toNatClampNeg (iv + 1))) C0 (by omega) hl.1 hJ (fun r H locs hJ hr0 => ?_)
  exact T_icmp_eq (tgt := 1138) hx hb dL_law_1011 (by decide) hr0.symm (kk H locs nm nq hJ)
set_option maxHeartbeats 4000000 in
set_option maxRecDepth 100000 in
theorem ca_28 {p : Program} {l : Launch} {e : Env} {s : State} {m : MethodId} {b L : Nat} {xs : Nat → Int32} {below : List Frame} {meth : Method} {cd : Code} {H : Heap} {locs : List Loc} {Q : State → Prop} {ls : Array Slot} {A : Nat → Prop} {D : va_G} {c : Nat → ClassId} {kS vS : Nat} {fS : Nat → Int32} {h0 m0 k nm nq : Nat} {iv : Int32} {T : Nat} (C : CX p s m cd b L xs A D c kS vS fS) (hk : k ≤ 199) (hL : L ≤ 384) (hiv : iv.toInt = (T : Int)) (hT : T + 6 ≤ L) (hl : lv_has ls 4 [(3, .int iv), (2, .ref m0), (1, .ref h0), (0, .ref b)]) (hJ : LQ (LR c) D A s c h0 m0 nm nq H locs) (kk : ∀ (H1 : Heap) (locs1 : List Loc) (nm' nq' : Nat), LQ (LR c) D A s c h0 m0 nm' nq' H1 locs1 → W p l e room_1 s m #[Value.ref b] below meth cd H1 locs1 (100 + 100 * (k + 1 + 1) + (nm' + nq' / 256)) (3160000 + 5000 * (k + 1 + 1) + (2 * nm' + 2 * nq')) Q (F0 m 1138 ls [])) : W p l e room_1 s m #[Value.ref b] below meth cd H locs (100 + 100 * k + (nm + nq / 256)) (3160000 + 5000 * k + (2 * nm + 2 * nq)) Q (F0 m 1016 ls []) := by
  have C0 := C
  obtain ⟨hx, hb, hml, hown, hts, hN, hK, hA, hE, hX, hbl, hbA⟩ := C
  have hk : k ≤ 200 := by omega
  refine lv_aload_n hx hb dL_law_1016 rfl (lv_at hl 2 rfl) ?_
  refine lv_aload_n hx hb dL_law_1017 rfl (lv_at hl 3 rfl) ?_
  refine lv_iload_n hx hb dL_law_1018 rfl (lv_at hl 0 rfl) ?_
  refine lv_iconst (v := 1) hx hb dL_law_1019 (by decide) ?_
  refine lv_iadd hx hb dL_law_1020 ?_
  refine va_sld hx hb hX hbl hbA hJ.vS (sl_in (J := 1) hiv (by decide) (by omega) hL) dL_law_1021 ?_
  refine lv_aload_n hx hb dL_law_1022 rfl (lv_at hl 3 rfl) ?_
  refine lv_iload_n hx hb dL_law_1023 rfl (lv_at hl 0 rfl) ?_
  refine lv_iconst (v := 2) hx hb dL_law_1024 (by decide) ?_
  refine lv_iadd hx hb dL_law_1025 ?_
  refine va_sld hx hb hX hbl hbA hJ.vS (sl_in (J := 2) hiv (by decide) (by omega) hL) dL_law_1026 ?_
  refine lv_aload_n hx hb dL_law_1027 rfl (lv_at hl 3 rfl) ?_
  refine lv_iload_n hx hb dL_law_1028 rfl (lv_at hl 0 rfl) ?_
  refine lv_iconst (v := 3) hx hb dL_law_1029 (by decide) ?_
  refine lv_iadd hx hb dL_law_1030 ?_
  refine va_sld hx hb hX hbl hbA hJ.vS (sl_in (J := 3) hiv (by decide) (by omega) hL) dL_law_1031 ?_
  refine lv_aload_n hx hb dL_law_1032 rfl (lv_at hl 3 rfl) ?_
  refine lv_iload_n hx hb dL_law_1033 rfl (lv_at hl 0 rfl) ?_
  refine lv_iconst (v := 4) hx hb dL_law_1034 (by decide) ?_
  refine lv_iadd hx hb dL_law_1035 ?_
  refine va_sld hx hb hX hbl hbA hJ.vS (sl_in (J := 4) hiv (by decide) (by omega) hL) dL_law_1036 ?_
  refine cs_days (xs (Int32.toNatClampNeg (iv + 1))) (xs (Int32.toNatClampNeg (iv + 2))) (xs (Int32.toNatClampNeg (iv + 3))) (xs (Int32.toNatClampNeg (iv + 4))) C0 hk hl.1 hJ (fun r0 H locs nm nq hJ => ?_)
  refine lv_pop hx hb dL_law_1040 rfl ?_
  refine lv_aload_n hx hb dL_law_1041 rfl (lv_at hl 1 rfl) ?_
  refine lv_aload_n hx hb dL_law_1042 rfl (lv_at hl 3 rfl) ?_
  refine lv_iload_n hx hb dL_law_1043 rfl (lv_at hl 0 rfl) ?_
  refine lv_iconst (v := 1) hx hb dL_law_1044 (by decide) ?_
  refine lv_iadd hx hb dL_law_1045 ?_
  refine va_sld hx hb hX hbl hbA hJ.vS (sl_in (J := 1) hiv (by decide) (by omega) hL) dL_law_1046 ?_
  refine lv_aload_n hx hb dL_law_1047 rfl (lv_at hl 3 rfl) ?_
  refine lv_iload_n hx hb dL_law_1048 rfl (lv_at hl 0 rfl) ?_
  refine lv_iconst (v := 2) hx hb dL_law_1049 (by decide) ?_
  refine lv_iadd hx hb dL_law_1050 ?_
  refine va_sld hx hb hX hbl hbA hJ.vS (sl_in (J := 2) hiv (by decide) (by omega) hL) dL_law_1051 ?_
  refine lv_aload_n hx hb dL_law_1052 rfl (lv_at hl 3 rfl) ?_
  refine lv_iload_n hx hb dL_law_1053 rfl (lv_at hl 0 rfl) ?_
  refine lv_iconst (v := 3) hx hb dL_law_1054 (by decide) ?_
  refine lv_iadd hx hb dL_law_1055 ?_
  refine va_sld hx hb hX hbl hbA hJ.vS (sl_in (J := 3) hiv (by decide) (by omega) hL) dL_law_1056 ?_
  refine lv_aload_n hx hb dL_law_1057 rfl (lv_at hl 3 rfl) ?_
  refine lv_iload_n hx hb dL_law_1058 rfl (lv_at hl 0 rfl) ?_
  refine lv_iconst (v := 4) hx hb dL_law_1059 (by decide) ?_
  refine lv_iadd hx hb dL_law_1060 ?_
  refine va_sld hx hb hX hbl hbA hJ.vS (sl_in (J := 4) hiv (by decide) (by omega) hL) dL_law_1061 ?_
  refine rs_days (xs (Int32.toNatClampNeg (iv + 1))) (xs (Int32.toNatClampNeg (iv + 2))) (xs (Int32.toNatClampNeg (iv + 3))) (xs (Int32.toNatClampNeg (iv + 4))) C0 (by omega) hl.1 hJ (fun r H locs hJ => ?_)
  refine lv_pop hx hb dL_law_1065 rfl ?_
  exact lv_goto (tgt := 1138) hx hb dL_law_1066 (by decide) (kk H locs nm nq hJ)
set_option maxHeartbeats 4000000 in
set_option maxRecDepth 100000 in
theorem ca_29 {p : Program} {l : Launch} {e : Env} {s : State} {m : MethodId} {b L : Nat} {xs : Nat → Int32} {below : List Frame} {meth : Method} {cd : Code} {H : Heap} {locs : List Loc} {Q : State → Prop} {ls : Array Slot} {A : Nat → Prop} {D : va_G} {c : Nat → ClassId} {kS vS : Nat} {fS : Nat → Int32} {h0 m0 k nm nq : Nat} {iv : Int32} {T : Nat} (C : CX p s m cd b L xs A D c kS vS fS) (hk : k ≤ 199) (hL : L ≤ 384) (hiv : iv.toInt = (T : Int)) (hT : T + 6 ≤ L) (hl : lv_has ls 4 [(3, .int iv), (2, .ref m0), (1, .ref h0), (0, .ref b)]) (hJ : LQ (LR c) D A s c h0 m0 nm nq H locs) (kk : ∀ (H1 : Heap) (locs1 : List Loc) (nm' nq' : Nat), LQ (LR c) D A s c h0 m0 nm' nq' H1 locs1 → W p l e room_1 s m #[Value.ref b] below meth cd H1 locs1 (100 + 100 * (k + 1 + 1) + (nm' + nq' / 256)) (3160000 + 5000 * (k + 1 + 1) + (2 * nm' + 2 * nq')) Q (F0 m 1138 ls [])) : W p l e room_1 s m #[Value.ref b] below meth cd H locs (100 + 100 * k + (nm + nq / 256)) (3160000 + 5000 * k + (2 * nm + 2 * nq)) Q (F0 m 1069 ls []) := by
  have C0 := C
  obtain ⟨hx, hb, hml, hown, hts, hN, hK, hA, hE, hX, hbl, hbA⟩ := C
  have hk : k ≤ 200 := by omega
  refine lv_aload_n hx hb dL_law_1069 rfl (lv_at hl 2 rfl) ?_
  refine lv_aload_n hx hb dL_law_1070 rfl (lv_at hl 3 rfl) ?_
  refine lv_iload_n hx hb dL_law_1071 rfl (lv_at hl 0 rfl) ?_
  refine lv_iconst (v := 1) hx hb dL_law_1072 (by decide) ?_
  refine lv_iadd hx hb dL_law_1073 ?_
  refine va_sld hx hb hX hbl hbA hJ.vS (sl_in (J := 1) hiv (by decide) (by omega) hL) dL_law_1074 ?_
  refine cs_count (xs (Int32.toNatClampNeg (iv + 1))) C0 hk hl.1 hJ (fun r0 H locs nm nq hJ => ?_)
  refine lv_pop hx hb dL_law_1078 rfl ?_
  refine lv_aload_n hx hb dL_law_1079 rfl (lv_at hl 1 rfl) ?_
  refine lv_aload_n hx hb dL_law_1080 rfl (lv_at hl 3 rfl) ?_
  refine lv_iload_n hx hb dL_law_1081 rfl (lv_at hl 0 rfl) ?_
  refine lv_iconst (v := 1) hx hb dL_law_1082 (by decide) ?_
  refine lv_iadd hx hb dL_law_1083 ?_
  refine va_sld hx hb hX hbl hbA hJ.vS (sl_in (J := 1) hiv (by decide) (by omega) hL) dL_law_1084 ?_
  refine rs_count (xs (Int32.toNatClampNeg (iv + 1))) C0 (by omega) hl.1 hJ (fun r H locs hJ => ?_)
  refine lv_pop hx hb dL_law_1088 rfl ?_
  exact lv_goto (tgt := 1138) hx hb dL_law_1089 (by decide) (kk H locs nm nq hJ)
set_option maxHeartbeats 4000000 in
set_option maxRecDepth 100000 in
theorem ca_30 {p : Program} {l : Launch} {e : Env} {s : State} {m : MethodId} {b L : Nat} {xs : Nat → Int32} {below : List Frame} {meth : Method} {cd : Code} {H : Heap} {locs : List Loc} {Q : State → Prop} {ls : Array Slot} {A : Nat → Prop} {D : va_G} {c : Nat → ClassId} {kS vS : Nat} {fS : Nat → Int32} {h0 m0 k nm nq : Nat} {iv : Int32} {T : Nat} (C : CX p s m cd b L xs A D c kS vS fS) (hk : k ≤ 199) (hL : L ≤ 384) (hiv : iv.toInt = (T : Int)) (hT : T + 6 ≤ L) (hl : lv_has ls 4 [(3, .int iv), (2, .ref m0), (1, .ref h0), (0, .ref b)]) (hJ : LQ (LR c) D A s c h0 m0 nm nq H locs) (kk : ∀ (H1 : Heap) (locs1 : List Loc) (nm' nq' : Nat), LQ (LR c) D A s c h0 m0 nm' nq' H1 locs1 → W p l e room_1 s m #[Value.ref b] below meth cd H1 locs1 (100 + 100 * (k + 1 + 1) + (nm' + nq' / 256)) (3160000 + 5000 * (k + 1 + 1) + (2 * nm' + 2 * nq')) Q (F0 m 1138 ls [])) : W p l e room_1 s m #[Value.ref b] below meth cd H locs (100 + 100 * k + (nm + nq / 256)) (3160000 + 5000 * k + (2 * nm + 2 * nq)) Q (F0 m 1092 ls []) := by
  have C0 := C
  obtain ⟨hx, hb, hml, hown, hts, hN, hK, hA, hE, hX, hbl, hbA⟩ := C
  have hk : k ≤ 200 := by omega
  refine lv_aload_n hx hb dL_law_1092 rfl (lv_at hl 2 rfl) ?_
  refine lv_aload_n hx hb dL_law_1093 rfl (lv_at hl 3 rfl) ?_
  refine lv_iload_n hx hb dL_law_1094 rfl (lv_at hl 0 rfl) ?_
  refine lv_iconst (v := 1) hx hb dL_law_1095 (by decide) ?_
  refine lv_iadd hx hb dL_law_1096 ?_
  refine va_sld hx hb hX hbl hbA hJ.vS (sl_in (J := 1) hiv (by decide) (by omega) hL) dL_law_1097 ?_
  refine cs_image (xs (Int32.toNatClampNeg (iv + 1))) C0 hk hl.1 hJ (fun r0 H locs nm nq hJ => ?_)
  refine lv_pop hx hb dL_law_1101 rfl ?_
  refine lv_aload_n hx hb dL_law_1102 rfl (lv_at hl 1 rfl) ?_
  refine lv_aload_n hx hb dL_law_1103 rfl (lv_at hl 3 rfl) ?_
  refine lv_iload_n hx hb dL_law_1104 rfl (lv_at hl 0 rfl) ?_
  refine lv_iconst (v := 1) hx hb dL_law_1105 (by decide) ?_
  refine lv_iadd hx hb dL_law_1106 ?_
  refine va_sld hx hb hX hbl hbA hJ.vS (sl_in (J := 1) hiv (by decide) (by omega) hL) dL_law_1107 ?_
  refine rs_image (xs (Int32.toNatClampNeg (iv + 1))) C0 (by omega) hl.1 hJ (fun r H locs hJ => ?_)
  refine lv_pop hx hb dL_law_1111 rfl ?_
  exact lv_goto (tgt := 1138) hx hb dL_law_1112 (by decide) (kk H locs nm nq hJ)
set_option maxHeartbeats 4000000 in
set_option maxRecDepth 100000 in
theorem ca_31 {p : Program} {l : Launch} {e : Env} {s : State} {m : MethodId} {b L : Nat} {xs : Nat → Int32} {below : List Frame} {meth : Method} {cd : Code} {H : Heap} {locs : List Loc} {Q : State → Prop} {ls : Array Slot} {A : Nat → Prop} {D : va_G} {c : Nat → ClassId} {kS vS : Nat} {fS : Nat → Int32} {h0 m0 k nm nq : Nat} {iv : Int32} {T : Nat} (C : CX p s m cd b L xs A D c kS vS fS) (hk : k ≤ 199) (hL : L ≤ 384) (hiv : iv.toInt = (T : Int)) (hT : T + 6 ≤ L) (hl : lv_has ls 4 [(3, .int iv), (2, .ref m0), (1, .ref h0), (0, .ref b)]) (hJ : LQ (LR c) D A s c h0 m0 nm nq H locs) (kk : ∀ (H1 : Heap) (locs1 : List Loc) (nm' nq' : Nat), LQ (LR c) D A s c h0 m0 nm' nq' H1 locs1 → W p l e room_1 s m #[Value.ref b] below meth cd H1 locs1 (100 + 100 * (k + 1 + 1) + (nm' + nq' / 256)) (3160000 + 5000 * (k + 1 + 1) + (2 * nm' + 2 * nq')) Q (F0 m 1138 ls [])) : W p l e room_1 s m #[Value.ref b] below meth cd H locs (100 + 100 * k + (nm + nq / 256)) (3160000 + 5000 * k + (2 * nm + 2 * nq)) Q (F0 m 1115 ls []) := by
  have C0 := C
  obtain ⟨hx, hb, hml, hown, hts, hN, hK, hA, hE, hX, hbl, hbA⟩ := C
  have hk : k ≤ 200 := by omega
  refine lv_aload_n hx hb dL_law_1115 rfl (lv_at hl 2 rfl) ?_
  refine lv_aload_n hx hb dL_law_1116 rfl (lv_at hl 3 rfl) ?_
  refine lv_iload_n hx hb dL_law_1117 rfl (lv_at hl 0 rfl) ?_
  refine lv_iconst (v := 1) hx hb dL_law_1118 (by decide) ?_
  refine lv_iadd hx hb dL_law_1119 ?_
  refine va_sld hx hb hX hbl hbA hJ.vS (sl_in (J := 1) hiv (by decide) (by omega) hL) dL_law_1120 ?_
  refine cs_back (xs (Int32.toNatClampNeg (iv + 1))) C0 hk hl.1 hJ (fun r0 H locs nm nq hJ => ?_)
  refine lv_pop hx hb dL_law_1124 rfl ?_
  refine lv_aload_n hx hb dL_law_1125 rfl (lv_at hl 1 rfl) ?_
  refine lv_aload_n hx hb dL_law_1126 rfl (lv_at hl 3 rfl) ?_
  refine lv_iload_n hx hb dL_law_1127 rfl (lv_at hl 0 rfl) ?_
  refine lv_iconst (v := 1) hx hb dL_law_1128 (by decide) ?_
  refine lv_iadd hx hb dL_law_1129 ?_
  refine va_sld hx hb hX hbl hbA hJ.vS (sl_in (J := 1) hiv (by decide) (by omega) hL) dL_law_1130 ?_
  refine rs_back (xs (Int32.toNatClampNeg (iv + 1))) C0 (by omega) hl.1 hJ (fun r H locs hJ => ?_)
  refine lv_pop hx hb dL_law_1134 rfl ?_
  exact lv_goto (tgt := 1138) hx hb dL_law_1135 (by decide) (kk H locs nm nq hJ)
