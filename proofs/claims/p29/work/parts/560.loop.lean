theorem sl_len {L : Nat} (hL : L ≤ 384) : (Int32.ofNat L - 6 : Int32).toInt = (L : Int) - 6 := by
  have h1 : (Int32.ofNat L).toInt = (L : Int) := nI_toInt (by omega)
  exact sb_int h1 (by decide) (by omega) (by omega)
set_option maxHeartbeats 4000000 in
set_option maxRecDepth 100000 in
theorem law_exit {p : Program} {l : Launch} {e : Env} {s : State} {m : MethodId} {b L : Nat} {xs : Nat → Int32} {below : List Frame} {meth : Method} {cd : Code} {A : Nat → Prop} {D : va_G} {c : Nat → ClassId} {kS vS : Nat} {fS : Nat → Int32} {h0 m0 : Nat} {H : Heap} {locs : List Loc} {ls : Array Slot} {nm nq k T : Nat} {iv : Int32} (C : CX p s m cd b L xs A D c kS vS fS) (hL : L ≤ 384) (hr : meth.sig.returnType = ret) (hlocks : meth.locks = false) (hA2 : ∀ q : Nat, A q → s.heap.size ≤ q) (hk : k ≤ 200) (hc : ¬ T + 6 ≤ L) (hiv : iv.toInt = (T : Int)) (hl : lv_has ls 4 [(3, .int iv), (2, .ref m0), (1, .ref h0), (0, .ref b)]) (hJ : LQ (LR c) D A s c h0 m0 nm nq H locs) : W p l e room_1 s m #[Value.ref b] below meth cd H locs (100 + 100 * k + (nm + nq / 256)) (3160000 + 5000 * k + (2 * nm + 2 * nq)) (lw_Z below #[Value.ref b] s) (F0 m 18 ls []) := by
  obtain ⟨hx, hb, hml, hown, hts, hN, hK, hA, hE, hX, hbl, hbA⟩ := C
  have hS := hJ.vS
  have hn := hJ.nm
  refine lv_iload_n hx hb dL_law_18 rfl (lv_at hl 0 rfl) ?_
  refine lv_aload_n hx hb dL_law_19 rfl (lv_at hl 3 rfl) ?_
  refine va_slen hx hb hX hbl hbA hS dL_law_20 ?_
  refine lv_bipush (v := 6) hx hb dL_law_21 (by decide) ?_
  refine lv_isub hx hb dL_law_23 ?_
  refine T_icmp_gt (tgt := 1144) hx hb dL_law_24 (by decide) (by rw [Int32.lt_iff_toInt_lt, sl_len hL, hiv]; omega) ?_
  refine lv_iconst (v := 1) hx hb dL_law_1144 (by decide) ?_
  refine va_forget (fun q hq => hA2 _ (hS.2.2 q hq)) ?_
  refine W.widen (k := 600000) (n := 7302249) (by omega) (by omega) ?_
  exact lw_ret hx hb hr hlocks dL_law_1145
set_option maxHeartbeats 4000000 in
set_option maxRecDepth 100000 in
theorem law_go {p : Program} {l : Launch} {e : Env} {s : State} {m : MethodId} {b L : Nat} {xs : Nat → Int32} {below : List Frame} {meth : Method} {cd : Code} {A : Nat → Prop} {D : va_G} {c : Nat → ClassId} {kS vS : Nat} {fS : Nat → Int32} {h0 m0 : Nat} {H : Heap} {locs : List Loc} {ls : Array Slot} {nm nq k T : Nat} {iv : Int32} {Q : State → Prop} (C : CX p s m cd b L xs A D c kS vS fS) (hL : L ≤ 384) (hk : k ≤ 199) (hT : T + 6 ≤ L) (hiv : iv.toInt = (T : Int)) (hl : lv_has ls 4 [(3, .int iv), (2, .ref m0), (1, .ref h0), (0, .ref b)]) (hJ : LQ (LR c) D A s c h0 m0 nm nq H locs) (kk : ∀ (H1 : Heap) (locs1 : List Loc) (nm' nq' : Nat), LQ (LR c) D A s c h0 m0 nm' nq' H1 locs1 → W p l e room_1 s m #[Value.ref b] below meth cd H1 locs1 (100 + 100 * (k + 1 + 1) + (nm' + nq' / 256)) (3160000 + 5000 * (k + 1 + 1) + (2 * nm' + 2 * nq')) Q (F0 m 1138 ls [])) : W p l e room_1 s m #[Value.ref b] below meth cd H locs (100 + 100 * k + (nm + nq / 256)) (3160000 + 5000 * k + (2 * nm + 2 * nq)) Q (F0 m 18 ls []) := by
  have C' := C
  obtain ⟨hx, hb, hml, hown, hts, hN, hK, hA, hE, hX, hbl, hbA⟩ := C
  have hS := hJ.vS
  refine lv_iload_n hx hb dL_law_18 rfl (lv_at hl 0 rfl) ?_
  refine lv_aload_n hx hb dL_law_19 rfl (lv_at hl 3 rfl) ?_
  refine va_slen hx hb hX hbl hbA hS dL_law_20 ?_
  refine lv_bipush (v := 6) hx hb dL_law_21 (by decide) ?_
  refine lv_isub hx hb dL_law_23 ?_
  refine F_icmp_gt hx hb 1144 dL_law_24 (by decide) (by rw [Int32.lt_iff_toInt_lt, sl_len hL, hiv]; omega) ?_
  refine lv_aload_n hx hb dL_law_27 rfl (lv_at hl 3 rfl) ?_
  refine lv_iload_n hx hb dL_law_28 rfl (lv_at hl 0 rfl) ?_
  refine va_sld hx hb hX hbl hbA hS (sl_in0 hiv (by omega) hL) dL_law_29 ?_
  refine lv_bipush (v := 31) hx hb dL_law_30 (by decide) ?_
  refine lv_iand hx hb dL_law_32 ?_
  obtain ⟨j, hj, ej⟩ := pk_andE (xs (Int32.toNatClampNeg iv)) (m := 31) 5 (by decide)
  have hj : j < 32 := hj
  rcases (show j = 0 ∨ j = 1 ∨ j = 2 ∨ j = 3 ∨ j = 4 ∨ j = 5 ∨ j = 6 ∨ j = 7 ∨ j = 8 ∨ j = 9 ∨ j = 10 ∨ j = 11 ∨ j = 12 ∨ j = 13 ∨ j = 14 ∨ j = 15 ∨ j = 16 ∨ j = 17 ∨ j = 18 ∨ j = 19 ∨ j = 20 ∨ j = 21 ∨ j = 22 ∨ j = 23 ∨ j = 24 ∨ j = 25 ∨ j = 26 ∨ j = 27 ∨ j = 28 ∨ j = 29 ∨ j = 30 ∨ j = 31 by omega) with rfl | rfl | rfl | rfl | rfl | rfl | rfl | rfl | rfl | rfl | rfl | rfl | rfl | rfl | rfl | rfl | rfl | rfl | rfl | rfl | rfl | rfl | rfl | rfl | rfl | rfl | rfl | rfl | rfl | rfl | rfl | rfl
  · refine tpi 0 (by rw [ej]; decide) ?_
    exact lv_tableIn (tgt := 176) hx hb dL_law_33 (by decide) (by decide) rfl (by decide) (ca_0 C' hk hL hiv hT hl hJ kk)
  · refine tpi 1 (by rw [ej]; decide) ?_
    exact lv_tableIn (tgt := 239) hx hb dL_law_33 (by decide) (by decide) rfl (by decide) (ca_1 C' hk hL hiv hT hl hJ kk)
  · refine tpi 2 (by rw [ej]; decide) ?_
    exact lv_tableIn (tgt := 262) hx hb dL_law_33 (by decide) (by decide) rfl (by decide) (ca_2 C' hk hL hiv hT hl hJ kk)
  · refine tpi 3 (by rw [ej]; decide) ?_
    exact lv_tableIn (tgt := 275) hx hb dL_law_33 (by decide) (by decide) rfl (by decide) (ca_3 C' hk hL hiv hT hl hJ kk)
  · refine tpi 4 (by rw [ej]; decide) ?_
    exact lv_tableIn (tgt := 288) hx hb dL_law_33 (by decide) (by decide) rfl (by decide) (ca_4 C' hk hL hiv hT hl hJ kk)
  · refine tpi 5 (by rw [ej]; decide) ?_
    exact lv_tableIn (tgt := 321) hx hb dL_law_33 (by decide) (by decide) rfl (by decide) (ca_5 C' hk hL hiv hT hl hJ kk)
  · refine tpi 6 (by rw [ej]; decide) ?_
    exact lv_tableIn (tgt := 354) hx hb dL_law_33 (by decide) (by decide) rfl (by decide) (ca_6 C' hk hL hiv hT hl hJ kk)
  · refine tpi 7 (by rw [ej]; decide) ?_
    exact lv_tableIn (tgt := 387) hx hb dL_law_33 (by decide) (by decide) rfl (by decide) (ca_7 C' hk hL hiv hT hl hJ kk)
  · refine tpi 8 (by rw [ej]; decide) ?_
    exact lv_tableIn (tgt := 420) hx hb dL_law_33 (by decide) (by decide) rfl (by decide) (ca_8 C' hk hL hiv hT hl hJ kk)
  · refine tpi 9 (by rw [ej]; decide) ?_
    exact lv_tableIn (tgt := 453) hx hb dL_law_33 (by decide) (by decide) rfl (by decide) (ca_9 C' hk hL hiv hT hl hJ kk)
  · refine tpi 10 (by rw [ej]; decide) ?_
    exact lv_tableIn (tgt := 476) hx hb dL_law_33 (by decide) (by decide) rfl (by decide) (ca_10 C' hk hL hiv hT hl hJ kk)
  · refine tpi 11 (by rw [ej]; decide) ?_
    exact lv_tableIn (tgt := 499) hx hb dL_law_33 (by decide) (by decide) rfl (by decide) (ca_11 C' hk hL hiv hT hl hJ kk)
  · refine tpi 12 (by rw [ej]; decide) ?_
    exact lv_tableIn (tgt := 532) hx hb dL_law_33 (by decide) (by decide) rfl (by decide) (ca_12 C' hk hL hiv hT hl hJ kk)
  · refine tpi 13 (by rw [ej]; decide) ?_
    exact lv_tableIn (tgt := 565) hx hb dL_law_33 (by decide) (by decide) rfl (by decide) (ca_13 C' hk hL hiv hT hl hJ kk)
  · refine tpi 14 (by rw [ej]; decide) ?_
    exact lv_tableIn (tgt := 598) hx hb dL_law_33 (by decide) (by decide) rfl (by decide) (ca_14 C' hk hL hiv hT hl hJ kk)
  · refine tpi 15 (by rw [ej]; decide) ?_
    exact lv_tableIn (tgt := 611) hx hb dL_law_33 (by decide) (by decide) rfl (by decide) (ca_15 C' hk hL hiv hT hl hJ kk)
  · refine tpi 16 (by rw [ej]; decide) ?_
    exact lv_tableIn (tgt := 634) hx hb dL_law_33 (by decide) (by decide) rfl (by decide) (ca_16 C' hk hL hiv hT hl hJ kk)
  · refine tpi 17 (by rw [ej]; decide) ?_
    exact lv_tableIn (tgt := 693) hx hb dL_law_33 (by decide) (by decide) rfl (by decide) (ca_17 C' hk hL hiv hT hl hJ kk)
  · refine tpi 18 (by rw [ej]; decide) ?_
    exact lv_tableIn (tgt := 736) hx hb dL_law_33 (by decide) (by decide) rfl (by decide) (ca_18 C' hk hL hiv hT hl hJ kk)
  · refine tpi 19 (by rw [ej]; decide) ?_
    exact lv_tableIn (tgt := 759) hx hb dL_law_33 (by decide) (by decide) rfl (by decide) (ca_19 C' hk hL hiv hT hl hJ kk)
  · refine tpi 20 (by rw [ej]; decide) ?_
    exact lv_tableIn (tgt := 792) hx hb dL_law_33 (by decide) (by decide) rfl (by decide) (ca_20 C' hk hL hiv hT hl hJ kk)
  · refine tpi 21 (by rw [ej]; decide) ?_
    exact lv_tableIn (tgt := 825) hx hb dL_law_33 (by decide) (by decide) rfl (by decide) (ca_21 C' hk hL hiv hT hl hJ kk)
  · refine tpi 22 (by rw [ej]; decide) ?_
    exact lv_tableIn (tgt := 838) hx hb dL_law_33 (by decide) (by decide) rfl (by decide) (ca_22 C' hk hL hiv hT hl hJ kk)
  · refine tpi 23 (by rw [ej]; decide) ?_
    exact lv_tableIn (tgt := 861) hx hb dL_law_33 (by decide) (by decide) rfl (by decide) (ca_23 C' hk hL hiv hT hl hJ kk)
  · refine tpi 24 (by rw [ej]; decide) ?_
    exact lv_tableIn (tgt := 894) hx hb dL_law_33 (by decide) (by decide) rfl (by decide) (ca_24 C' hk hL hiv hT hl hJ kk)
  · refine tpi 25 (by rw [ej]; decide) ?_
    exact lv_tableIn (tgt := 937) hx hb dL_law_33 (by decide) (by decide) rfl (by decide) (ca_25 C' hk hL hiv hT hl hJ kk)
  · refine tpi 26 (by rw [ej]; decide) ?_
    exact lv_tableIn (tgt := 960) hx hb dL_law_33 (by decide) (by decide) rfl (by decide) (ca_26 C' hk hL hiv hT hl hJ kk)
  · refine tpi 27 (by rw [ej]; decide) ?_
    exact lv_tableIn (tgt := 993) hx hb dL_law_33 (by decide) (by decide) rfl (by decide) (ca_27 C' hk hL hiv hT hl hJ kk)
  · refine tpi 28 (by rw [ej]; decide) ?_
    exact lv_tableIn (tgt := 1016) hx hb dL_law_33 (by decide) (by decide) rfl (by decide) (ca_28 C' hk hL hiv hT hl hJ kk)
  · refine tpi 29 (by rw [ej]; decide) ?_
    exact lv_tableIn (tgt := 1069) hx hb dL_law_33 (by decide) (by decide) rfl (by decide) (ca_29 C' hk hL hiv hT hl hJ kk)
  · refine tpi 30 (by rw [ej]; decide) ?_
    exact lv_tableIn (tgt := 1092) hx hb dL_law_33 (by decide) (by decide) rfl (by decide) (ca_30 C' hk hL hiv hT hl hJ kk)
  · refine tpi 31 (by rw [ej]; decide) ?_
    exact lv_tableIn (tgt := 1115) hx hb dL_law_33 (by decide) (by decide) rfl (by decide) (ca_31 C' hk hL hiv hT hl hJ kk)
set_option maxHeartbeats 4000000 in
set_option maxRecDepth 100000 in
theorem law_loop {p : Program} {l : Launch} {e : Env} {s : State} {m : MethodId} {b L : Nat} {xs : Nat → Int32} {below : List Frame} {meth : Method} {cd : Code} {A : Nat → Prop} {D : va_G} {c : Nat → ClassId} {kS vS : Nat} {fS : Nat → Int32} {h0 m0 : Nat} (C : CX p s m cd b L xs A D c kS vS fS) (hL : L ≤ 384) (hr : meth.sig.returnType = ret) (hlocks : meth.locks = false) (hA2 : ∀ q : Nat, A q → s.heap.size ≤ q) : ∀ (f t : Nat) (H : Heap) (locs : List Loc) (ls : Array Slot) (nm nq : Nat) (iv : Int32), t + f = 65 → iv.toInt = ((6 * t : Nat) : Int) → lv_has ls 4 [(3, .int iv), (2, .ref m0), (1, .ref h0), (0, .ref b)] → LQ (LR c) D A s c h0 m0 nm nq H locs → W p l e room_1 s m #[Value.ref b] below meth cd H locs (100 + 100 * (2 * t) + (nm + nq / 256)) (3160000 + 5000 * (2 * t) + (2 * nm + 2 * nq)) (lw_Z below #[Value.ref b] s) (F0 m 18 ls [])
  | 0, t, H, locs, ls, nm, nq, iv, ht, hiv, hl, hJ => law_exit C hL hr hlocks hA2 (by omega) (by omega) hiv hl hJ
  | f + 1, t, H, locs, ls, nm, nq, iv, ht, hiv, hl, hJ => by
    by_cases hc : 6 * t + 6 ≤ L
    · refine law_go C hL (by omega) hc hiv hl hJ (fun H1 locs1 nm' nq' hJ1 => ?_)
      have hx := C.1
      have hb := C.2.1
      have h6 : (iv + Int32.ofInt 6).toInt = ((6 * (t + 1) : Nat) : Int) := by
        have h := ad_int (b := Int32.ofInt 6) (B := 6) hiv (by decide) (by omega) (by omega)
        omega
      refine lv_iinc (v := iv + Int32.ofInt 6) (lv' := [(3, .int (iv + Int32.ofInt 6)), (2, .ref m0), (1, .ref h0), (0, .ref b)]) hx hb dL_law_1138 hl (k := 0) rfl rfl (by decide) rfl (fun ls hl => ?_)
      refine lv_goto (tgt := 18) hx hb dL_law_1141 (by decide) ?_
      have h := law_loop (l := l) (e := e) (below := below) C hL hr hlocks hA2 f (t + 1) H1 locs1 ls nm' nq' _ (by omega) h6 hl hJ1
      rw [show 2 * (t + 1) = 2 * t + 1 + 1 by omega] at h
      exact h
    · exact law_exit C hL hr hlocks hA2 (by omega) hc hiv hl hJ
