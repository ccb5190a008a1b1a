set_option maxHeartbeats 4000000 in
set_option maxRecDepth 100000 in
theorem m_X9_put (l : Launch) (D : va_G) (c : Nat → ClassId) (h0 h1 : Nat) (sz : Nat) (v1 : Int32) (v2 : Int32) (v3 : Int32) (v4 : Int32) (v5 : Int32) (f10 : Nat → Int32) (a1 : Int32) (gv1 : 0 ≤ v1.toInt ∧ v1.toInt ≤ 400) (gv2 : 0 ≤ v2.toInt ∧ v2.toInt ≤ 400) (gv4 : 0 ≤ v4.toInt ∧ v4.toInt ≤ 99999) (gv5 : 0 ≤ v5.toInt ∧ v5.toInt ≤ 400) (gf10 : Rg f10 0 255) : Met l yX9_put (Cond.code yX9_put cX9_put 3 none :: TB) ({ frames := 0, cells := 0, slots := 0, locals := 0 } : Room) (va_Pc [.ref h0, .int a1] (PW D c [(h0, .inr (8, [.ref h1, .int v1, .int v2, .int v3, .int v4, .int v5])), (h1, .inl (c 0, 400, .inl f10))] sz)) ((QV (fun A t => ∃ (z900 : Int32) (f901 : Nat → Int32), (0 ≤ z900.toInt ∧ z900.toInt ≤ 400) ∧ (Rg f901 0 255) ∧ va_P D vwCl [(h0, .inr (8, [.ref h1, .int z900, .int v2, .int v3, .int v4, .int v5])), (h1, .inl (c 0, 400, .inl f901))] t.heap ∧ va_D A [(h0, .inr (8, [.ref h1, .int z900, .int v2, .int v3, .int v4, .int v5])), (h1, .inl (c 0, 400, .inl f901))])) (va_A [(h0, .inr (8, [.ref h1, .int v1, .int v2, .int v3, .int v4, .int v5])), (h1, .inl (c 0, 400, .inl f10))] sz)) 0 0 (va_A [(h0, .inr (8, [.ref h1, .int v1, .int v2, .int v3, .int v4, .int v5])), (h1, .inl (c 0, 400, .inl f10))] sz) := by
  refine start2 (by decide +kernel) (Nat.le_of_ble_eq_true rfl) ?_
  intro p e s m below meth cd A ls Q hx hb hr hml hts hown hlocks hin hA hS hK hP hD hN hl hQ
  have hown : s.vm.findClass RX9 = some m.cls := hown
  have hl : lv_has ls 3 [(0, .ref h0), (1, .int a1)] := hl
  have hP : va_P D vwCl [(h0, .inr (8, [.ref h1, .int v1, .int v2, .int v3, .int v4, .int v5])), (h1, .inl (c 0, 400, .inl f10))] s.heap := hP
  refine lv_bipush (v := 24) hx hb dX9_put_0 (by decide) ?_
  refine lv_istore_n (lv' := [(2, .int 24), (0, .ref h0), (1, .int a1)]) hx hb dX9_put_2 rfl hl (by decide) rfl (fun ls hl => ?_)
  have lp1 : ∀ (n1 : Nat), ∀ (x1057 : Int32) (hx1057 : (-8) ≤ x1057.toInt ∧ x1057.toInt ≤ 24) (x1058 : Int32) (hx1058 : 0 ≤ x1058.toInt ∧ x1058.toInt ≤ 400) (f1059 : Nat → Int32) (hf1059 : Rg f1059 0 255) (hm1 : (x1057.toInt : Int) - (-8) < (n1 : Int)) (H : Heap) (locs : List Loc) (hP : va_P D vwCl [(h0, .inr (8, [.ref h1, .int x1058, .int v2, .int v3, .int v4, .int v5])), (h1, .inl (c 0, 400, .inl f1059))] H) (hD : va_D A [(h0, .inr (8, [.ref h1, .int x1058, .int v2, .int v3, .int v4, .int v5])), (h1, .inl (c 0, 400, .inl f1059))]) (hS : va_S A s.heap H locs) (ls : Array Slot) (hl : lv_has ls 3 [(2, .int x1057), (0, .ref h0), (1, .int a1)]), W p l e ({ frames := 0, cells := 0, slots := 0, locals := 0 } : Room) s m [.ref h0, .int a1].toArray below meth cd H locs 0 0 Q (F0 m 3 ls []) := by
    intro n1
    induction n1 with
    | zero =>
      intro x1057 hx1057 x1058 hx1058 f1059 hf1059 hm1 H locs hP hD hS ls hl
      exact absurd hm1 (by omega)
    | succ n1 ih1 =>
      intro x1057 hx1057 x1058 hx1058 f1059 hf1059 hm1 H locs hP hD hS ls hl
      refine lv_iload_n hx hb dX9_put_3 rfl (lv_at hl 0 rfl) ?_
      refine B_if_lt (tgt := 49) (X := x1057.toInt) hx hb dX9_put_4 (by decide) rfl (fun hc1067 => ?_) (fun hc1067 => ?_)
      · exact rV hQ hx hb hr hlocks hS (Nat.le_of_ble_eq_true rfl) (Nat.le_of_ble_eq_true rfl) dX9_put_49 (fun t ht => ⟨x1058, f1059, hx1058, hf1059, by rw [ht]; exact hP, hD⟩)
      · refine lv_aload_n hx hb dX9_put_7 rfl (lv_at hl 1 rfl) ?_
        refine va_get (D := D) (ci := 8) (v := .int x1058) (C := RX9) (T := TX9) (N := 6) hx hb hts i_X9 hown hK hP 0 rfl rfl 1 (by decide) (hts _ kw_149) (fun _ h9 => h9) rfl dX9_put_8 ?_
        refine lv_sipush (v := 400) hx hb dX9_put_11 (by decide) ?_
        refine B_icmp_ge (tgt := 49) (X := x1058.toInt) (Y := 400) hx hb dX9_put_14 (by decide) rfl (by decide) (fun hc1068 => ?_) (fun hc1068 => ?_)
        · exact rV hQ hx hb hr hlocks hS (Nat.le_of_ble_eq_true rfl) (Nat.le_of_ble_eq_true rfl) dX9_put_49 (fun t ht => ⟨x1058, f1059, hx1058, hf1059, by rw [ht]; exact hP, hD⟩)
        · refine lv_aload_n hx hb dX9_put_17 rfl (lv_at hl 1 rfl) ?_
          refine va_get (D := D) (ci := 8) (v := .ref h1) (C := RX9) (T := TX9) (N := 6) hx hb hts i_X9 hown hK hP 0 rfl rfl 0 (by decide) (hts _ kw_147) (fun _ h9 => h9) rfl dX9_put_18 ?_
          refine lv_aload_n hx hb dX9_put_21 rfl (lv_at hl 1 rfl) ?_
          refine va_get (D := D) (ci := 8) (v := .int x1058) (C := RX9) (T := TX9) (N := 6) hx hb hts i_X9 hown hK hP 0 rfl rfl 1 (by decide) (hts _ kw_149) (fun _ h9 => h9) rfl dX9_put_22 ?_
          refine lv_iload_n hx hb dX9_put_25 rfl (lv_at hl 2 rfl) ?_
          refine lv_iload_n hx hb dX9_put_26 rfl (lv_at hl 0 rfl) ?_
          refine lv_ishr hx hb dX9_put_27 ?_
          refine o_any (fun z1069 ez1069 => ?_)
          refine lv_sipush (v := 255) hx hb dX9_put_28 (by decide) ?_
          refine lv_iand hx hb dX9_put_31 ?_
          refine q_mask (X := z1069.toInt) (M := 256) 8 rfl (by decide) (by decide) (by decide) (fun z1070 ez1070 hz1070 => ?_)
          refine va_iast hx hb hK hP hD hS 1 0 rfl rfl (in_of (by omega) (by omega)) dX9_put_32 (fun H locs hP hD hS => ?_)
          obtain ⟨f1071, ef1071, hf1071, hP, hD⟩ : ∃ y : Nat → Int32, y = upd f1059 (Int32.toNatClampNeg x1058) z1070 ∧ Rg y 0 255 ∧ va_P D vwCl [(h0, .inr (8, [.ref h1, .int x1058, .int v2, .int v3, .int v4, .int v5])), (h1, .inl (c 0, 400, .inl y))] H ∧ va_D A [(h0, .inr (8, [.ref h1, .int x1058, .int v2, .int v3, .int v4, .int v5])), (h1, .inl (c 0, 400, .inl y))] := ⟨_, rfl, (Rg.upd hf1059 (by omega) (by omega)), hP, hD⟩
          refine lv_aload_n hx hb dX9_put_33 rfl (lv_at hl 1 rfl) ?_
          refine lv_dup hx hb dX9_put_34 rfl ?_
          refine va_get (D := D) (ci := 8) (v := .int x1058) (C := RX9) (T := TX9) (N := 6) hx hb hts i_X9 hown hK hP 0 rfl rfl 1 (by decide) (hts _ kw_149) (fun _ h9 => h9) rfl dX9_put_35 ?_
          refine lv_iconst (v := 1) hx hb dX9_put_38 (by decide) ?_
          refine lv_iadd hx hb dX9_put_39 ?_
          refine q_add (X := x1058.toInt) (Y := 1) rfl (by decide) (by omega) (by omega) (fun z1072 ez1072 hz1072 => ?_)
          refine va_put (D := D) (ci := 8) (v := .int z1072) (ty := .int) (C := RX9) (T := TX9) (N := 6) hx hb hts i_X9 tyX9 tyX9_ok nmX9 hown hK hP hD hS 0 rfl rfl 1 (by decide) (hts _ kw_149) (fun _ h9 => h9) rfl (tyX9_ok 1 (by decide)) rfl rfl (Nat.le_of_ble_eq_true rfl) dX9_put_40 (fun H locs hP hD hS => ?_)
          have hP : va_P D vwCl [(h0, .inr (8, [.ref h1, .int z1072, .int v2, .int v3, .int v4, .int v5])), (h1, .inl (c 0, 400, .inl f1071))] H := hP
          have hD : va_D A [(h0, .inr (8, [.ref h1, .int z1072, .int v2, .int v3, .int v4, .int v5])), (h1, .inl (c 0, 400, .inl f1071))] := hD
          obtain ⟨z1073, ez1073, hz1073⟩ : ∃ y : Int32, y = x1057 + Int32.ofInt (-8) ∧ y.toInt = x1057.toInt + (-8) := ⟨_, rfl, ad_int (A := x1057.toInt) (B := (-8)) rfl (by decide) (by omega) (by omega)⟩
          refine lv_iinc (v := z1073) (lv' := [(2, .int z1073), (0, .ref h0), (1, .int a1)]) hx hb dX9_put_43 hl (k := 0) rfl ez1073.symm (by decide) rfl (fun ls hl => ?_)
          refine lv_goto (tgt := 3) hx hb dX9_put_46 (by decide) ?_
          exact ih1 z1073 ⟨by omega, by omega⟩ z1072 ⟨by omega, by omega⟩ f1071 hf1071 (by omega) H locs hP hD hS ls (lv_sub hl [0, 1, 2] rfl)
  have hk0 : (24 : Int32).toInt = 24 := by decide
  exact lp1 (((24 : Int) - (-8)).toNat + 1) 24 (by decide) v1 gv1 f10 gf10 (by omega) s.heap [] hP hD hS ls (lv_sub hl [0, 1, 2] rfl)
set_option maxHeartbeats 4000000 in
set_option maxRecDepth 100000 in
theorem m_X9_begin (l : Launch) (D : va_G) (c : Nat → ClassId) (h0 : Nat) (sz : Nat) (u6 : Value) (v1 : Int32) (v2 : Int32) (v3 : Int32) (v4 : Int32) (v5 : Int32) (gv1 : 0 ≤ v1.toInt ∧ v1.toInt ≤ 400) (gv2 : 0 ≤ v2.toInt ∧ v2.toInt ≤ 400) (gv4 : 0 ≤ v4.toInt ∧ v4.toInt ≤ 99999) (gv5 : 0 ≤ v5.toInt ∧ v5.toInt ≤ 400) : Met l yX9_begin (Cond.code yX9_begin cX9_begin 1 none :: TB) ({ frames := 0, cells := 0, slots := 0, locals := 0 } : Room) (va_Pc [.ref h0] (PW D c [(h0, .inr (8, [u6, .int v1, .int v2, .int v3, .int v4, .int v5]))] sz)) ((QV (fun A t => va_P D vwCl [(h0, .inr (8, [u6, .int v1, .int 0, .int 0, .int v4, .int v5]))] t.heap ∧ va_D A [(h0, .inr (8, [u6, .int v1, .int 0, .int 0, .int v4, .int v5]))])) (va_A [(h0, .inr (8, [u6, .int v1, .int v2, .int v3, .int v4, .int v5]))] sz)) 0 0 (va_A [(h0, .inr (8, [u6, .int v1, .int v2, .int v3, .int v4, .int v5]))] sz) := by
  refine start2 (by decide +kernel) (Nat.le_of_ble_eq_true rfl) ?_
  intro p e s m below meth cd A ls Q hx hb hr hml hts hown hlocks hin hA hS hK hP hD hN hl hQ
  have hown : s.vm.findClass RX9 = some m.cls := hown
  have hl : lv_has ls 1 [(0, .ref h0)] := hl
  have hP : va_P D vwCl [(h0, .inr (8, [u6, .int v1, .int v2, .int v3, .int v4, .int v5]))] s.heap := hP
  refine lv_aload_n hx hb dX9_begin_0 rfl (lv_at hl 0 rfl) ?_
  refine lv_iconst (v := 0) hx hb dX9_begin_1 (by decide) ?_
  refine va_put (D := D) (ci := 8) (v := .int 0) (ty := .int) (C := RX9) (T := TX9) (N := 6) hx hb hts i_X9 tyX9 tyX9_ok nmX9 hown hK hP hD hS 0 rfl rfl 2 (by decide) (hts _ kw_152) (fun _ h9 => h9) rfl (tyX9_ok 2 (by decide)) rfl rfl (Nat.le_of_ble_eq_true rfl) dX9_begin_2 (fun H locs hP hD hS => ?_)
  have hP : va_P D vwCl [(h0, .inr (8, [u6, .int v1, .int 0, .int v3, .int v4, .int v5]))] H := hP
  have hD : va_D A [(h0, .inr (8, [u6, .int v1, .int 0, .int v3, .int v4, .int v5]))] := hD
  refine lv_aload_n hx hb dX9_begin_5 rfl (lv_at hl 0 rfl) ?_
  refine lv_iconst (v := 0) hx hb dX9_begin_6 (by decide) ?_
  refine va_put (D := D) (ci := 8) (v := .int 0) (ty := .int) (C := RX9) (T := TX9) (N := 6) hx hb hts i_X9 tyX9 tyX9_ok nmX9 hown hK hP hD hS 0 rfl rfl 3 (by decide) (hts _ kw_155) (fun _ h9 => h9) rfl (tyX9_ok 3 (by decide)) rfl rfl (Nat.le_of_ble_eq_true rfl) dX9_begin_7 (fun H locs hP hD hS => ?_)
  have hP : va_P D vwCl [(h0, .inr (8, [u6, .int v1, .int 0, .int 0, .int v4, .int v5]))] H := hP
  have hD : va_D A [(h0, .inr (8, [u6, .int v1, .int 0, .int 0, .int v4, .int v5]))] := hD
  exact rV hQ hx hb hr hlocks hS (Nat.le_of_ble_eq_true rfl) (Nat.le_of_ble_eq_true rfl) dX9_begin_10 (fun t ht => ⟨by rw [ht]; exact hP, hD⟩)
set_option maxHeartbeats 4000000 in
set_option maxRecDepth 100000 in
theorem m_X9_fail (l : Launch) (D : va_G) (c : Nat → ClassId) (h0 : Nat) (sz : Nat) (u9 : Value) (v1 : Int32) (v2 : Int32) (v3 : Int32) (v4 : Int32) (v5 : Int32) (a1 : Int32) (a2 : Int32) (gv1 : 0 ≤ v1.toInt ∧ v1.toInt ≤ 400) (gv2 : 0 ≤ v2.toInt ∧ v2.toInt ≤ 400) (gv4 : 0 ≤ v4.toInt ∧ v4.toInt ≤ 99999) (gv5 : 0 ≤ v5.toInt ∧ v5.toInt ≤ 400) : Met l yX9_fail (Cond.code yX9_fail cX9_fail 3 (some .boolean) :: TB) ({ frames := 0, cells := 0, slots := 0, locals := 0 } : Room) (va_Pc [.ref h0, .int a1, .int a2] (PW D c [(h0, .inr (8, [u9, .int v1, .int v2, .int v3, .int v4, .int v5]))] sz)) ((QIx (fun A r t => ∃ (z900 : Int32), (0 ≤ r.toInt ∧ r.toInt ≤ 0) ∧ ((r.toInt = 0)) ∧ va_P D vwCl [(h0, .inr (8, [u9, .int v1, .int v2, .int z900, .int v4, .int v5]))] t.heap ∧ va_D A [(h0, .inr (8, [u9, .int v1, .int v2, .int z900, .int v4, .int v5]))])) (va_A [(h0, .inr (8, [u9, .int v1, .int v2, .int v3, .int v4, .int v5]))] sz)) 0 0 (va_A [(h0, .inr (8, [u9, .int v1, .int v2, .int v3, .int v4, .int v5]))] sz) := by
  refine start2 (by decide +kernel) (Nat.le_of_ble_eq_true rfl) ?_
  intro p e s m below meth cd A ls Q hx hb hr hml hts hown hlocks hin hA hS hK hP hD hN hl hQ
  have hown : s.vm.findClass RX9 = some m.cls := hown
  have hl : lv_has ls 3 [(0, .ref h0), (1, .int a1), (2, .int a2)] := hl
  have hP : va_P D vwCl [(h0, .inr (8, [u9, .int v1, .int v2, .int v3, .int v4, .int v5]))] s.heap := hP
  refine lv_aload_n hx hb dX9_fail_0 rfl (lv_at hl 0 rfl) ?_
  refine lv_iconst (v := 1) hx hb dX9_fail_1 (by decide) ?_
  refine lv_bipush (v := 8) hx hb dX9_fail_2 (by decide) ?_
  refine lv_iload_n hx hb dX9_fail_4 rfl (lv_at hl 1 rfl) ?_
  refine lv_imul hx hb dX9_fail_5 ?_
  refine o_any (fun z1001 ez1001 => ?_)
  refine lv_iadd hx hb dX9_fail_6 ?_
  refine o_any (fun z1002 ez1002 => ?_)
  refine lv_iload_n hx hb dX9_fail_7 rfl (lv_at hl 2 rfl) ?_
  refine lv_iadd hx hb dX9_fail_8 ?_
  refine o_any (fun z1003 ez1003 => ?_)
  refine va_put (D := D) (ci := 8) (v := .int z1003) (ty := .int) (C := RX9) (T := TX9) (N := 6) hx hb hts i_X9 tyX9 tyX9_ok nmX9 hown hK hP hD hS 0 rfl rfl 3 (by decide) (hts _ kw_155) (fun _ h9 => h9) rfl (tyX9_ok 3 (by decide)) rfl rfl (Nat.le_of_ble_eq_true rfl) dX9_fail_9 (fun H locs hP hD hS => ?_)
  have hP : va_P D vwCl [(h0, .inr (8, [u9, .int v1, .int v2, .int z1003, .int v4, .int v5]))] H := hP
  have hD : va_D A [(h0, .inr (8, [u9, .int v1, .int v2, .int z1003, .int v4, .int v5]))] := hD
  refine lv_iconst (v := 0) hx hb dX9_fail_12 (by decide) ?_
  have hk0 : (0 : Int32).toInt = 0 := by decide
  exact rI hQ hx hb hr hlocks (by decide) hS (Nat.le_of_ble_eq_true rfl) (Nat.le_of_ble_eq_true rfl) dX9_fail_13 (fun t ht => ⟨z1003, by decide, (by omega), by rw [ht]; exact hP, hD⟩)
set_option maxHeartbeats 4000000 in
set_option maxRecDepth 100000 in
theorem m_X9_seen (l : Launch) (D : va_G) (c : Nat → ClassId) (h0 h1 : Nat) (sz : Nat) (v1 : Int32) (v2 : Int32) (v3 : Int32) (v4 : Int32) (v5 : Int32) (f8 : Nat → Int32) (gv1 : 0 ≤ v1.toInt ∧ v1.toInt ≤ 400) (gv2 : 0 ≤ v2.toInt ∧ v2.toInt ≤ 400) (gv4 : 0 ≤ v4.toInt ∧ v4.toInt ≤ 99999) (gv5 : 0 ≤ v5.toInt ∧ v5.toInt ≤ 400) (gf8 : Rg f8 0 255) : Met l yX9_seen (Cond.code yX9_seen cX9_seen 1 (some .int) :: TB) ({ frames := 0, cells := 0, slots := 0, locals := 0 } : Room) (va_Pc [.ref h0] (PW D c [(h0, .inr (8, [.ref h1, .int v1, .int v2, .int v3, .int v4, .int v5])), (h1, .inl (c 0, 400, .inl f8))] sz)) ((QIx (fun A r t => ∃ (z900 : Int32), (0 ≤ z900.toInt ∧ z900.toInt ≤ 400) ∧ ((-1) ≤ r.toInt ∧ r.toInt ≤ 255) ∧ (r.toInt = -1 ∨ z900.toInt < v1.toInt) ∧ va_P D vwCl [(h0, .inr (8, [.ref h1, .int v1, .int z900, .int v3, .int v4, .int v5])), (h1, .inl (c 0, 400, .inl f8))] t.heap ∧ va_D A [(h0, .inr (8, [.ref h1, .int v1, .int z900, .int v3, .int v4, .int v5])), (h1, .inl (c 0, 400, .inl f8))])) (va_A [(h0, .inr (8, [.ref h1, .int v1, .int v2, .int v3, .int v4, .int v5])), (h1, .inl (c 0, 400, .inl f8))] sz)) 0 0 (va_A [(h0, .inr (8, [.ref h1, .int v1, .int v2, .int v3, .int v4, .int v5])), (h1, .inl (c 0, 400, .inl f8))] sz) := by
  refine start2 (by decide +kernel) (Nat.le_of_ble_eq_true rfl) ?_
  intro p e s m below meth cd A ls Q hx hb hr hml hts hown hlocks hin hA hS hK hP hD hN hl hQ
  have hown : s.vm.findClass RX9 = some m.cls := hown
  have hl : lv_has ls 1 [(0, .ref h0)] := hl
  have hP : va_P D vwCl [(h0, .inr (8, [.ref h1, .int v1, .int v2, .int v3, .int v4, .int v5])), (h1, .inl (c 0, 400, .inl f8))] s.heap := hP
  have lp1 : ∀ (n1 : Nat), ∀ (x1045 : Int32) (hx1045 : 0 ≤ x1045.toInt ∧ x1045.toInt ≤ 400) (hm1 : (400 : Int) - x1045.toInt < (n1 : Int)) (H : Heap) (locs : List Loc) (hP : va_P D vwCl [(h0, .inr (8, [.ref h1, .int v1, .int x1045, .int v3, .int v4, .int v5])), (h1, .inl (c 0, 400, .inl f8))] H) (hD : va_D A [(h0, .inr (8, [.ref h1, .int v1, .int x1045, .int v3, .int v4, .int v5])), (h1, .inl (c 0, 400, .inl f8))]) (hS : va_S A s.heap H locs) (ls : Array Slot) (hl : lv_has ls 1 [(0, .ref h0)]), W p l e ({ frames := 0, cells := 0, slots := 0, locals := 0 } : Room) s m [.ref h0].toArray below meth cd H locs 0 0 Q (F0 m 0 ls []) := by
    intro n1
    induction n1 with
    | zero =>
      intro x1045 hx1045 hm1 H locs hP hD hS ls hl
      exact absurd hm1 (by omega)
    | succ n1 ih1 =>
      intro x1045 hx1045 hm1 H locs hP hD hS ls hl
      refine lv_aload_n hx hb dX9_seen_0 rfl (lv_at hl 0 rfl) ?_
      refine va_get (D := D) (ci := 8) (v := .int x1045) (C := RX9) (T := TX9) (N := 6) hx hb hts i_X9 hown hK hP 0 rfl rfl 2 (by decide) (hts _ kw_152) (fun _ h9 => h9) rfl dX9_seen_1 ?_
      refine lv_aload_n hx hb dX9_seen_4 rfl (lv_at hl 0 rfl) ?_
      refine va_get (D := D) (ci := 8) (v := .int v1) (C := RX9) (T := TX9) (N := 6) hx hb hts i_X9 hown hK hP 0 rfl rfl 1 (by decide) (hts _ kw_149) (fun _ h9 => h9) rfl dX9_seen_5 ?_
      refine B_icmp_ge (tgt := 38) (X := x1045.toInt) (Y := v1.toInt) hx hb dX9_seen_8 (by decide) rfl rfl (fun hc1054 => ?_) (fun hc1054 => ?_)
      · refine lv_aload_n hx hb dX9_seen_38 rfl (lv_at hl 0 rfl) ?_
        refine va_get (D := D) (ci := 8) (v := .int x1045) (C := RX9) (T := TX9) (N := 6) hx hb hts i_X9 hown hK hP 0 rfl rfl 2 (by decide) (hts _ kw_152) (fun _ h9 => h9) rfl dX9_seen_39 ?_
        refine lv_aload_n hx hb dX9_seen_42 rfl (lv_at hl 0 rfl) ?_
        refine va_get (D := D) (ci := 8) (v := .int v1) (C := RX9) (T := TX9) (N := 6) hx hb hts i_X9 hown hK hP 0 rfl rfl 1 (by decide) (hts _ kw_149) (fun _ h9 => h9) rfl dX9_seen_43 ?_
        refine B_icmp_ge (tgt := 61) (X := x1045.toInt) (Y := v1.toInt) hx hb dX9_seen_46 (by decide) rfl rfl (fun hc1055 => ?_) (fun hc1055 => ?_)
        · refine lv_iconst (v := (-1)) hx hb dX9_seen_61 (by decide) ?_
          have hk0 : ((-1) : Int32).toInt = (-1) := by decide
          exact rI hQ hx hb hr hlocks rfl hS (Nat.le_of_ble_eq_true rfl) (Nat.le_of_ble_eq_true rfl) dX9_seen_62 (fun t ht => ⟨x1045, hx1045, by decide, (by omega), by rw [ht]; exact hP, hD⟩)
        · refine lv_aload_n hx hb dX9_seen_49 rfl (lv_at hl 0 rfl) ?_
          refine va_get (D := D) (ci := 8) (v := .ref h1) (C := RX9) (T := TX9) (N := 6) hx hb hts i_X9 hown hK hP 0 rfl rfl 0 (by decide) (hts _ kw_147) (fun _ h9 => h9) rfl dX9_seen_50 ?_
          refine lv_aload_n hx hb dX9_seen_53 rfl (lv_at hl 0 rfl) ?_
          refine va_get (D := D) (ci := 8) (v := .int x1045) (C := RX9) (T := TX9) (N := 6) hx hb hts i_X9 hown hK hP 0 rfl rfl 2 (by decide) (hts _ kw_152) (fun _ h9 => h9) rfl dX9_seen_54 ?_
          refine va_iald hx hb hK hP 1 0 rfl rfl (in_of (by omega) (by omega)) dX9_seen_57 ?_
          refine rd gf8 (fun z1056 ez1056 hz1056 => ?_)
          refine lv_goto (tgt := 62) hx hb dX9_seen_58 (by decide) ?_
          exact rI hQ hx hb hr hlocks rfl hS (Nat.le_of_ble_eq_true rfl) (Nat.le_of_ble_eq_true rfl) dX9_seen_62 (fun t ht => ⟨x1045, hx1045, ⟨by omega, by omega⟩, (by omega), by rw [ht]; exact hP, hD⟩)
      · refine lv_aload_n hx hb dX9_seen_11 rfl (lv_at hl 0 rfl) ?_
        refine va_get (D := D) (ci := 8) (v := .ref h1) (C := RX9) (T := TX9) (N := 6) hx hb hts i_X9 hown hK hP 0 rfl rfl 0 (by decide) (hts _ kw_147) (fun _ h9 => h9) rfl dX9_seen_12 ?_
        refine lv_aload_n hx hb dX9_seen_15 rfl (lv_at hl 0 rfl) ?_
        refine va_get (D := D) (ci := 8) (v := .int x1045) (C := RX9) (T := TX9) (N := 6) hx hb hts i_X9 hown hK hP 0 rfl rfl 2 (by decide) (hts _ kw_152) (fun _ h9 => h9) rfl dX9_seen_16 ?_
        refine va_iald hx hb hK hP 1 0 rfl rfl (in_of (by omega) (by omega)) dX9_seen_19 ?_
        refine rd gf8 (fun z1057 ez1057 hz1057 => ?_)
        refine lv_bipush (v := 32) hx hb dX9_seen_20 (by decide) ?_
        refine B_icmp_ne (tgt := 38) (X := z1057.toInt) (Y := 32) hx hb dX9_seen_22 (by decide) rfl (by decide) (fun hc1058 => ?_) (fun hc1058 => ?_)
        · refine lv_aload_n hx hb dX9_seen_38 rfl (lv_at hl 0 rfl) ?_
          refine va_get (D := D) (ci := 8) (v := .int x1045) (C := RX9) (T := TX9) (N := 6) hx hb hts i_X9 hown hK hP 0 rfl rfl 2 (by decide) (hts _ kw_152) (fun _ h9 => h9) rfl dX9_seen_39 ?_
          refine lv_aload_n hx hb dX9_seen_42 rfl (lv_at hl 0 rfl) ?_
          refine va_get (D := D) (ci := 8) (v := .int v1) (C := RX9) (T := TX9) (N := 6) hx hb hts i_X9 hown hK hP 0 rfl rfl 1 (by decide) (hts _ kw_149) (fun _ h9 => h9) rfl dX9_seen_43 ?_
          refine B_icmp_ge (tgt := 61) (X := x1045.toInt) (Y := v1.toInt) hx hb dX9_seen_46 (by decide) rfl rfl (fun hc1059 => ?_) (fun hc1059 => ?_)
          · refine lv_iconst (v := (-1)) hx hb dX9_seen_61 (by decide) ?_
            have hk0 : ((-1) : Int32).toInt = (-1) := by decide
            exact rI hQ hx hb hr hlocks rfl hS (Nat.le_of_ble_eq_true rfl) (Nat.le_of_ble_eq_true rfl) dX9_seen_62 (fun t ht => ⟨x1045, hx1045, by decide, (by omega), by rw [ht]; exact hP, hD⟩)
          · refine lv_aload_n hx hb dX9_seen_49 rfl (lv_at hl 0 rfl) ?_
            refine va_get (D := D) (ci := 8) (v := .ref h1) (C := RX9) (T := TX9) (N := 6) hx hb hts i_X9 hown hK hP 0 rfl rfl 0 (by decide) (hts _ kw_147) (fun _ h9 => h9) rfl dX9_seen_50 ?_
            refine lv_aload_n hx hb dX9_seen_53 rfl (lv_at hl 0 rfl) ?_
            refine va_get (D := D) (ci := 8) (v := .int x1045) (C := RX9) (T := TX9) (N := 6) hx hb hts i_X9 hown hK hP 0 rfl rfl 2 (by decide) (hts _ kw_152) (fun _ h9 => h9) rfl dX9_seen_54 ?_
            refine va_iald hx hb hK hP 1 0 rfl rfl (in_of (by omega) (by omega)) dX9_seen_57 ?_
            refine rd gf8 (fun z1060 ez1060 hz1060 => ?_)
            refine lv_goto (tgt := 62) hx hb dX9_seen_58 (by decide) ?_
            exact rI hQ hx hb hr hlocks rfl hS (Nat.le_of_ble_eq_true rfl) (Nat.le_of_ble_eq_true rfl) dX9_seen_62 (fun t ht => ⟨x1045, hx1045, ⟨by omega, by omega⟩, (by omega), by rw [ht]; exact hP, hD⟩)
        · refine lv_aload_n hx hb dX9_seen_25 rfl (lv_at hl 0 rfl) ?_
          refine lv_dup hx hb dX9_seen_26 rfl ?_
          refine va_get (D := D) (ci := 8) (v := .int x1045) (C := RX9) (T := TX9) (N := 6) hx hb hts i_X9 hown hK hP 0 rfl rfl 2 (by decide) (hts _ kw_152) (fun _ h9 => h9) rfl dX9_seen_27 ?_
          refine lv_iconst (v := 1) hx hb dX9_seen_30 (by decide) ?_
          refine lv_iadd hx hb dX9_seen_31 ?_
          refine q_add (X := x1045.toInt) (Y := 1) rfl (by decide) (by omega) (by omega) (fun z1061 ez1061 hz1061 => ?_)
          refine va_put (D := D) (ci := 8) (v := .int z1061) (ty := .int) (C := RX9) (T := TX9) (N := 6) hx hb hts i_X9 tyX9 tyX9_ok nmX9 hown hK hP hD hS 0 rfl rfl 2 (by decide) (hts _ kw_152) (fun _ h9 => h9) rfl (tyX9_ok 2 (by decide)) rfl rfl (Nat.le_of_ble_eq_true rfl) dX9_seen_32 (fun H locs hP hD hS => ?_)
          have hP : va_P D vwCl [(h0, .inr (8, [.ref h1, .int v1, .int z1061, .int v3, .int v4, .int v5])), (h1, .inl (c 0, 400, .inl f8))] H := hP
          have hD : va_D A [(h0, .inr (8, [.ref h1, .int v1, .int z1061, .int v3, .int v4, .int v5])), (h1, .inl (c 0, 400, .inl f8))] := hD
          refine lv_goto (tgt := 0) hx hb dX9_seen_35 (by decide) ?_
          exact ih1 z1061 ⟨by omega, by omega⟩ (by omega) H locs hP hD hS ls (lv_sub hl [0] rfl)
  exact lp1 (((400 : Int) - v2.toInt).toNat + 1) v2 gv2 (by omega) s.heap [] hP hD hS ls (lv_sub hl [0] rfl)
set_option maxHeartbeats 4000000 in
set_option maxRecDepth 100000 in
theorem m_X9_passWord (l : Launch) (D : va_G) (c : Nat → ClassId) (h0 : Nat) (sz : Nat) (u6 : Value) (v1 : Int32) (v2 : Int32) (v3 : Int32) (v4 : Int32) (v5 : Int32) (gv1 : 0 ≤ v1.toInt ∧ v1.toInt ≤ 400) (gv2 : 0 ≤ v2.toInt ∧ v2.toInt ≤ 400) (gv4 : 0 ≤ v4.toInt ∧ v4.toInt ≤ 99999) (gv5 : 0 ≤ v5.toInt ∧ v5.toInt ≤ 400) : Met l yX9_passWord (Cond.code yX9_passWord cX9_passWord 1 none :: TB) ({ frames := 0, cells := 0, slots := 0, locals := 0 } : Room) (va_Pc [.ref h0] (PW D c [(h0, .inr (8, [u6, .int v1, .int v2, .int v3, .int v4, .int v5]))] sz)) ((QV (fun A t => va_P D vwCl [(h0, .inr (8, [u6, .int v1, .int v5, .int v3, .int v4, .int v5]))] t.heap ∧ va_D A [(h0, .inr (8, [u6, .int v1, .int v5, .int v3, .int v4, .int v5]))])) (va_A [(h0, .inr (8, [u6, .int v1, .int v2, .int v3, .int v4, .int v5]))] sz)) 0 0 (va_A [(h0, .inr (8, [u6, .int v1, .int v2, .int v3, .int v4, .int v5]))] sz) := by
  refine start2 (by decide +kernel) (Nat.le_of_ble_eq_true rfl) ?_
  intro p e s m below meth cd A ls Q hx hb hr hml hts hown hlocks hin hA hS hK hP hD hN hl hQ
  have hown : s.vm.findClass RX9 = some m.cls := hown
  have hl : lv_has ls 1 [(0, .ref h0)] := hl
  have hP : va_P D vwCl [(h0, .inr (8, [u6, .int v1, .int v2, .int v3, .int v4, .int v5]))] s.heap := hP
  refine lv_aload_n hx hb dX9_passWord_0 rfl (lv_at hl 0 rfl) ?_
  refine lv_aload_n hx hb dX9_passWord_1 rfl (lv_at hl 0 rfl) ?_
  refine va_get (D := D) (ci := 8) (v := .int v5) (C := RX9) (T := TX9) (N := 6) hx hb hts i_X9 hown hK hP 0 rfl rfl 5 (by decide) (hts _ kw_161) (fun _ h9 => h9) rfl dX9_passWord_2 ?_
  refine va_put (D := D) (ci := 8) (v := .int v5) (ty := .int) (C := RX9) (T := TX9) (N := 6) hx hb hts i_X9 tyX9 tyX9_ok nmX9 hown hK hP hD hS 0 rfl rfl 2 (by decide) (hts _ kw_152) (fun _ h9 => h9) rfl (tyX9_ok 2 (by decide)) rfl rfl (Nat.le_of_ble_eq_true rfl) dX9_passWord_5 (fun H locs hP hD hS => ?_)
  have hP : va_P D vwCl [(h0, .inr (8, [u6, .int v1, .int v5, .int v3, .int v4, .int v5]))] H := hP
  have hD : va_D A [(h0, .inr (8, [u6, .int v1, .int v5, .int v3, .int v4, .int v5]))] := hD
  exact rV hQ hx hb hr hlocks hS (Nat.le_of_ble_eq_true rfl) (Nat.le_of_ble_eq_true rfl) dX9_passWord_8 (fun t ht => ⟨by rw [ht]; exact hP, hD⟩)
set_option maxHeartbeats 4000000 in
set_option maxRecDepth 100000 in
theorem m_X9_isWord (l : Launch) (D : va_G) (c : Nat → ClassId) (h0 h1 : Nat) (sz : Nat) (kS vS : Nat) (fS : Nat → Int32) (v1 : Int32) (v2 : Int32) (v3 : Int32) (v4 : Int32) (v5 : Int32) (f10 : Nat → Int32) (a1 : Int32) (a2 : Int32) (gv1 : 0 ≤ v1.toInt ∧ v1.toInt ≤ 400) (gv2 : 0 ≤ v2.toInt ∧ v2.toInt ≤ 400) (gv4 : 0 ≤ v4.toInt ∧ v4.toInt ≤ 99999) (gv5 : 0 ≤ v5.toInt ∧ v5.toInt ≤ 400) (gf10 : Rg f10 0 255) (ga1 : 0 ≤ a1.toInt ∧ a1.toInt ≤ 136) (ga2 : 1 ≤ a2.toInt ∧ a2.toInt ≤ 7) (ge0 : v2.toInt + a2.toInt ≤ 400) : Met l yX9_isWord (Cond.code yX9_isWord cX9_isWord 4 (some .boolean) :: TB) ({ frames := 4, cells := 0, slots := 0, locals := 85 } : Room) (va_Pc [.ref h0, .int a1, .int a2] (PWs D c [(h0, .inr (8, [.ref h1, .int v1, .int v2, .int v3, .int v4, .int v5])), (h1, .inl (c 0, 400, .inl f10))] sz kS vS fS)) ((QIx (fun A r t => (0 ≤ r.toInt ∧ r.toInt ≤ 1) ∧ va_P D vwCl [(h0, .inr (8, [.ref h1, .int v1, .int v2, .int v3, .int v4, .int v5])), (h1, .inl (c 0, 400, .inl f10))] t.heap ∧ va_D A [(h0, .inr (8, [.ref h1, .int v1, .int v2, .int v3, .int v4, .int v5])), (h1, .inl (c 0, 400, .inl f10))])) (va_A [(h0, .inr (8, [.ref h1, .int v1, .int v2, .int v3, .int v4, .int v5])), (h1, .inl (c 0, 400, .inl f10))] sz)) 0 0 (va_A [(h0, .inr (8, [.ref h1, .int v1, .int v2, .int v3, .int v4, .int v5])), (h1, .inl (c 0, 400, .inl f10))] sz) := by
  refine start2s (by decide +kernel) (Nat.le_of_ble_eq_true rfl) ?_
  intro p e s m below meth cd A ls Q hx hb hr hml hts hown hlocks hin hA hS hK hP hD hN hE hl hQ
  have hown : s.vm.findClass RX9 = some m.cls := hown
  have hl : lv_has ls 4 [(0, .ref h0), (1, .int a1), (2, .int a2)] := hl
  have hP : va_P D vwCl [(h0, .inr (8, [.ref h1, .int v1, .int v2, .int v3, .int v4, .int v5])), (h1, .inl (c 0, 400, .inl f10))] s.heap := hP
  refine lv_iconst (v := 0) hx hb dX9_isWord_0 (by decide) ?_
  refine lv_istore_n (lv' := [(3, .int 0), (0, .ref h0), (1, .int a1), (2, .int a2)]) hx hb dX9_isWord_1 rfl hl (by decide) rfl (fun ls hl => ?_)
  have lp1 : ∀ (n1 : Nat), ∀ (x1059 : Int32) (hx1059 : 0 ≤ x1059.toInt ∧ x1059.toInt ≤ 7) (hm1 : (7 : Int) - x1059.toInt < (n1 : Int)) (H : Heap) (locs : List Loc) (hP : va_P D vwCl [(h0, .inr (8, [.ref h1, .int v1, .int v2, .int v3, .int v4, .int v5])), (h1, .inl (c 0, 400, .inl f10))] H) (hD : va_D A [(h0, .inr (8, [.ref h1, .int v1, .int v2, .int v3, .int v4, .int v5])), (h1, .inl (c 0, 400, .inl f10))]) (hS : va_S A s.heap H locs) (ls : Array Slot) (hl : lv_has ls 4 [(3, .int x1059), (0, .ref h0), (1, .int a1), (2, .int a2)]), W p l e ({ frames := 4, cells := 0, slots := 0, locals := 85 } : Room) s m [.ref h0, .int a1, .int a2].toArray below meth cd H locs 0 0 Q (F0 m 2 ls []) := by
    intro n1
    induction n1 with
    | zero =>
      intro x1059 hx1059 hm1 H locs hP hD hS ls hl
      exact absurd hm1 (by omega)
    | succ n1 ih1 =>
      intro x1059 hx1059 hm1 H locs hP hD hS ls hl
      refine lv_iload_n hx hb dX9_isWord_2 rfl (lv_at hl 0 rfl) ?_
      refine lv_iload_n hx hb dX9_isWord_3 rfl (lv_at hl 3 rfl) ?_
      refine B_icmp_ge (tgt := 37) (X := x1059.toInt) (Y := a2.toInt) hx hb dX9_isWord_4 (by decide) rfl rfl (fun hc1070 => ?_) (fun hc1070 => ?_)
      · refine va_ldcS hx hb hown hE.1 dX9_isWord_37 ?_
        refine lv_iload_n hx hb dX9_isWord_39 rfl (lv_at hl 2 rfl) ?_
        refine lv_iload_n hx hb dX9_isWord_40 rfl (lv_at hl 3 rfl) ?_
        refine lv_iadd hx hb dX9_isWord_41 ?_
        refine q_add (X := a1.toInt) (Y := a2.toInt) rfl rfl (by omega) (by omega) (fun z1071 ez1071 hz1071 => ?_)
        refine fI (run_Vt (n := 1) (As := [.int z1071]) (rest := []) ⟨hx, hb, hml, hown, hts⟩ (m_ch0 l D c H.size kS vS fS z1071 (by omega) (by omega)) hK hN hE hS hA rfl rfl kw_548 kw_549 kw_550 kw_124 kw_551 ⟨rfl, by decide +kernel⟩ ⟨(Nat.le_of_ble_eq_true rfl), (Nat.le_of_ble_eq_true rfl)⟩ rfl hl.1 rfl (Nat.le_of_ble_eq_true rfl) dX9_isWord_42 ⟨(Nat.le_of_ble_eq_true rfl), (Nat.le_of_ble_eq_true rfl)⟩) hP hD hS hA [] rfl (fun z1072 H locs t hB hj hS => ?_)
        obtain ⟨hP1, hD1⟩ := hB
        obtain ⟨hP, hD⟩ := hj (wr := [(h0, .inr (8, [.ref h1, .int v1, .int v2, .int v3, .int v4, .int v5])), (h1, .inl (c 0, 400, .inl f10))]) (w1 := []) [0, 1] rfl (by decide) (by decide) hP1 hD1
        have hP : va_P D vwCl [(h0, .inr (8, [.ref h1, .int v1, .int v2, .int v3, .int v4, .int v5])), (h1, .inl (c 0, 400, .inl f10))] H := hP
        have hD : va_D A [(h0, .inr (8, [.ref h1, .int v1, .int v2, .int v3, .int v4, .int v5])), (h1, .inl (c 0, 400, .inl f10))] := hD
        refine lv_bipush (v := 32) hx hb dX9_isWord_45 (by decide) ?_
        refine B_icmp_ne (tgt := 54) (X := z1072.toInt) (Y := 32) hx hb dX9_isWord_47 (by decide) rfl (by decide) (fun hc1073 => ?_) (fun hc1073 => ?_)
        · refine lv_iconst (v := 0) hx hb dX9_isWord_54 (by decide) ?_
          have hk0 : (0 : Int32).toInt = 0 := by decide
          exact rI hQ hx hb hr hlocks (by decide) hS (Nat.le_of_ble_eq_true rfl) (Nat.le_of_ble_eq_true rfl) dX9_isWord_55 (fun t ht => ⟨by decide, by rw [ht]; exact hP, hD⟩)
        · refine lv_iconst (v := 1) hx hb dX9_isWord_50 (by decide) ?_
          refine lv_goto (tgt := 55) hx hb dX9_isWord_51 (by decide) ?_
          have hk0 : (1 : Int32).toInt = 1 := by decide
          exact rI hQ hx hb hr hlocks (by decide) hS (Nat.le_of_ble_eq_true rfl) (Nat.le_of_ble_eq_true rfl) dX9_isWord_55 (fun t ht => ⟨by decide, by rw [ht]; exact hP, hD⟩)
      · refine va_ldcS hx hb hown hE.1 dX9_isWord_7 ?_
        refine lv_iload_n hx hb dX9_isWord_9 rfl (lv_at hl 2 rfl) ?_
        refine lv_iload_n hx hb dX9_isWord_10 rfl (lv_at hl 0 rfl) ?_
        refine lv_iadd hx hb dX9_isWord_11 ?_
        refine q_add (X := a1.toInt) (Y := x1059.toInt) rfl rfl (by omega) (by omega) (fun z1074 ez1074 hz1074 => ?_)
        refine fI (run_Vt (n := 1) (As := [.int z1074]) (rest := []) ⟨hx, hb, hml, hown, hts⟩ (m_ch0 l D c H.size kS vS fS z1074 (by omega) (by omega)) hK hN hE hS hA rfl rfl kw_548 kw_549 kw_550 kw_124 kw_551 ⟨rfl, by decide +kernel⟩ ⟨(Nat.le_of_ble_eq_true rfl), (Nat.le_of_ble_eq_true rfl)⟩ rfl hl.1 rfl (Nat.le_of_ble_eq_true rfl) dX9_isWord_12 ⟨(Nat.le_of_ble_eq_true rfl), (Nat.le_of_ble_eq_true rfl)⟩) hP hD hS hA [] rfl (fun z1075 H locs t hB hj hS => ?_)
        obtain ⟨hP1, hD1⟩ := hB
        obtain ⟨hP, hD⟩ := hj (wr := [(h0, .inr (8, [.ref h1, .int v1, .int v2, .int v3, .int v4, .int v5])), (h1, .inl (c 0, 400, .inl f10))]) (w1 := []) [0, 1] rfl (by decide) (by decide) hP1 hD1
        have hP : va_P D vwCl [(h0, .inr (8, [.ref h1, .int v1, .int v2, .int v3, .int v4, .int v5])), (h1, .inl (c 0, 400, .inl f10))] H := hP
        have hD : va_D A [(h0, .inr (8, [.ref h1, .int v1, .int v2, .int v3, .int v4, .int v5])), (h1, .inl (c 0, 400, .inl f10))] := hD
        refine lv_aload_n hx hb dX9_isWord_15 rfl (lv_at hl 1 rfl) ?_
        refine va_get (D := D) (ci := 8) (v := .ref h1) (C := RX9) (T := TX9) (N := 6) hx hb hts i_X9 hown hK hP 0 rfl rfl 0 (by decide) (hts _ kw_147) (fun _ h9 => h9) rfl dX9_isWord_16 ?_
        refine lv_aload_n hx hb dX9_isWord_19 rfl (lv_at hl 1 rfl) ?_
        refine va_get (D := D) (ci := 8) (v := .int v2) (C := RX9) (T := TX9) (N := 6) hx hb hts i_X9 hown hK hP 0 rfl rfl 2 (by decide) (hts _ kw_152) (fun _ h9 => h9) rfl dX9_isWord_20 ?_
        refine lv_iload_n hx hb dX9_isWord_23 rfl (lv_at hl 0 rfl) ?_
        refine lv_iadd hx hb dX9_isWord_24 ?_
        refine q_add (X := v2.toInt) (Y := x1059.toInt) rfl rfl (by omega) (by omega) (fun z1076 ez1076 hz1076 => ?_)
        refine va_iald hx hb hK hP 1 0 rfl rfl (in_of (by omega) (by omega)) dX9_isWord_25 ?_
        refine rd gf10 (fun z1077 ez1077 hz1077 => ?_)
        refine B_icmp_eq (tgt := 31) (X := z1075.toInt) (Y := z1077.toInt) hx hb dX9_isWord_26 (by decide) rfl rfl (fun hc1078 => ?_) (fun hc1078 => ?_)
        · obtain ⟨z1079, ez1079, hz1079⟩ : ∃ y : Int32, y = x1059 + Int32.ofInt 1 ∧ y.toInt = x1059.toInt + 1 := ⟨_, rfl, ad_int (A := x1059.toInt) (B := 1) rfl (by decide) (by omega) (by omega)⟩
          refine lv_iinc (v := z1079) (lv' := [(3, .int z1079), (0, .ref h0), (1, .int a1), (2, .int a2)]) hx hb dX9_isWord_31 hl (k := 0) rfl ez1079.symm (by decide) rfl (fun ls hl => ?_)
          refine lv_goto (tgt := 2) hx hb dX9_isWord_34 (by decide) ?_
          exact ih1 z1079 ⟨by omega, by omega⟩ (by omega) H locs hP hD hS ls (lv_sub hl [0, 1, 2, 3] rfl)
        · refine lv_iconst (v := 0) hx hb dX9_isWord_29 (by decide) ?_
          have hk0 : (0 : Int32).toInt = 0 := by decide
          exact rI hQ hx hb hr hlocks (by decide) hS (Nat.le_of_ble_eq_true rfl) (Nat.le_of_ble_eq_true rfl) dX9_isWord_30 (fun t ht => ⟨by decide, by rw [ht]; exact hP, hD⟩)
  have hk0 : (0 : Int32).toInt = 0 := by decide
  exact lp1 (((7 : Int) - 0).toNat + 1) 0 (by decide) (by omega) s.heap [] hP hD hS ls (lv_sub hl [0, 1, 2, 3] rfl)
set_option maxHeartbeats 4000000 in
set_option maxRecDepth 100000 in
theorem m_X9_word (l : Launch) (D : va_G) (c : Nat → ClassId) (h0 h1 : Nat) (sz : Nat) (kS vS : Nat) (fS : Nat → Int32) (v1 : Int32) (v2 : Int32) (v3 : Int32) (v4 : Int32) (v5 : Int32) (f6 : Nat → Int32) (gv1 : 0 ≤ v1.toInt ∧ v1.toInt ≤ 400) (gv2 : 0 ≤ v2.toInt ∧ v2.toInt ≤ 400) (gv4 : 0 ≤ v4.toInt ∧ v4.toInt ≤ 99999) (gv5 : 0 ≤ v5.toInt ∧ v5.toInt ≤ 400) (gf6 : Rg f6 0 255) : Met l yX9_word (Cond.code yX9_word cX9_word 2 (some .int) :: TB) ({ frames := 5, cells := 0, slots := 0, locals := 108 } : Room) (va_Pc [.ref h0] (PWs D c [(h0, .inr (8, [.ref h1, .int v1, .int v2, .int v3, .int v4, .int v5])), (h1, .inl (c 0, 400, .inl f6))] sz kS vS fS)) ((QIx (fun A r t => ∃ (z900 : Int32) (z901 : Int32), (0 ≤ z900.toInt ∧ z900.toInt ≤ 400) ∧ (0 ≤ z901.toInt ∧ z901.toInt ≤ 400) ∧ ((-1) ≤ r.toInt ∧ r.toInt ≤ 17) ∧ va_P D vwCl [(h0, .inr (8, [.ref h1, .int v1, .int z900, .int v3, .int v4, .int z901])), (h1, .inl (c 0, 400, .inl f6))] t.heap ∧ va_D A [(h0, .inr (8, [.ref h1, .int v1, .int z900, .int v3, .int v4, .int z901])), (h1, .inl (c 0, 400, .inl f6))])) (va_A [(h0, .inr (8, [.ref h1, .int v1, .int v2, .int v3, .int v4, .int v5])), (h1, .inl (c 0, 400, .inl f6))] sz)) 0 0 (va_A [(h0, .inr (8, [.ref h1, .int v1, .int v2, .int v3, .int v4, .int v5])), (h1, .inl (c 0, 400, .inl f6))] sz) := by
  refine start2s (by decide +kernel) (Nat.le_of_ble_eq_true rfl) ?_
  intro p e s m below meth cd A ls Q hx hb hr hml hts hown hlocks hin hA hS hK hP hD hN hE hl hQ
  have hown : s.vm.findClass RX9 = some m.cls := hown
  have hl : lv_has ls 2 [(0, .ref h0)] := hl
  have hP : va_P D vwCl [(h0, .inr (8, [.ref h1, .int v1, .int v2, .int v3, .int v4, .int v5])), (h1, .inl (c 0, 400, .inl f6))] s.heap := hP
  refine lv_aload_n hx hb dX9_word_0 rfl (lv_at hl 0 rfl) ?_
  refine fI (run_V (n := 0) (ci := 8) ⟨hx, hb, hml, hown, hts⟩ (m_X9_seen l D c h0 h1 s.heap.size v1 v2 v3 v4 v5 f6 gv1 gv2 gv4 gv5 gf6) (hP.sub [0, 1] rfl) (hD.sub [0, 1] (by decide) rfl) hK hN rfl rfl kw_539 kw_540 kw_541 kw_114 kw_542 ⟨rfl, by decide +kernel⟩ ⟨(Nat.le_of_ble_eq_true rfl), (Nat.le_of_ble_eq_true rfl)⟩ rfl rfl rfl hl.1 rfl (Nat.le_of_ble_eq_true rfl) dX9_word_1 ⟨(Nat.le_of_ble_eq_true rfl), (Nat.le_of_ble_eq_true rfl)⟩) hP hD hS hA [0, 1] rfl (fun z1002 H locs t hB hj hS => ?_)
  obtain ⟨z1001, hq1003, hq1004, hq1005, hP1, hD1⟩ := hB
  obtain ⟨hP, hD⟩ := hj (wr := []) (w1 := [(h0, .inr (8, [.ref h1, .int v1, .int z1001, .int v3, .int v4, .int v5])), (h1, .inl (c 0, 400, .inl f6))]) [] rfl (by decide) (by decide) hP1 hD1
  have hP : va_P D vwCl [(h0, .inr (8, [.ref h1, .int v1, .int z1001, .int v3, .int v4, .int v5])), (h1, .inl (c 0, 400, .inl f6))] H := hP
  have hD : va_D A [(h0, .inr (8, [.ref h1, .int v1, .int z1001, .int v3, .int v4, .int v5])), (h1, .inl (c 0, 400, .inl f6))] := hD
  refine lv_pop hx hb dX9_word_4 rfl ?_
  refine lv_aload_n hx hb dX9_word_5 rfl (lv_at hl 0 rfl) ?_
  refine lv_aload_n hx hb dX9_word_6 rfl (lv_at hl 0 rfl) ?_
  refine va_get (D := D) (ci := 8) (v := .int z1001) (C := RX9) (T := TX9) (N := 6) hx hb hts i_X9 hown hK hP 0 rfl rfl 2 (by decide) (hts _ kw_152) (fun _ h9 => h9) rfl dX9_word_7 ?_
  refine va_put (D := D) (ci := 8) (v := .int z1001) (ty := .int) (C := RX9) (T := TX9) (N := 6) hx hb hts i_X9 tyX9 tyX9_ok nmX9 hown hK hP hD hS 0 rfl rfl 5 (by decide) (hts _ kw_161) (fun _ h9 => h9) rfl (tyX9_ok 5 (by decide)) rfl rfl (Nat.le_of_ble_eq_true rfl) dX9_word_10 (fun H locs hP hD hS => ?_)
  have hP : va_P D vwCl [(h0, .inr (8, [.ref h1, .int v1, .int z1001, .int v3, .int v4, .int z1001])), (h1, .inl (c 0, 400, .inl f6))] H := hP
  have hD : va_D A [(h0, .inr (8, [.ref h1, .int v1, .int z1001, .int v3, .int v4, .int z1001])), (h1, .inl (c 0, 400, .inl f6))] := hD
  have lp1 : ∀ (n1 : Nat), ∀ (x1631 : Int32) (hx1631 : 0 ≤ x1631.toInt ∧ x1631.toInt ≤ 400) (hi1785 : z1001.toInt ≤ x1631.toInt) (hm1 : (400 : Int) - x1631.toInt < (n1 : Int)) (H : Heap) (locs : List Loc) (hP : va_P D vwCl [(h0, .inr (8, [.ref h1, .int v1, .int z1001, .int v3, .int v4, .int x1631])), (h1, .inl (c 0, 400, .inl f6))] H) (hD : va_D A [(h0, .inr (8, [.ref h1, .int v1, .int z1001, .int v3, .int v4, .int x1631])), (h1, .inl (c 0, 400, .inl f6))]) (hS : va_S A s.heap H locs) (ls : Array Slot) (hl : lv_has ls 2 [(0, .ref h0)]), W p l e ({ frames := 5, cells := 0, slots := 0, locals := 108 } : Room) s m [.ref h0].toArray below meth cd H locs 0 0 Q (F0 m 13 ls []) := by
    intro n1
    induction n1 with
    | zero =>
      intro x1631 hx1631 hi1785 hm1 H locs hP hD hS ls hl
      exact absurd hm1 (by omega)
    | succ n1 ih1 =>
      intro x1631 hx1631 hi1785 hm1 H locs hP hD hS ls hl
      refine lv_aload_n hx hb dX9_word_13 rfl (lv_at hl 0 rfl) ?_
      refine va_get (D := D) (ci := 8) (v := .int x1631) (C := RX9) (T := TX9) (N := 6) hx hb hts i_X9 hown hK hP 0 rfl rfl 5 (by decide) (hts _ kw_161) (fun _ h9 => h9) rfl dX9_word_14 ?_
      refine lv_aload_n hx hb dX9_word_17 rfl (lv_at hl 0 rfl) ?_
      refine va_get (D := D) (ci := 8) (v := .int v1) (C := RX9) (T := TX9) (N := 6) hx hb hts i_X9 hown hK hP 0 rfl rfl 1 (by decide) (hts _ kw_149) (fun _ h9 => h9) rfl dX9_word_18 ?_
      refine B_icmp_ge (tgt := 65) (X := x1631.toInt) (Y := v1.toInt) hx hb dX9_word_21 (by decide) rfl rfl (fun hc1786 => ?_) (fun hc1786 => ?_)
      · refine lv_aload_n hx hb dX9_word_65 rfl (lv_at hl 0 rfl) ?_
        refine va_get (D := D) (ci := 8) (v := .int x1631) (C := RX9) (T := TX9) (N := 6) hx hb hts i_X9 hown hK hP 0 rfl rfl 5 (by decide) (hts _ kw_161) (fun _ h9 => h9) rfl dX9_word_66 ?_
        refine lv_aload_n hx hb dX9_word_69 rfl (lv_at hl 0 rfl) ?_
        refine va_get (D := D) (ci := 8) (v := .int z1001) (C := RX9) (T := TX9) (N := 6) hx hb hts i_X9 hown hK hP 0 rfl rfl 2 (by decide) (hts _ kw_152) (fun _ h9 => h9) rfl dX9_word_70 ?_
        refine B_icmp_eq (tgt := 90) (X := x1631.toInt) (Y := z1001.toInt) hx hb dX9_word_73 (by decide) rfl rfl (fun hc1787 => ?_) (fun hc1787 => ?_)
        · refine lv_iconst (v := (-1)) hx hb dX9_word_90 (by decide) ?_
          have hk0 : ((-1) : Int32).toInt = (-1) := by decide
          exact rI hQ hx hb hr hlocks rfl hS (Nat.le_of_ble_eq_true rfl) (Nat.le_of_ble_eq_true rfl) dX9_word_91 (fun t ht => ⟨z1001, x1631, hq1003, hx1631, by decide, by rw [ht]; exact hP, hD⟩)
        · refine lv_aload_n hx hb dX9_word_76 rfl (lv_at hl 0 rfl) ?_
          refine va_get (D := D) (ci := 8) (v := .int x1631) (C := RX9) (T := TX9) (N := 6) hx hb hts i_X9 hown hK hP 0 rfl rfl 5 (by decide) (hts _ kw_161) (fun _ h9 => h9) rfl dX9_word_77 ?_
          refine lv_aload_n hx hb dX9_word_80 rfl (lv_at hl 0 rfl) ?_
          refine va_get (D := D) (ci := 8) (v := .int z1001) (C := RX9) (T := TX9) (N := 6) hx hb hts i_X9 hown hK hP 0 rfl rfl 2 (by decide) (hts _ kw_152) (fun _ h9 => h9) rfl dX9_word_81 ?_
          refine lv_isub hx hb dX9_word_84 ?_
          refine q_sub (X := x1631.toInt) (Y := z1001.toInt) rfl rfl (by omega) (by omega) (fun z1788 ez1788 hz1788 => ?_)
          refine lv_bipush (v := 8) hx hb dX9_word_85 (by decide) ?_
          refine B_icmp_lt (tgt := 92) (X := z1788.toInt) (Y := 8) hx hb dX9_word_87 (by decide) rfl (by decide) (fun hc1789 => ?_) (fun hc1789 => ?_)
          · refine lv_iconst (v := 0) hx hb dX9_word_92 (by decide) ?_
            refine lv_istore_n (lv' := [(1, .int 0), (0, .ref h0)]) hx hb dX9_word_93 rfl hl (by decide) rfl (fun ls hl => ?_)
            have lp2 : ∀ (n2 : Nat), ∀ (x1829 : Int32) (hx1829 : 0 ≤ x1829.toInt ∧ x1829.toInt ≤ 18) (hm2 : (18 : Int) - x1829.toInt < (n2 : Int)) (H : Heap) (locs : List Loc) (hP : va_P D vwCl [(h0, .inr (8, [.ref h1, .int v1, .int z1001, .int v3, .int v4, .int x1631])), (h1, .inl (c 0, 400, .inl f6))] H) (hD : va_D A [(h0, .inr (8, [.ref h1, .int v1, .int z1001, .int v3, .int v4, .int x1631])), (h1, .inl (c 0, 400, .inl f6))]) (hS : va_S A s.heap H locs) (ls : Array Slot) (hl : lv_has ls 2 [(1, .int x1829), (0, .ref h0)]), W p l e ({ frames := 5, cells := 0, slots := 0, locals := 108 } : Room) s m [.ref h0].toArray below meth cd H locs 0 0 Q (F0 m 94 ls []) := by
              intro n2
              induction n2 with
              | zero =>
                intro x1829 hx1829 hm2 H locs hP hD hS ls hl
                exact absurd hm2 (by omega)
              | succ n2 ih2 =>
                intro x1829 hx1829 hm2 H locs hP hD hS ls hl
                refine lv_iload_n hx hb dX9_word_94 rfl (lv_at hl 0 rfl) ?_
                refine lv_bipush (v := 18) hx hb dX9_word_95 (by decide) ?_
                refine B_icmp_ge (tgt := 128) (X := x1829.toInt) (Y := 18) hx hb dX9_word_97 (by decide) rfl (by decide) (fun hc1836 => ?_) (fun hc1836 => ?_)
                · refine lv_iconst (v := (-1)) hx hb dX9_word_128 (by decide) ?_
                  have hk0 : ((-1) : Int32).toInt = (-1) := by decide
                  exact rI hQ hx hb hr hlocks rfl hS (Nat.le_of_ble_eq_true rfl) (Nat.le_of_ble_eq_true rfl) dX9_word_129 (fun t ht => ⟨z1001, x1631, hq1003, hx1631, by decide, by rw [ht]; exact hP, hD⟩)
                · refine lv_aload_n hx hb dX9_word_100 rfl (lv_at hl 1 rfl) ?_
                  refine lv_iload_n hx hb dX9_word_101 rfl (lv_at hl 0 rfl) ?_
                  refine lv_bipush (v := 8) hx hb dX9_word_102 (by decide) ?_
                  refine lv_imul hx hb dX9_word_104 ?_
                  refine q_mul (X := x1829.toInt) (Y := 8) rfl (by decide) rfl (by omega) (by omega) (fun z1837 ez1837 hz1837 => ?_)
                  refine lv_aload_n hx hb dX9_word_105 rfl (lv_at hl 1 rfl) ?_
                  refine va_get (D := D) (ci := 8) (v := .int x1631) (C := RX9) (T := TX9) (N := 6) hx hb hts i_X9 hown hK hP 0 rfl rfl 5 (by decide) (hts _ kw_161) (fun _ h9 => h9) rfl dX9_word_106 ?_
                  refine lv_aload_n hx hb dX9_word_109 rfl (lv_at hl 1 rfl) ?_
                  refine va_get (D := D) (ci := 8) (v := .int z1001) (C := RX9) (T := TX9) (N := 6) hx hb hts i_X9 hown hK hP 0 rfl rfl 2 (by decide) (hts _ kw_152) (fun _ h9 => h9) rfl dX9_word_110 ?_
                  refine lv_isub hx hb dX9_word_113 ?_
                  refine q_sub (X := x1631.toInt) (Y := z1001.toInt) rfl rfl (by omega) (by omega) (fun z1838 ez1838 hz1838 => ?_)
                  refine fI (run_Vs (n := 2) (ci := 8) ⟨hx, hb, hml, hown, hts⟩ (m_X9_isWord l D c h0 h1 H.size kS vS fS v1 z1001 v3 v4 x1631 f6 z1837 z1838 gv1 hq1003 gv4 hx1631 gf6 ⟨by omega, by omega⟩ ⟨by omega, by omega⟩ (by omega)) (hP.sub [0, 1] rfl) (hD.sub [0, 1] (by decide) rfl) hK hN hE hS hA rfl rfl kw_543 kw_545 kw_0 kw_114 kw_546 ⟨rfl, by decide +kernel⟩ ⟨(Nat.le_of_ble_eq_true rfl), (Nat.le_of_ble_eq_true rfl)⟩ rfl rfl rfl hl.1 rfl (Nat.le_of_ble_eq_true rfl) dX9_word_114 ⟨(Nat.le_of_ble_eq_true rfl), (Nat.le_of_ble_eq_true rfl)⟩) hP hD hS hA [0, 1] rfl (fun z1839 H locs t hB hj hS => ?_)
                  obtain ⟨hq1840, hP1, hD1⟩ := hB
                  obtain ⟨hP, hD⟩ := hj (wr := []) (w1 := [(h0, .inr (8, [.ref h1, .int v1, .int z1001, .int v3, .int v4, .int x1631])), (h1, .inl (c 0, 400, .inl f6))]) [] rfl (by decide) (by decide) hP1 hD1
                  have hP : va_P D vwCl [(h0, .inr (8, [.ref h1, .int v1, .int z1001, .int v3, .int v4, .int x1631])), (h1, .inl (c 0, 400, .inl f6))] H := hP
                  have hD : va_D A [(h0, .inr (8, [.ref h1, .int v1, .int z1001, .int v3, .int v4, .int x1631])), (h1, .inl (c 0, 400, .inl f6))] := hD
                  refine B_if_eq (tgt := 122) (X := z1839.toInt) hx hb dX9_word_117 (by decide) rfl (fun hc1841 => ?_) (fun hc1841 => ?_)
                  · obtain ⟨z1842, ez1842, hz1842⟩ : ∃ y : Int32, y = x1829 + Int32.ofInt 1 ∧ y.toInt = x1829.toInt + 1 := ⟨_, rfl, ad_int (A := x1829.toInt) (B := 1) rfl (by decide) (by omega) (by omega)⟩
                    refine lv_iinc (v := z1842) (lv' := [(1, .int z1842), (0, .ref h0)]) hx hb dX9_word_122 hl (k := 0) rfl ez1842.symm (by decide) rfl (fun ls hl => ?_)
                    refine lv_goto (tgt := 94) hx hb dX9_word_125 (by decide) ?_
                    exact ih2 z1842 ⟨by omega, by omega⟩ (by omega) H locs hP hD hS ls (lv_sub hl [0, 1] rfl)
                  · refine lv_iload_n hx hb dX9_word_120 rfl (lv_at hl 0 rfl) ?_
                    exact rI hQ hx hb hr hlocks rfl hS (Nat.le_of_ble_eq_true rfl) (Nat.le_of_ble_eq_true rfl) dX9_word_121 (fun t ht => ⟨z1001, x1631, hq1003, hx1631, ⟨by omega, by omega⟩, by rw [ht]; exact hP, hD⟩)
            have hk0 : (0 : Int32).toInt = 0 := by decide
            exact lp2 (((18 : Int) - 0).toNat + 1) 0 (by decide) (by omega) H locs hP hD hS ls (lv_sub hl [0, 1] rfl)
          · refine lv_iconst (v := (-1)) hx hb dX9_word_90 (by decide) ?_
            have hk0 : ((-1) : Int32).toInt = (-1) := by decide
            exact rI hQ hx hb hr hlocks rfl hS (Nat.le_of_ble_eq_true rfl) (Nat.le_of_ble_eq_true rfl) dX9_word_91 (fun t ht => ⟨z1001, x1631, hq1003, hx1631, by decide, by rw [ht]; exact hP, hD⟩)
      · refine lv_aload_n hx hb dX9_word_24 rfl (lv_at hl 0 rfl) ?_
        refine va_get (D := D) (ci := 8) (v := .ref h1) (C := RX9) (T := TX9) (N := 6) hx hb hts i_X9 hown hK hP 0 rfl rfl 0 (by decide) (hts _ kw_147) (fun _ h9 => h9) rfl dX9_word_25 ?_
        refine lv_aload_n hx hb dX9_word_28 rfl (lv_at hl 0 rfl) ?_
        refine va_get (D := D) (ci := 8) (v := .int x1631) (C := RX9) (T := TX9) (N := 6) hx hb hts i_X9 hown hK hP 0 rfl rfl 5 (by decide) (hts _ kw_161) (fun _ h9 => h9) rfl dX9_word_29 ?_
        refine va_iald hx hb hK hP 1 0 rfl rfl (in_of (by omega) (by omega)) dX9_word_32 ?_
        refine rd gf6 (fun z1843 ez1843 hz1843 => ?_)
        refine lv_bipush (v := 97) hx hb dX9_word_33 (by decide) ?_
        refine B_icmp_lt (tgt := 65) (X := z1843.toInt) (Y := 97) hx hb dX9_word_35 (by decide) rfl (by decide) (fun hc1844 => ?_) (fun hc1844 => ?_)
        · refine lv_aload_n hx hb dX9_word_65 rfl (lv_at hl 0 rfl) ?_
          refine va_get (D := D) (ci := 8) (v := .int x1631) (C := RX9) (T := TX9) (N := 6) hx hb hts i_X9 hown hK hP 0 rfl rfl 5 (by decide) (hts _ kw_161) (fun _ h9 => h9) rfl dX9_word_66 ?_
          refine lv_aload_n hx hb dX9_word_69 rfl (lv_at hl 0 rfl) ?_
          refine va_get (D := D) (ci := 8) (v := .int z1001) (C := RX9) (T := TX9) (N := 6) hx hb hts i_X9 hown hK hP 0 rfl rfl 2 (by decide) (hts _ kw_152) (fun _ h9 => h9) rfl dX9_word_70 ?_
          refine B_icmp_eq (tgt := 90) (X := x1631.toInt) (Y := z1001.toInt) hx hb dX9_word_73 (by decide) rfl rfl (fun hc1845 => ?_) (fun hc1845 => ?_)
          · refine lv_iconst (v := (-1)) hx hb dX9_word_90 (by decide) ?_
            have hk0 : ((-1) : Int32).toInt = (-1) := by decide
            exact rI hQ hx hb hr hlocks rfl hS (Nat.le_of_ble_eq_true rfl) (Nat.le_of_ble_eq_true rfl) dX9_word_91 (fun t ht => ⟨z1001, x1631, hq1003, hx1631, by decide, by rw [ht]; exact hP, hD⟩)
          · refine lv_aload_n hx hb dX9_word_76 rfl (lv_at hl 0 rfl) ?_
            refine va_get (D := D) (ci := 8) (v := .int x1631) (C := RX9) (T := TX9) (N := 6) hx hb hts i_X9 hown hK hP 0 rfl rfl 5 (by decide) (hts _ kw_161) (fun _ h9 => h9) rfl dX9_word_77 ?_
            refine lv_aload_n hx hb dX9_word_80 rfl (lv_at hl 0 rfl) ?_
            refine va_get (D := D) (ci := 8) (v := .int z1001) (C := RX9) (T := TX9) (N := 6) hx hb hts i_X9 hown hK hP 0 rfl rfl 2 (by decide) (hts _ kw_152) (fun _ h9 => h9) rfl dX9_word_81 ?_
            refine lv_isub hx hb dX9_word_84 ?_
            refine q_sub (X := x1631.toInt) (Y := z1001.toInt) rfl rfl (by omega) (by omega) (fun z1846 ez1846 hz1846 => ?_)
            refine lv_bipush (v := 8) hx hb dX9_word_85 (by decide) ?_
            refine B_icmp_lt (tgt := 92) (X := z1846.toInt) (Y := 8) hx hb dX9_word_87 (by decide) rfl (by decide) (fun hc1847 => ?_) (fun hc1847 => ?_)
            · refine lv_iconst (v := 0) hx hb dX9_word_92 (by decide) ?_
              refine lv_istore_n (lv' := [(1, .int 0), (0, .ref h0)]) hx hb dX9_word_93 rfl hl (by decide) rfl (fun ls hl => ?_)
              have lp3 : ∀ (n3 : Nat), ∀ (x1887 : Int32) (hx1887 : 0 ≤ x1887.toInt ∧ x1887.toInt ≤ 18) (hm3 : (18 : Int) - x1887.toInt < (n3 : Int)) (H : Heap) (locs : List Loc) (hP : va_P D vwCl [(h0, .inr (8, [.ref h1, .int v1, .int z1001, .int v3, .int v4, .int x1631])), (h1, .inl (c 0, 400, .inl f6))] H) (hD : va_D A [(h0, .inr (8, [.ref h1, .int v1, .int z1001, .int v3, .int v4, .int x1631])), (h1, .inl (c 0, 400, .inl f6))]) (hS : va_S A s.heap H locs) (ls : Array Slot) (hl : lv_has ls 2 [(1, .int x1887), (0, .ref h0)]), W p l e ({ frames := 5, cells := 0, slots := 0, locals := 108 } : Room) s m [.ref h0].toArray below meth cd H locs 0 0 Q (F0 m 94 ls []) := by
                intro n3
                induction n3 with
                | zero =>
                  intro x1887 hx1887 hm3 H locs hP hD hS ls hl
                  exact absurd hm3 (by omega)
                | succ n3 ih3 =>
                  intro x1887 hx1887 hm3 H locs hP hD hS ls hl
                  refine lv_iload_n hx hb dX9_word_94 rfl (lv_at hl 0 rfl) ?_
                  refine lv_bipush (v := 18) hx hb dX9_word_95 (by decide) ?_
                  refine B_icmp_ge (tgt := 128) (X := x1887.toInt) (Y := 18) hx hb dX9_word_97 (by decide) rfl (by decide) (fun hc1894 => ?_) (fun hc1894 => ?_)
                  · refine lv_iconst (v := (-1)) hx hb dX9_word_128 (by decide) ?_
                    have hk0 : ((-1) : Int32).toInt = (-1) := by decide
                    exact rI hQ hx hb hr hlocks rfl hS (Nat.le_of_ble_eq_true rfl) (Nat.le_of_ble_eq_true rfl) dX9_word_129 (fun t ht => ⟨z1001, x1631, hq1003, hx1631, by decide, by rw [ht]; exact hP, hD⟩)
                  · refine lv_aload_n hx hb dX9_word_100 rfl (lv_at hl 1 rfl) ?_
                    refine lv_iload_n hx hb dX9_word_101 rfl (lv_at hl 0 rfl) ?_
                    refine lv_bipush (v := 8) hx hb dX9_word_102 (by decide) ?_
                    refine lv_imul hx hb dX9_word_104 ?_
                    refine q_mul (X := x1887.toInt) (Y := 8) rfl (by decide) rfl (by omega) (by omega) (fun z1895 ez1895 hz1895 => ?_)
                    refine lv_aload_n hx hb dX9_word_105 rfl (lv_at hl 1 rfl) ?_
                    refine va_get (D := D) (ci := 8) (v := .int x1631) (C := RX9) (T := TX9) (N := 6) hx hb hts i_X9 hown hK hP 0 rfl rfl 5 (by decide) (hts _ kw_161) (fun _ h9 => h9) rfl dX9_word_106 ?_
                    refine lv_aload_n hx hb dX9_word_109 rfl (lv_at hl 1 rfl) ?_
                    refine va_get (D := D) (ci := 8) (v := .int z1001) (C := RX9) (T := TX9) (N := 6) hx hb hts i_X9 hown hK hP 0 rfl rfl 2 (by decide) (hts _ kw_152) (fun _ h9 => h9) rfl dX9_word_110 ?_
                    refine lv_isub hx hb dX9_word_113 ?_
                    refine q_sub (X := x1631.toInt) (Y := z1001.toInt) rfl rfl (by omega) (by omega) (fun z1896 ez1896 hz1896 => ?_)
                    refine fI (run_Vs (n := 2) (ci := 8) ⟨hx, hb, hml, hown, hts⟩ (m_X9_isWord l D c h0 h1 H.size kS vS fS v1 z1001 v3 v4 x1631 f6 z1895 z1896 gv1 hq1003 gv4 hx1631 gf6 ⟨by omega, by omega⟩ ⟨by omega, by omega⟩ (by omega)) (hP.sub [0, 1] rfl) (hD.sub [0, 1] (by decide) rfl) hK hN hE hS hA rfl rfl kw_543 kw_545 kw_0 kw_114 kw_546 ⟨rfl, by decide +kernel⟩ ⟨(Nat.le_of_ble_eq_true rfl), (Nat.le_of_ble_eq_true rfl)⟩ rfl rfl rfl hl.1 rfl (Nat.le_of_ble_eq_true rfl) dX9_word_114 ⟨(Nat.le_of_ble_eq_true rfl), (Nat.le_of_ble_eq_true rfl)⟩) hP hD hS hA [0, 1] rfl (fun z1897 H locs t hB hj hS => ?_)
                    obtain ⟨hq1898, hP1, hD1⟩ := hB
                    obtain ⟨hP, hD⟩ := hj (wr := []) (w1 := [(h0, .inr (8, [.ref h1, .int v1, .int z1001, .int v3, .int v4, .int x1631])), (h1, .inl (c 0, 400, .inl f6))]) [] rfl (by decide) (by decide) hP1 hD1
                    have hP : va_P D vwCl [(h0, .inr (8, [.ref h1, .int v1, .int z1001, .int v3, .int v4, .int x1631])), (h1, .inl (c 0, 400, .inl f6))] H := hP
                    have hD : va_D A [(h0, .inr (8, [.ref h1, .int v1, .int z1001, .int v3, .int v4, .int x1631])), (h1, .inl (c 0, 400, .inl f6))] := hD
                    refine B_if_eq (tgt := 122) (X := z1897.toInt) hx hb dX9_word_117 (by decide) rfl (fun hc1899 => ?_) (fun hc1899 => ?_)
                    · obtain ⟨z1900, ez1900, hz1900⟩ : ∃ y : Int32, y = x1887 + Int32.ofInt 1 ∧ y.toInt = x1887.toInt + 1 := ⟨_, rfl, ad_int (A := x1887.toInt) (B := 1) rfl (by decide) (by omega) (by omega)⟩
                      refine lv_iinc (v := z1900) (lv' := [(1, .int z1900), (0, .ref h0)]) hx hb dX9_word_122 hl (k := 0) rfl ez1900.symm (by decide) rfl (fun ls hl => ?_)
                      refine lv_goto (tgt := 94) hx hb dX9_word_125 (by decide) ?_
                      exact ih3 z1900 ⟨by omega, by omega⟩ (by omega) H locs hP hD hS ls (lv_sub hl [0, 1] rfl)
                    · refine lv_iload_n hx hb dX9_word_120 rfl (lv_at hl 0 rfl) ?_
                      exact rI hQ hx hb hr hlocks rfl hS (Nat.le_of_ble_eq_true rfl) (Nat.le_of_ble_eq_true rfl) dX9_word_121 (fun t ht => ⟨z1001, x1631, hq1003, hx1631, ⟨by omega, by omega⟩, by rw [ht]; exact hP, hD⟩)
              have hk0 : (0 : Int32).toInt = 0 := by decide
              exact lp3 (((18 : Int) - 0).toNat + 1) 0 (by decide) (by omega) H locs hP hD hS ls (lv_sub hl [0, 1] rfl)
            · refine lv_iconst (v := (-1)) hx hb dX9_word_90 (by decide) ?_
              have hk0 : ((-1) : Int32).toInt = (-1) := by decide
              exact rI hQ hx hb hr hlocks rfl hS (Nat.le_of_ble_eq_true rfl) (Nat.le_of_ble_eq_true rfl) dX9_word_91 (fun t ht => ⟨z1001, x1631, hq1003, hx1631, by decide, by rw [ht]; exact hP, hD⟩)
        · refine lv_aload_n hx hb dX9_word_38 rfl (lv_at hl 0 rfl) ?_
          refine va_get (D := D) (ci := 8) (v := .ref h1) (C := RX9) (T := TX9) (N := 6) hx hb hts i_X9 hown hK hP 0 rfl rfl 0 (by decide) (hts _ kw_147) (fun _ h9 => h9) rfl dX9_word_39 ?_
          refine lv_aload_n hx hb dX9_word_42 rfl (lv_at hl 0 rfl) ?_
          refine va_get (D := D) (ci := 8) (v := .int x1631) (C := RX9) (T := TX9) (N := 6) hx hb hts i_X9 hown hK hP 0 rfl rfl 5 (by decide) (hts _ kw_161) (fun _ h9 => h9) rfl dX9_word_43 ?_
          refine va_iald hx hb hK hP 1 0 rfl rfl (in_of (by omega) (by omega)) dX9_word_46 ?_
          refine rd gf6 (fun z1901 ez1901 hz1901 => ?_)
          refine lv_bipush (v := 122) hx hb dX9_word_47 (by decide) ?_
          refine B_icmp_gt (tgt := 65) (X := z1901.toInt) (Y := 122) hx hb dX9_word_49 (by decide) rfl (by decide) (fun hc1902 => ?_) (fun hc1902 => ?_)
          · refine lv_aload_n hx hb dX9_word_65 rfl (lv_at hl 0 rfl) ?_
            refine va_get (D := D) (ci := 8) (v := .int x1631) (C := RX9) (T := TX9) (N := 6) hx hb hts i_X9 hown hK hP 0 rfl rfl 5 (by decide) (hts _ kw_161) (fun _ h9 => h9) rfl dX9_word_66 ?_
            refine lv_aload_n hx hb dX9_word_69 rfl (lv_at hl 0 rfl) ?_
            refine va_get (D := D) (ci := 8) (v := .int z1001) (C := RX9) (T := TX9) (N := 6) hx hb hts i_X9 hown hK hP 0 rfl rfl 2 (by decide) (hts _ kw_152) (fun _ h9 => h9) rfl dX9_word_70 ?_
            refine B_icmp_eq (tgt := 90) (X := x1631.toInt) (Y := z1001.toInt) hx hb dX9_word_73 (by decide) rfl rfl (fun hc1903 => ?_) (fun hc1903 => ?_)
            · refine lv_iconst (v := (-1)) hx hb dX9_word_90 (by decide) ?_
              have hk0 : ((-1) : Int32).toInt = (-1) := by decide
              exact rI hQ hx hb hr hlocks rfl hS (Nat.le_of_ble_eq_true rfl) (Nat.le_of_ble_eq_true rfl) dX9_word_91 (fun t ht => ⟨z1001, x1631, hq1003, hx1631, by decide, by rw [ht]; exact hP, hD⟩)
            · refine lv_aload_n hx hb dX9_word_76 rfl (lv_at hl 0 rfl) ?_
              refine va_get (D := D) (ci := 8) (v := .int x1631) (C := RX9) (T := TX9) (N := 6) hx hb hts i_X9 hown hK hP 0 rfl rfl 5 (by decide) (hts _ kw_161) (fun _ h9 => h9) rfl dX9_word_77 ?_
              refine lv_aload_n hx hb dX9_word_80 rfl (lv_at hl 0 rfl) ?_
              refine va_get (D := D) (ci := 8) (v := .int z1001) (C := RX9) (T := TX9) (N := 6) hx hb hts i_X9 hown hK hP 0 rfl rfl 2 (by decide) (hts _ kw_152) (fun _ h9 => h9) rfl dX9_word_81 ?_
              refine lv_isub hx hb dX9_word_84 ?_
              refine q_sub (X := x1631.toInt) (Y := z1001.toInt) rfl rfl (by omega) (by omega) (fun z1904 ez1904 hz1904 => ?_)
              refine lv_bipush (v := 8) hx hb dX9_word_85 (by decide) ?_
              refine B_icmp_lt (tgt := 92) (X := z1904.toInt) (Y := 8) hx hb dX9_word_87 (by decide) rfl (by decide) (fun hc1905 => ?_) (fun hc1905 => ?_)
              · refine lv_iconst (v := 0) hx hb dX9_word_92 (by decide) ?_
                refine lv_istore_n (lv' := [(1, .int 0), (0, .ref h0)]) hx hb dX9_word_93 rfl hl (by decide) rfl (fun ls hl => ?_)
                have lp4 : ∀ (n4 : Nat), ∀ (x1945 : Int32) (hx1945 : 0 ≤ x1945.toInt ∧ x1945.toInt ≤ 18) (hm4 : (18 : Int) - x1945.toInt < (n4 : Int)) (H : Heap) (locs : List Loc) (hP : va_P D vwCl [(h0, .inr (8, [.ref h1, .int v1, .int z1001, .int v3, .int v4, .int x1631])), (h1, .inl (c 0, 400, .inl f6))] H) (hD : va_D A [(h0, .inr (8, [.ref h1, .int v1, .int z1001, .int v3, .int v4, .int x1631])), (h1, .inl (c 0, 400, .inl f6))]) (hS : va_S A s.heap H locs) (ls : Array Slot) (hl : lv_has ls 2 [(1, .int x1945), (0, .ref h0)]), W p l e ({ frames := 5, cells := 0, slots := 0, locals := 108 } : Room) s m [.ref h0].toArray below meth cd H locs 0 0 Q (F0 m 94 ls []) := by
                  intro n4
                  induction n4 with
                  | zero =>
                    intro x1945 hx1945 hm4 H locs hP hD hS ls hl
                    exact absurd hm4 (by omega)
                  | succ n4 ih4 =>
                    intro x1945 hx1945 hm4 H locs hP hD hS ls hl
                    refine lv_iload_n hx hb dX9_word_94 rfl (lv_at hl 0 rfl) ?_
                    refine lv_bipush (v := 18) hx hb dX9_word_95 (by decide) ?_
                    refine B_icmp_ge (tgt := 128) (X := x1945.toInt) (Y := 18) hx hb dX9_word_97 (by decide) rfl (by decide) (fun hc1952 => ?_) (fun hc1952 => ?_)
                    · refine lv_iconst (v := (-1)) hx hb dX9_word_128 (by decide) ?_
                      have hk0 : ((-1) : Int32).toInt = (-1) := by decide
                      exact rI hQ hx hb hr hlocks rfl hS (Nat.le_of_ble_eq_true rfl) (Nat.le_of_ble_eq_true rfl) dX9_word_129 (fun t ht => ⟨z1001, x1631, hq1003, hx1631, by decide, by rw [ht]; exact hP, hD⟩)
                    · refine lv_aload_n hx hb dX9_word_100 rfl (lv_at hl 1 rfl) ?_
                      refine lv_iload_n hx hb dX9_word_101 rfl (lv_at hl 0 rfl) ?_
                      refine lv_bipush (v := 8) hx hb dX9_word_102 (by decide) ?_
                      refine lv_imul hx hb dX9_word_104 ?_
                      refine q_mul (X := x1945.toInt) (Y := 8) rfl (by decide) rfl (by omega) (by omega) (fun z1953 ez1953 hz1953 => ?_)
                      refine lv_aload_n hx hb dX9_word_105 rfl (lv_at hl 1 rfl) ?_
                      refine va_get (D := D) (ci := 8) (v := .int x1631) (C := RX9) (T := TX9) (N := 6) hx hb hts i_X9 hown hK hP 0 rfl rfl 5 (by decide) (hts _ kw_161) (fun _ h9 => h9) rfl dX9_word_106 ?_
                      refine lv_aload_n hx hb dX9_word_109 rfl (lv_at hl 1 rfl) ?_
                      refine va_get (D := D) (ci := 8) (v := .int z1001) (C := RX9) (T := TX9) (N := 6) hx hb hts i_X9 hown hK hP 0 rfl rfl 2 (by decide) (hts _ kw_152) (fun _ h9 => h9) rfl dX9_word_110 ?_
                      refine lv_isub hx hb dX9_word_113 ?_
                      refine q_sub (X := x1631.toInt) (Y := z1001.toInt) rfl rfl (by omega) (by omega) (fun z1954 ez1954 hz1954 => ?_)
                      refine fI (run_Vs (n := 2) (ci := 8) ⟨hx, hb, hml, hown, hts⟩ (m_X9_isWord l D c h0 h1 H.size kS vS fS v1 z1001 v3 v4 x1631 f6 z1953 z1954 gv1 hq1003 gv4 hx1631 gf6 ⟨by omega, by omega⟩ ⟨by omega, by omega⟩ (by omega)) (hP.sub [0, 1] rfl) (hD.sub [0, 1] (by decide) rfl) hK hN hE hS hA rfl rfl kw_543 kw_545 kw_0 kw_114 kw_546 ⟨rfl, by decide +kernel⟩ ⟨(Nat.le_of_ble_eq_true rfl), (Nat.le_of_ble_eq_true rfl)⟩ rfl rfl rfl hl.1 rfl (Nat.le_of_ble_eq_true rfl) dX9_word_114 ⟨(Nat.le_of_ble_eq_true rfl), (Nat.le_of_ble_eq_true rfl)⟩) hP hD hS hA [0, 1] rfl (fun z1955 H locs t hB hj hS => ?_)
                      obtain ⟨hq1956, hP1, hD1⟩ := hB
                      obtain ⟨hP, hD⟩ := hj (wr := []) (w1 := [(h0, .inr (8, [.ref h1, .int v1, .int z1001, .int v3, .int v4, .int x1631])), (h1, .inl (c 0, 400, .inl f6))]) [] rfl (by decide) (by decide) hP1 hD1
                      have hP : va_P D vwCl [(h0, .inr (8, [.ref h1, .int v1, .int z1001, .int v3, .int v4, .int x1631])), (h1, .inl (c 0, 400, .inl f6))] H := hP
                      have hD : va_D A [(h0, .inr (8, [.ref h1, .int v1, .int z1001, .int v3, .int v4, .int x1631])), (h1, .inl (c 0, 400, .inl f6))] := hD
                      refine B_if_eq (tgt := 122) (X := z1955.toInt) hx hb dX9_word_117 (by decide) rfl (fun hc1957 => ?_) (fun hc1957 => ?_)
                      · obtain ⟨z1958, ez1958, hz1958⟩ : ∃ y : Int32, y = x1945 + Int32.ofInt 1 ∧ y.toInt = x1945.toInt + 1 := ⟨_, rfl, ad_int (A := x1945.toInt) (B := 1) rfl (by decide) (by omega) (by omega)⟩
                        refine lv_iinc (v := z1958) (lv' := [(1, .int z1958), (0, .ref h0)]) hx hb dX9_word_122 hl (k := 0) rfl ez1958.symm (by decide) rfl (fun ls hl => ?_)
                        refine lv_goto (tgt := 94) hx hb dX9_word_125 (by decide) ?_
                        exact ih4 z1958 ⟨by omega, by omega⟩ (by omega) H locs hP hD hS ls (lv_sub hl [0, 1] rfl)
                      · refine lv_iload_n hx hb dX9_word_120 rfl (lv_at hl 0 rfl) ?_
                        exact rI hQ hx hb hr hlocks rfl hS (Nat.le_of_ble_eq_true rfl) (Nat.le_of_ble_eq_true rfl) dX9_word_121 (fun t ht => ⟨z1001, x1631, hq1003, hx1631, ⟨by omega, by omega⟩, by rw [ht]; exact hP, hD⟩)
                have hk0 : (0 : Int32).toInt = 0 := by decide
                exact lp4 (((18 : Int) - 0).toNat + 1) 0 (by decide) (by omega) H locs hP hD hS ls (lv_sub hl [0, 1] rfl)
              · refine lv_iconst (v := (-1)) hx hb dX9_word_90 (by decide) ?_
                have hk0 : ((-1) : Int32).toInt = (-1) := by decide
                exact rI hQ hx hb hr hlocks rfl hS (Nat.le_of_ble_eq_true rfl) (Nat.le_of_ble_eq_true rfl) dX9_word_91 (fun t ht => ⟨z1001, x1631, hq1003, hx1631, by decide, by rw [ht]; exact hP, hD⟩)
          · refine lv_aload_n hx hb dX9_word_52 rfl (lv_at hl 0 rfl) ?_
            refine lv_dup hx hb dX9_word_53 rfl ?_
            refine va_get (D := D) (ci := 8) (v := .int x1631) (C := RX9) (T := TX9) (N := 6) hx hb hts i_X9 hown hK hP 0 rfl rfl 5 (by decide) (hts _ kw_161) (fun _ h9 => h9) rfl dX9_word_54 ?_
            refine lv_iconst (v := 1) hx hb dX9_word_57 (by decide) ?_
            refine lv_iadd hx hb dX9_word_58 ?_
            refine q_add (X := x1631.toInt) (Y := 1) rfl (by decide) (by omega) (by omega) (fun z1959 ez1959 hz1959 => ?_)
            refine va_put (D := D) (ci := 8) (v := .int z1959) (ty := .int) (C := RX9) (T := TX9) (N := 6) hx hb hts i_X9 tyX9 tyX9_ok nmX9 hown hK hP hD hS 0 rfl rfl 5 (by decide) (hts _ kw_161) (fun _ h9 => h9) rfl (tyX9_ok 5 (by decide)) rfl rfl (Nat.le_of_ble_eq_true rfl) dX9_word_59 (fun H locs hP hD hS => ?_)
            have hP : va_P D vwCl [(h0, .inr (8, [.ref h1, .int v1, .int z1001, .int v3, .int v4, .int z1959])), (h1, .inl (c 0, 400, .inl f6))] H := hP
            have hD : va_D A [(h0, .inr (8, [.ref h1, .int v1, .int z1001, .int v3, .int v4, .int z1959])), (h1, .inl (c 0, 400, .inl f6))] := hD
            refine lv_goto (tgt := 13) hx hb dX9_word_62 (by decide) ?_
            exact ih1 z1959 ⟨by omega, by omega⟩ (by omega) (by omega) H locs hP hD hS ls (lv_sub hl [0] rfl)
  exact lp1 (((400 : Int) - z1001.toInt).toNat + 1) z1001 hq1003 (by omega) (by omega) H locs hP hD hS ls (lv_sub hl [0] rfl)
set_option maxHeartbeats 4000000 in
set_option maxRecDepth 100000 in
theorem m_X9_readNumber (l : Launch) (D : va_G) (c : Nat → ClassId) (h0 h1 : Nat) (sz : Nat) (v1 : Int32) (v2 : Int32) (v3 : Int32) (v4 : Int32) (v5 : Int32) (f6 : Nat → Int32) (a1 : Int32) (a2 : Int32) (gv1 : 0 ≤ v1.toInt ∧ v1.toInt ≤ 400) (gv2 : 0 ≤ v2.toInt ∧ v2.toInt ≤ 400) (gv4 : 0 ≤ v4.toInt ∧ v4.toInt ≤ 99999) (gv5 : 0 ≤ v5.toInt ∧ v5.toInt ≤ 400) (gf6 : Rg f6 0 255) (ga1 : 0 ≤ a1.toInt ∧ a1.toInt ≤ 1) (ga2 : 0 ≤ a2.toInt ∧ a2.toInt ≤ 99999) : Met l yX9_readNumber (Cond.code yX9_readNumber cX9_readNumber 5 (some .boolean) :: TB) ({ frames := 1, cells := 0, slots := 0, locals := 22 } : Room) (va_Pc [.ref h0, .int a1, .int a2] (PW D c [(h0, .inr (8, [.ref h1, .int v1, .int v2, .int v3, .int v4, .int v5])), (h1, .inl (c 0, 400, .inl f6))] sz)) ((QIx (fun A r t => ∃ (z900 : Int32) (z901 : Int32) (z902 : Int32), (0 ≤ z900.toInt ∧ z900.toInt ≤ 400) ∧ (0 ≤ z902.toInt ∧ z902.toInt ≤ 99999) ∧ (0 ≤ r.toInt ∧ r.toInt ≤ 1) ∧ (r.toInt = 0 ∨ (a1.toInt ≤ z902.toInt ∧ z902.toInt ≤ a2.toInt)) ∧ va_P D vwCl [(h0, .inr (8, [.ref h1, .int v1, .int z900, .int z901, .int z902, .int v5])), (h1, .inl (c 0, 400, .inl f6))] t.heap ∧ va_D A [(h0, .inr (8, [.ref h1, .int v1, .int z900, .int z901, .int z902, .int v5])), (h1, .inl (c 0, 400, .inl f6))])) (va_A [(h0, .inr (8, [.ref h1, .int v1, .int v2, .int v3, .int v4, .int v5])), (h1, .inl (c 0, 400, .inl f6))] sz)) 0 0 (va_A [(h0, .inr (8, [.ref h1, .int v1, .int v2, .int v3, .int v4, .int v5])), (h1, .inl (c 0, 400, .inl f6))] sz) := by
  refine start2 (by decide +kernel) (Nat.le_of_ble_eq_true rfl) ?_
  intro p e s m below meth cd A ls Q hx hb hr hml hts hown hlocks hin hA hS hK hP hD hN hl hQ
  have hown : s.vm.findClass RX9 = some m.cls := hown
  have hl : lv_has ls 5 [(0, .ref h0), (1, .int a1), (2, .int a2)] := hl
  have hP : va_P D vwCl [(h0, .inr (8, [.ref h1, .int v1, .int v2, .int v3, .int v4, .int v5])), (h1, .inl (c 0, 400, .inl f6))] s.heap := hP
  refine lv_aload_n hx hb dX9_readNumber_0 rfl (lv_at hl 0 rfl) ?_
  refine fI (run_V (n := 0) (ci := 8) ⟨hx, hb, hml, hown, hts⟩ (m_X9_seen l D c h0 h1 s.heap.size v1 v2 v3 v4 v5 f6 gv1 gv2 gv4 gv5 gf6) (hP.sub [0, 1] rfl) (hD.sub [0, 1] (by decide) rfl) hK hN rfl rfl kw_539 kw_540 kw_541 kw_114 kw_542 ⟨rfl, by decide +kernel⟩ ⟨(Nat.le_of_ble_eq_true rfl), (Nat.le_of_ble_eq_true rfl)⟩ rfl rfl rfl hl.1 rfl (Nat.le_of_ble_eq_true rfl) dX9_readNumber_1 ⟨(Nat.le_of_ble_eq_true rfl), (Nat.le_of_ble_eq_true rfl)⟩) hP hD hS hA [0, 1] rfl (fun z1002 H locs t hB hj hS => ?_)
  obtain ⟨z1001, hq1003, hq1004, hq1005, hP1, hD1⟩ := hB
  obtain ⟨hP, hD⟩ := hj (wr := []) (w1 := [(h0, .inr (8, [.ref h1, .int v1, .int z1001, .int v3, .int v4, .int v5])), (h1, .inl (c 0, 400, .inl f6))]) [] rfl (by decide) (by decide) hP1 hD1
  have hP : va_P D vwCl [(h0, .inr (8, [.ref h1, .int v1, .int z1001, .int v3, .int v4, .int v5])), (h1, .inl (c 0, 400, .inl f6))] H := hP
  have hD : va_D A [(h0, .inr (8, [.ref h1, .int v1, .int z1001, .int v3, .int v4, .int v5])), (h1, .inl (c 0, 400, .inl f6))] := hD
  refine lv_pop hx hb dX9_readNumber_4 rfl ?_
  refine lv_aload_n hx hb dX9_readNumber_5 rfl (lv_at hl 0 rfl) ?_
  refine va_get (D := D) (ci := 8) (v := .int z1001) (C := RX9) (T := TX9) (N := 6) hx hb hts i_X9 hown hK hP 0 rfl rfl 2 (by decide) (hts _ kw_152) (fun _ h9 => h9) rfl dX9_readNumber_6 ?_
  refine lv_istore_n (lv' := [(3, .int z1001), (0, .ref h0), (1, .int a1), (2, .int a2)]) hx hb dX9_readNumber_9 rfl hl (by decide) rfl (fun ls hl => ?_)
  refine lv_iconst (v := 0) hx hb dX9_readNumber_10 (by decide) ?_
  refine lv_istore (lv' := [(4, .int 0), (3, .int z1001), (0, .ref h0), (1, .int a1), (2, .int a2)]) hx hb dX9_readNumber_11 hl (by decide) rfl (fun ls hl => ?_)
  have lp1 : ∀ (n1 : Nat), ∀ (x1291 : Int32) (hx1291 : 0 ≤ x1291.toInt ∧ x1291.toInt ≤ 400) (x1292 : Int32) (hm1 : (400 : Int) - x1291.toInt < (n1 : Int)) (H : Heap) (locs : List Loc) (hP : va_P D vwCl [(h0, .inr (8, [.ref h1, .int v1, .int x1291, .int v3, .int v4, .int v5])), (h1, .inl (c 0, 400, .inl f6))] H) (hD : va_D A [(h0, .inr (8, [.ref h1, .int v1, .int x1291, .int v3, .int v4, .int v5])), (h1, .inl (c 0, 400, .inl f6))]) (hS : va_S A s.heap H locs) (ls : Array Slot) (hl : lv_has ls 5 [(4, .int x1292), (3, .int z1001), (0, .ref h0), (1, .int a1), (2, .int a2)]), W p l e ({ frames := 1, cells := 0, slots := 0, locals := 22 } : Room) s m [.ref h0, .int a1, .int a2].toArray below meth cd H locs 0 0 Q (F0 m 13 ls []) := by
    intro n1
    induction n1 with
    | zero =>
      intro x1291 hx1291 x1292 hm1 H locs hP hD hS ls hl
      exact absurd hm1 (by omega)
    | succ n1 ih1 =>
      intro x1291 hx1291 x1292 hm1 H locs hP hD hS ls hl
      refine lv_aload_n hx hb dX9_readNumber_13 rfl (lv_at hl 2 rfl) ?_
      refine va_get (D := D) (ci := 8) (v := .int x1291) (C := RX9) (T := TX9) (N := 6) hx hb hts i_X9 hown hK hP 0 rfl rfl 2 (by decide) (hts _ kw_152) (fun _ h9 => h9) rfl dX9_readNumber_14 ?_
      refine lv_aload_n hx hb dX9_readNumber_17 rfl (lv_at hl 2 rfl) ?_
      refine va_get (D := D) (ci := 8) (v := .int v1) (C := RX9) (T := TX9) (N := 6) hx hb hts i_X9 hown hK hP 0 rfl rfl 1 (by decide) (hts _ kw_149) (fun _ h9 => h9) rfl dX9_readNumber_18 ?_
      refine B_icmp_ge (tgt := 95) (X := x1291.toInt) (Y := v1.toInt) hx hb dX9_readNumber_21 (by decide) rfl rfl (fun hc1345 => ?_) (fun hc1345 => ?_)
      · refine lv_aload_n hx hb dX9_readNumber_95 rfl (lv_at hl 2 rfl) ?_
        refine va_get (D := D) (ci := 8) (v := .int x1291) (C := RX9) (T := TX9) (N := 6) hx hb hts i_X9 hown hK hP 0 rfl rfl 2 (by decide) (hts _ kw_152) (fun _ h9 => h9) rfl dX9_readNumber_96 ?_
        refine lv_iload_n hx hb dX9_readNumber_99 rfl (lv_at hl 1 rfl) ?_
        refine B_icmp_ne (tgt := 110) (X := x1291.toInt) (Y := z1001.toInt) hx hb dX9_readNumber_100 (by decide) rfl rfl (fun hc1346 => ?_) (fun hc1346 => ?_)
        · refine lv_aload_n hx hb dX9_readNumber_110 rfl (lv_at hl 2 rfl) ?_
          refine va_get (D := D) (ci := 8) (v := .int x1291) (C := RX9) (T := TX9) (N := 6) hx hb hts i_X9 hown hK hP 0 rfl rfl 2 (by decide) (hts _ kw_152) (fun _ h9 => h9) rfl dX9_readNumber_111 ?_
          refine lv_iload_n hx hb dX9_readNumber_114 rfl (lv_at hl 1 rfl) ?_
          refine lv_isub hx hb dX9_readNumber_115 ?_
          refine q_sub (X := x1291.toInt) (Y := z1001.toInt) rfl rfl (by omega) (by omega) (fun z1347 ez1347 hz1347 => ?_)
          refine lv_iconst (v := 5) hx hb dX9_readNumber_116 (by decide) ?_
          refine B_icmp_gt (tgt := 132) (X := z1347.toInt) (Y := 5) hx hb dX9_readNumber_117 (by decide) rfl (by decide) (fun hc1348 => ?_) (fun hc1348 => ?_)
          · refine lv_aload_n hx hb dX9_readNumber_132 rfl (lv_at hl 2 rfl) ?_
            refine lv_iload_n hx hb dX9_readNumber_133 rfl (lv_at hl 1 rfl) ?_
            refine lv_iconst (v := 1) hx hb dX9_readNumber_134 (by decide) ?_
            have hk0 : (1 : Int32).toInt = 1 := by decide
            refine fI (run_V (n := 2) (ci := 8) ⟨hx, hb, hml, hown, hts⟩ (m_X9_fail l D c h0 H.size (.ref h1) v1 x1291 v3 v4 v5 z1001 1 gv1 hx1291 gv4 gv5) (hP.sub [0] rfl) (hD.sub [0] (by decide) rfl) hK hN rfl rfl kw_603 kw_589 kw_590 kw_114 kw_591 ⟨rfl, by decide +kernel⟩ ⟨(Nat.le_of_ble_eq_true rfl), (Nat.le_of_ble_eq_true rfl)⟩ rfl rfl rfl hl.1 rfl (Nat.le_of_ble_eq_true rfl) dX9_readNumber_135 ⟨(Nat.le_of_ble_eq_true rfl), (Nat.le_of_ble_eq_true rfl)⟩) hP hD hS hA [0] rfl (fun z1350 H locs t hB hj hS => ?_)
            obtain ⟨z1349, hq1351, hq1352, hP1, hD1⟩ := hB
            obtain ⟨hP, hD⟩ := hj (wr := [(h1, .inl (c 0, 400, .inl f6))]) (w1 := [(h0, .inr (8, [.ref h1, .int v1, .int x1291, .int z1349, .int v4, .int v5]))]) [1] rfl (by decide) (by decide) hP1 hD1
            have hP : va_P D vwCl [(h1, .inl (c 0, 400, .inl f6)), (h0, .inr (8, [.ref h1, .int v1, .int x1291, .int z1349, .int v4, .int v5]))] H := hP
            have hD : va_D A [(h1, .inl (c 0, 400, .inl f6)), (h0, .inr (8, [.ref h1, .int v1, .int x1291, .int z1349, .int v4, .int v5]))] := hD
            obtain rfl : z1350 = 0 := (tp_eq (X := z1350.toInt) (Y := 0) rfl (by decide)).mpr (by omega)
            have hP := hP.sub (ws' := [(h0, .inr (8, [.ref h1, .int v1, .int x1291, .int z1349, .int v4, .int v5])), (h1, .inl (c 0, 400, .inl f6))]) [1, 0] rfl
            have hD := hD.sub (ws' := [(h0, .inr (8, [.ref h1, .int v1, .int x1291, .int z1349, .int v4, .int v5])), (h1, .inl (c 0, 400, .inl f6))]) [1, 0] (by decide) rfl
            have hk0 : (0 : Int32).toInt = 0 := by decide
            exact rI hQ hx hb hr hlocks (by decide) hS (Nat.le_of_ble_eq_true rfl) (Nat.le_of_ble_eq_true rfl) dX9_readNumber_138 (fun t ht => ⟨x1291, z1349, v4, hx1291, gv4, by decide, (by omega), by rw [ht]; exact hP, hD⟩)
          · refine lv_iload hx hb dX9_readNumber_120 (lv_at hl 0 rfl) ?_
            refine lv_iload_n hx hb dX9_readNumber_122 rfl (lv_at hl 3 rfl) ?_
            refine B_icmp_lt (tgt := 132) (X := x1292.toInt) (Y := a1.toInt) hx hb dX9_readNumber_123 (by decide) rfl rfl (fun hc1353 => ?_) (fun hc1353 => ?_)
            · refine lv_aload_n hx hb dX9_readNumber_132 rfl (lv_at hl 2 rfl) ?_
              refine lv_iload_n hx hb dX9_readNumber_133 rfl (lv_at hl 1 rfl) ?_
              refine lv_iconst (v := 1) hx hb dX9_readNumber_134 (by decide) ?_
              have hk0 : (1 : Int32).toInt = 1 := by decide
              refine fI (run_V (n := 2) (ci := 8) ⟨hx, hb, hml, hown, hts⟩ (m_X9_fail l D c h0 H.size (.ref h1) v1 x1291 v3 v4 v5 z1001 1 gv1 hx1291 gv4 gv5) (hP.sub [0] rfl) (hD.sub [0] (by decide) rfl) hK hN rfl rfl kw_603 kw_589 kw_590 kw_114 kw_591 ⟨rfl, by decide +kernel⟩ ⟨(Nat.le_of_ble_eq_true rfl), (Nat.le_of_ble_eq_true rfl)⟩ rfl rfl rfl hl.1 rfl (Nat.le_of_ble_eq_true rfl) dX9_readNumber_135 ⟨(Nat.le_of_ble_eq_true rfl), (Nat.le_of_ble_eq_true rfl)⟩) hP hD hS hA [0] rfl (fun z1355 H locs t hB hj hS => ?_)
              obtain ⟨z1354, hq1356, hq1357, hP1, hD1⟩ := hB
              obtain ⟨hP, hD⟩ := hj (wr := [(h1, .inl (c 0, 400, .inl f6))]) (w1 := [(h0, .inr (8, [.ref h1, .int v1, .int x1291, .int z1354, .int v4, .int v5]))]) [1] rfl (by decide) (by decide) hP1 hD1
              have hP : va_P D vwCl [(h1, .inl (c 0, 400, .inl f6)), (h0, .inr (8, [.ref h1, .int v1, .int x1291, .int z1354, .int v4, .int v5]))] H := hP
              have hD : va_D A [(h1, .inl (c 0, 400, .inl f6)), (h0, .inr (8, [.ref h1, .int v1, .int x1291, .int z1354, .int v4, .int v5]))] := hD
              obtain rfl : z1355 = 0 := (tp_eq (X := z1355.toInt) (Y := 0) rfl (by decide)).mpr (by omega)
              have hP := hP.sub (ws' := [(h0, .inr (8, [.ref h1, .int v1, .int x1291, .int z1354, .int v4, .int v5])), (h1, .inl (c 0, 400, .inl f6))]) [1, 0] rfl
              have hD := hD.sub (ws' := [(h0, .inr (8, [.ref h1, .int v1, .int x1291, .int z1354, .int v4, .int v5])), (h1, .inl (c 0, 400, .inl f6))]) [1, 0] (by decide) rfl
              have hk0 : (0 : Int32).toInt = 0 := by decide
              exact rI hQ hx hb hr hlocks (by decide) hS (Nat.le_of_ble_eq_true rfl) (Nat.le_of_ble_eq_true rfl) dX9_readNumber_138 (fun t ht => ⟨x1291, z1354, v4, hx1291, gv4, by decide, (by omega), by rw [ht]; exact hP, hD⟩)
            · refine lv_iload hx hb dX9_readNumber_126 (lv_at hl 0 rfl) ?_
              refine lv_iload_n hx hb dX9_readNumber_128 rfl (lv_at hl 4 rfl) ?_
              refine B_icmp_le (tgt := 139) (X := x1292.toInt) (Y := a2.toInt) hx hb dX9_readNumber_129 (by decide) rfl rfl (fun hc1358 => ?_) (fun hc1358 => ?_)
              · refine lv_aload_n hx hb dX9_readNumber_139 rfl (lv_at hl 2 rfl) ?_
                refine lv_iload hx hb dX9_readNumber_140 (lv_at hl 0 rfl) ?_
                refine va_put (D := D) (ci := 8) (v := .int x1292) (ty := .int) (C := RX9) (T := TX9) (N := 6) hx hb hts i_X9 tyX9 tyX9_ok nmX9 hown hK hP hD hS 0 rfl rfl 4 (by decide) (hts _ kw_158) (fun _ h9 => h9) rfl (tyX9_ok 4 (by decide)) rfl rfl (Nat.le_of_ble_eq_true rfl) dX9_readNumber_142 (fun H locs hP hD hS => ?_)
                have hP : va_P D vwCl [(h0, .inr (8, [.ref h1, .int v1, .int x1291, .int v3, .int x1292, .int v5])), (h1, .inl (c 0, 400, .inl f6))] H := hP
                have hD : va_D A [(h0, .inr (8, [.ref h1, .int v1, .int x1291, .int v3, .int x1292, .int v5])), (h1, .inl (c 0, 400, .inl f6))] := hD
                refine lv_iconst (v := 1) hx hb dX9_readNumber_145 (by decide) ?_
                have hk0 : (1 : Int32).toInt = 1 := by decide
                exact rI hQ hx hb hr hlocks (by decide) hS (Nat.le_of_ble_eq_true rfl) (Nat.le_of_ble_eq_true rfl) dX9_readNumber_146 (fun t ht => ⟨x1291, v3, x1292, hx1291, ⟨by omega, by omega⟩, by decide, (by omega), by rw [ht]; exact hP, hD⟩)
              · refine lv_aload_n hx hb dX9_readNumber_132 rfl (lv_at hl 2 rfl) ?_
                refine lv_iload_n hx hb dX9_readNumber_133 rfl (lv_at hl 1 rfl) ?_
                refine lv_iconst (v := 1) hx hb dX9_readNumber_134 (by decide) ?_
                have hk0 : (1 : Int32).toInt = 1 := by decide
                refine fI (run_V (n := 2) (ci := 8) ⟨hx, hb, hml, hown, hts⟩ (m_X9_fail l D c h0 H.size (.ref h1) v1 x1291 v3 v4 v5 z1001 1 gv1 hx1291 gv4 gv5) (hP.sub [0] rfl) (hD.sub [0] (by decide) rfl) hK hN rfl rfl kw_603 kw_589 kw_590 kw_114 kw_591 ⟨rfl, by decide +kernel⟩ ⟨(Nat.le_of_ble_eq_true rfl), (Nat.le_of_ble_eq_true rfl)⟩ rfl rfl rfl hl.1 rfl (Nat.le_of_ble_eq_true rfl) dX9_readNumber_135 ⟨(Nat.le_of_ble_eq_true rfl), (Nat.le_of_ble_eq_true rfl)⟩) hP hD hS hA [0] rfl (fun z1360 H locs t hB hj hS => ?_)
                obtain ⟨z1359, hq1361, hq1362, hP1, hD1⟩ := hB
                obtain ⟨hP, hD⟩ := hj (wr := [(h1, .inl (c 0, 400, .inl f6))]) (w1 := [(h0, .inr (8, [.ref h1, .int v1, .int x1291, .int z1359, .int v4, .int v5]))]) [1] rfl (by decide) (by decide) hP1 hD1
                have hP : va_P D vwCl [(h1, .inl (c 0, 400, .inl f6)), (h0, .inr (8, [.ref h1, .int v1, .int x1291, .int z1359, .int v4, .int v5]))] H := hP
                have hD : va_D A [(h1, .inl (c 0, 400, .inl f6)), (h0, .inr (8, [.ref h1, .int v1, .int x1291, .int z1359, .int v4, .int v5]))] := hD
                obtain rfl : z1360 = 0 := (tp_eq (X := z1360.toInt) (Y := 0) rfl (by decide)).mpr (by omega)
                have hP := hP.sub (ws' := [(h0, .inr (8, [.ref h1, .int v1, .int x1291, .int z1359, .int v4, .int v5])), (h1, .inl (c 0, 400, .inl f6))]) [1, 0] rfl
                have hD := hD.sub (ws' := [(h0, .inr (8, [.ref h1, .int v1, .int x1291, .int z1359, .int v4, .int v5])), (h1, .inl (c 0, 400, .inl f6))]) [1, 0] (by decide) rfl
                have hk0 : (0 : Int32).toInt = 0 := by decide
                exact rI hQ hx hb hr hlocks (by decide) hS (Nat.le_of_ble_eq_true rfl) (Nat.le_of_ble_eq_true rfl) dX9_readNumber_138 (fun t ht => ⟨x1291, z1359, v4, hx1291, gv4, by decide, (by omega), by rw [ht]; exact hP, hD⟩)
        · refine lv_aload_n hx hb dX9_readNumber_103 rfl (lv_at hl 2 rfl) ?_
          refine lv_iload_n hx hb dX9_readNumber_104 rfl (lv_at hl 1 rfl) ?_
          refine lv_iconst (v := 0) hx hb dX9_readNumber_105 (by decide) ?_
          have hk0 : (0 : Int32).toInt = 0 := by decide
          refine fI (run_V (n := 2) (ci := 8) ⟨hx, hb, hml, hown, hts⟩ (m_X9_fail l D c h0 H.size (.ref h1) v1 x1291 v3 v4 v5 z1001 0 gv1 hx1291 gv4 gv5) (hP.sub [0] rfl) (hD.sub [0] (by decide) rfl) hK hN rfl rfl kw_603 kw_589 kw_590 kw_114 kw_591 ⟨rfl, by decide +kernel⟩ ⟨(Nat.le_of_ble_eq_true rfl), (Nat.le_of_ble_eq_true rfl)⟩ rfl rfl rfl hl.1 rfl (Nat.le_of_ble_eq_true rfl) dX9_readNumber_106 ⟨(Nat.le_of_ble_eq_true rfl), (Nat.le_of_ble_eq_true rfl)⟩) hP hD hS hA [0] rfl (fun z1364 H locs t hB hj hS => ?_)
          obtain ⟨z1363, hq1365, hq1366, hP1, hD1⟩ := hB
          obtain ⟨hP, hD⟩ := hj (wr := [(h1, .inl (c 0, 400, .inl f6))]) (w1 := [(h0, .inr (8, [.ref h1, .int v1, .int x1291, .int z1363, .int v4, .int v5]))]) [1] rfl (by decide) (by decide) hP1 hD1
          have hP : va_P D vwCl [(h1, .inl (c 0, 400, .inl f6)), (h0, .inr (8, [.ref h1, .int v1, .int x1291, .int z1363, .int v4, .int v5]))] H := hP
          have hD : va_D A [(h1, .inl (c 0, 400, .inl f6)), (h0, .inr (8, [.ref h1, .int v1, .int x1291, .int z1363, .int v4, .int v5]))] := hD
          obtain rfl : z1364 = 0 := (tp_eq (X := z1364.toInt) (Y := 0) rfl (by decide)).mpr (by omega)
          have hP := hP.sub (ws' := [(h0, .inr (8, [.ref h1, .int v1, .int x1291, .int z1363, .int v4, .int v5])), (h1, .inl (c 0, 400, .inl f6))]) [1, 0] rfl
          have hD := hD.sub (ws' := [(h0, .inr (8, [.ref h1, .int v1, .int x1291, .int z1363, .int v4, .int v5])), (h1, .inl (c 0, 400, .inl f6))]) [1, 0] (by decide) rfl
          have hk0 : (0 : Int32).toInt = 0 := by decide
          exact rI hQ hx hb hr hlocks (by decide) hS (Nat.le_of_ble_eq_true rfl) (Nat.le_of_ble_eq_true rfl) dX9_readNumber_109 (fun t ht => ⟨x1291, z1363, v4, hx1291, gv4, by decide, (by omega), by rw [ht]; exact hP, hD⟩)
      · refine lv_aload_n hx hb dX9_readNumber_24 rfl (lv_at hl 2 rfl) ?_
        refine va_get (D := D) (ci := 8) (v := .ref h1) (C := RX9) (T := TX9) (N := 6) hx hb hts i_X9 hown hK hP 0 rfl rfl 0 (by decide) (hts _ kw_147) (fun _ h9 => h9) rfl dX9_readNumber_25 ?_
        refine lv_aload_n hx hb dX9_readNumber_28 rfl (lv_at hl 2 rfl) ?_
        refine va_get (D := D) (ci := 8) (v := .int x1291) (C := RX9) (T := TX9) (N := 6) hx hb hts i_X9 hown hK hP 0 rfl rfl 2 (by decide) (hts _ kw_152) (fun _ h9 => h9) rfl dX9_readNumber_29 ?_
        refine va_iald hx hb hK hP 1 0 rfl rfl (in_of (by omega) (by omega)) dX9_readNumber_32 ?_
        refine rd gf6 (fun z1367 ez1367 hz1367 => ?_)
        refine lv_bipush (v := 48) hx hb dX9_readNumber_33 (by decide) ?_
        refine B_icmp_lt (tgt := 95) (X := z1367.toInt) (Y := 48) hx hb dX9_readNumber_35 (by decide) rfl (by decide) (fun hc1368 => ?_) (fun hc1368 => ?_)
        · refine lv_aload_n hx hb dX9_readNumber_95 rfl (lv_at hl 2 rfl) ?_
          refine va_get (D := D) (ci := 8) (v := .int x1291) (C := RX9) (T := TX9) (N := 6) hx hb hts i_X9 hown hK hP 0 rfl rfl 2 (by decide) (hts _ kw_152) (fun _ h9 => h9) rfl dX9_readNumber_96 ?_
          refine lv_iload_n hx hb dX9_readNumber_99 rfl (lv_at hl 1 rfl) ?_
          refine B_icmp_ne (tgt := 110) (X := x1291.toInt) (Y := z1001.toInt) hx hb dX9_readNumber_100 (by decide) rfl rfl (fun hc1369 => ?_) (fun hc1369 => ?_)
          · refine lv_aload_n hx hb dX9_readNumber_110 rfl (lv_at hl 2 rfl) ?_
            refine va_get (D := D) (ci := 8) (v := .int x1291) (C := RX9) (T := TX9) (N := 6) hx hb hts i_X9 hown hK hP 0 rfl rfl 2 (by decide) (hts _ kw_152) (fun _ h9 => h9) rfl dX9_readNumber_111 ?_
            refine lv_iload_n hx hb dX9_readNumber_114 rfl (lv_at hl 1 rfl) ?_
            refine lv_isub hx hb dX9_readNumber_115 ?_
            refine q_sub (X := x1291.toInt) (Y := z1001.toInt) rfl rfl (by omega) (by omega) (fun z1370 ez1370 hz1370 => ?_)
            refine lv_iconst (v := 5) hx hb dX9_readNumber_116 (by decide) ?_
            refine B_icmp_gt (tgt := 132) (X := z1370.toInt) (Y := 5) hx hb dX9_readNumber_117 (by decide) rfl (by decide) (fun hc1371 => ?_) (fun hc1371 => ?_)
            · refine lv_aload_n hx hb dX9_readNumber_132 rfl (lv_at hl 2 rfl) ?_
              refine lv_iload_n hx hb dX9_readNumber_133 rfl (lv_at hl 1 rfl) ?_
              refine lv_iconst (v := 1) hx hb dX9_readNumber_134 (by decide) ?_
              have hk0 : (1 : Int32).toInt = 1 := by decide
              refine fI (run_V (n := 2) (ci := 8) ⟨hx, hb, hml, hown, hts⟩ (m_X9_fail l D c h0 H.size (.ref h1) v1 x1291 v3 v4 v5 z1001 1 gv1 hx1291 gv4 gv5) (hP.sub [0] rfl) (hD.sub [0] (by decide) rfl) hK hN rfl rfl kw_603 kw_589 kw_590 kw_114 kw_591 ⟨rfl, by decide +kernel⟩ ⟨(Nat.le_of_ble_eq_true rfl), (Nat.le_of_ble_eq_true rfl)⟩ rfl rfl rfl hl.1 rfl (Nat.le_of_ble_eq_true rfl) dX9_readNumber_135 ⟨(Nat.le_of_ble_eq_true rfl), (Nat.le_of_ble_eq_true rfl)⟩) hP hD hS hA [0] rfl (fun z1373 H locs t hB hj hS => ?_)
              obtain ⟨z1372, hq1374, hq1375, hP1, hD1⟩ := hB
              obtain ⟨hP, hD⟩ := hj (wr := [(h1, .inl (c 0, 400, .inl f6))]) (w1 := [(h0, .inr (8, [.ref h1, .int v1, .int x1291, .int z1372, .int v4, .int v5]))]) [1] rfl (by decide) (by decide) hP1 hD1
              have hP : va_P D vwCl [(h1, .inl (c 0, 400, .inl f6)), (h0, .inr (8, [.ref h1, .int v1, .int x1291, .int z1372, .int v4, .int v5]))] H := hP
              have hD : va_D A [(h1, .inl (c 0, 400, .inl f6)), (h0, .inr (8, [.ref h1, .int v1, .int x1291, .int z1372, .int v4, .int v5]))] := hD
              obtain rfl : z1373 = 0 := (tp_eq (X := z1373.toInt) (Y := 0) rfl (by decide)).mpr (by omega)
              have hP := hP.sub (ws' := [(h0, .inr (8, [.ref h1, .int v1, .int x1291, .int z1372, .int v4, .int v5])), (h1, .inl (c 0, 400, .inl f6))]) [1, 0] rfl
              have hD := hD.sub (ws' := [(h0, .inr (8, [.ref h1, .int v1, .int x1291, .int z1372, .int v4, .int v5])), (h1, .inl (c 0, 400, .inl f6))]) [1, 0] (by decide) rfl
              have hk0 : (0 : Int32).toInt = 0 := by decide
              exact rI hQ hx hb hr hlocks (by decide) hS (Nat.le_of_ble_eq_true rfl) (Nat.le_of_ble_eq_true rfl) dX9_readNumber_138 (fun t ht => ⟨x1291, z1372, v4, hx1291, gv4, by decide, (by omega), by rw [ht]; exact hP, hD⟩)
            · refine lv_iload hx hb dX9_readNumber_120 (lv_at hl 0 rfl) ?_
              refine lv_iload_n hx hb dX9_readNumber_122 rfl (lv_at hl 3 rfl) ?_
              refine B_icmp_lt (tgt := 132) (X := x1292.toInt) (Y := a1.toInt) hx hb dX9_readNumber_123 (by decide) rfl rfl (fun hc1376 => ?_) (fun hc1376 => ?_)
              · refine lv_aload_n hx hb dX9_readNumber_132 rfl (lv_at hl 2 rfl) ?_
                refine lv_iload_n hx hb dX9_readNumber_133 rfl (lv_at hl 1 rfl) ?_
                refine lv_iconst (v := 1) hx hb dX9_readNumber_134 (by decide) ?_
                have hk0 : (1 : Int32).toInt = 1 := by decide
                refine fI (run_V (n := 2) (ci := 8) ⟨hx, hb, hml, hown, hts⟩ (m_X9_fail l D c h0 H.size (.ref h1) v1 x1291 v3 v4 v5 z1001 1 gv1 hx1291 gv4 gv5) (hP.sub [0] rfl) (hD.sub [0] (by decide) rfl) hK hN rfl rfl kw_603 kw_589 kw_590 kw_114 kw_591 ⟨rfl, by decide +kernel⟩ ⟨(Nat.le_of_ble_eq_true rfl), (Nat.le_of_ble_eq_true rfl)⟩ rfl rfl rfl hl.1 rfl (Nat.le_of_ble_eq_true rfl) dX9_readNumber_135 ⟨(Nat.le_of_ble_eq_true rfl), (Nat.le_of_ble_eq_true rfl)⟩) hP hD hS hA [0] rfl (fun z1378 H locs t hB hj hS => ?_)
                obtain ⟨z1377, hq1379, hq1380, hP1, hD1⟩ := hB
                obtain ⟨hP, hD⟩ := hj (wr := [(h1, .inl (c 0, 400, .inl f6))]) (w1 := [(h0, .inr (8, [.ref h1, .int v1, .int x1291, .int z1377, .int v4, .int v5]))]) [1] rfl (by decide) (by decide) hP1 hD1
                have hP : va_P D vwCl [(h1, .inl (c 0, 400, .inl f6)), (h0, .inr (8, [.ref h1, .int v1, .int x1291, .int z1377, .int v4, .int v5]))] H := hP
                have hD : va_D A [(h1, .inl (c 0, 400, .inl f6)), (h0, .inr (8, [.ref h1, .int v1, .int x1291, .int z1377, .int v4, .int v5]))] := hD
                obtain rfl : z1378 = 0 := (tp_eq (X := z1378.toInt) (Y := 0) rfl (by decide)).mpr (by omega)
                have hP := hP.sub (ws' := [(h0, .inr (8, [.ref h1, .int v1, .int x1291, .int z1377, .int v4, .int v5])), (h1, .inl (c 0, 400, .inl f6))]) [1, 0] rfl
                have hD := hD.sub (ws' := [(h0, .inr (8, [.ref h1, .int v1, .int x1291, .int z1377, .int v4, .int v5])), (h1, .inl (c 0, 400, .inl f6))]) [1, 0] (by decide) rfl
                have hk0 : (0 : Int32).toInt = 0 := by decide
                exact rI hQ hx hb hr hlocks (by decide) hS (Nat.le_of_ble_eq_true rfl) (Nat.le_of_ble_eq_true rfl) dX9_readNumber_138 (fun t ht => ⟨x1291, z1377, v4, hx1291, gv4, by decide, (by omega), by rw [ht]; exact hP, hD⟩)
              · refine lv_iload hx hb dX9_readNumber_126 (lv_at hl 0 rfl) ?_
                refine lv_iload_n hx hb dX9_readNumber_128 rfl (lv_at hl 4 rfl) ?_
                refine B_icmp_le (tgt := 139) (X := x1292.toInt) (Y := a2.toInt) hx hb dX9_readNumber_129 (by decide) rfl rfl (fun hc1381 => ?_) (fun hc1381 => ?_)
                · refine lv_aload_n hx hb dX9_readNumber_139 rfl (lv_at hl 2 rfl) ?_
                  refine lv_iload hx hb dX9_readNumber_140 (lv_at hl 0 rfl) ?_
                  refine va_put (D := D) (ci := 8) (v := .int x1292) (ty := .int) (C := RX9) (T := TX9) (N := 6) hx hb hts i_X9 tyX9 tyX9_ok nmX9 hown hK hP hD hS 0 rfl rfl 4 (by decide) (hts _ kw_158) (fun _ h9 => h9) rfl (tyX9_ok 4 (by decide)) rfl rfl (Nat.le_of_ble_eq_true rfl) dX9_readNumber_142 (fun H locs hP hD hS => ?_)
                  have hP : va_P D vwCl [(h0, .inr (8, [.ref h1, .int v1, .int x1291, .int v3, .int x1292, .int v5])), (h1, .inl (c 0, 400, .inl f6))] H := hP
                  have hD : va_D A [(h0, .inr (8, [.ref h1, .int v1, .int x1291, .int v3, .int x1292, .int v5])), (h1, .inl (c 0, 400, .inl f6))] := hD
                  refine lv_iconst (v := 1) hx hb dX9_readNumber_145 (by decide) ?_
                  have hk0 : (1 : Int32).toInt = 1 := by decide
                  exact rI hQ hx hb hr hlocks (by decide) hS (Nat.le_of_ble_eq_true rfl) (Nat.le_of_ble_eq_true rfl) dX9_readNumber_146 (fun t ht => ⟨x1291, v3, x1292, hx1291, ⟨by omega, by omega⟩, by decide, (by omega), by rw [ht]; exact hP, hD⟩)
                · refine lv_aload_n hx hb dX9_readNumber_132 rfl (lv_at hl 2 rfl) ?_
                  refine lv_iload_n hx hb dX9_readNumber_133 rfl (lv_at hl 1 rfl) ?_
                  refine lv_iconst (v := 1) hx hb dX9_readNumber_134 (by decide) ?_
                  have hk0 : (1 : Int32).toInt = 1 := by decide
                  refine fI (run_V (n := 2) (ci := 8) ⟨hx, hb, hml, hown, hts⟩ (m_X9_fail l D c h0 H.size (.ref h1) v1 x1291 v3 v4 v5 z1001 1 gv1 hx1291 gv4 gv5) (hP.sub [0] rfl) (hD.sub [0] (by decide) rfl) hK hN rfl rfl kw_603 kw_589 kw_590 kw_114 kw_591 ⟨rfl, by decide +kernel⟩ ⟨(Nat.le_of_ble_eq_true rfl), (Nat.le_of_ble_eq_true rfl)⟩ rfl rfl rfl hl.1 rfl (Nat.le_of_ble_eq_true rfl) dX9_readNumber_135 ⟨(Nat.le_of_ble_eq_true rfl), (Nat.le_of_ble_eq_true rfl)⟩) hP hD hS hA [0] rfl (fun z1383 H locs t hB hj hS => ?_)
                  obtain ⟨z1382, hq1384, hq1385, hP1, hD1⟩ := hB
                  obtain ⟨hP, hD⟩ := hj (wr := [(h1, .inl (c 0, 400, .inl f6))]) (w1 := [(h0, .inr (8, [.ref h1, .int v1, .int x1291, .int z1382, .int v4, .int v5]))]) [1] rfl (by decide) (by decide) hP1 hD1
                  have hP : va_P D vwCl [(h1, .inl (c 0, 400, .inl f6)), (h0, .inr (8, [.ref h1, .int v1, .int x1291, .int z1382, .int v4, .int v5]))] H := hP
                  have hD : va_D A [(h1, .inl (c 0, 400, .inl f6)), (h0, .inr (8, [.ref h1, .int v1, .int x1291, .int z1382, .int v4, .int v5]))] := hD
                  obtain rfl : z1383 = 0 := (tp_eq (X := z1383.toInt) (Y := 0) rfl (by decide)).mpr (by omega)
                  have hP := hP.sub (ws' := [(h0, .inr (8, [.ref h1, .int v1, .int x1291, .int z1382, .int v4, .int v5])), (h1, .inl (c 0, 400, .inl f6))]) [1, 0] rfl
                  have hD := hD.sub (ws' := [(h0, .inr (8, [.ref h1, .int v1, .int x1291, .int z1382, .int v4, .int v5])), (h1, .inl (c 0, 400, .inl f6))]) [1, 0] (by decide) rfl
                  have hk0 : (0 : Int32).toInt = 0 := by decide
                  exact rI hQ hx hb hr hlocks (by decide) hS (Nat.le_of_ble_eq_true rfl) (Nat.le_of_ble_eq_true rfl) dX9_readNumber_138 (fun t ht => ⟨x1291, z1382, v4, hx1291, gv4, by decide, (by omega), by rw [ht]; exact hP, hD⟩)
          · refine lv_aload_n hx hb dX9_readNumber_103 rfl (lv_at hl 2 rfl) ?_
            refine lv_iload_n hx hb dX9_readNumber_104 rfl (lv_at hl 1 rfl) ?_
            refine lv_iconst (v := 0) hx hb dX9_readNumber_105 (by decide) ?_
            have hk0 : (0 : Int32).toInt = 0 := by decide
            refine fI (run_V (n := 2) (ci := 8) ⟨hx, hb, hml, hown, hts⟩ (m_X9_fail l D c h0 H.size (.ref h1) v1 x1291 v3 v4 v5 z1001 0 gv1 hx1291 gv4 gv5) (hP.sub [0] rfl) (hD.sub [0] (by decide) rfl) hK hN rfl rfl kw_603 kw_589 kw_590 kw_114 kw_591 ⟨rfl, by decide +kernel⟩ ⟨(Nat.le_of_ble_eq_true rfl), (Nat.le_of_ble_eq_true rfl)⟩ rfl rfl rfl hl.1 rfl (Nat.le_of_ble_eq_true rfl) dX9_readNumber_106 ⟨(Nat.le_of_ble_eq_true rfl), (Nat.le_of_ble_eq_true rfl)⟩) hP hD hS hA [0] rfl (fun z1387 H locs t hB hj hS => ?_)
            obtain ⟨z1386, hq1388, hq1389, hP1, hD1⟩ := hB
            obtain ⟨hP, hD⟩ := hj (wr := [(h1, .inl (c 0, 400, .inl f6))]) (w1 := [(h0, .inr (8, [.ref h1, .int v1, .int x1291, .int z1386, .int v4, .int v5]))]) [1] rfl (by decide) (by decide) hP1 hD1
            have hP : va_P D vwCl [(h1, .inl (c 0, 400, .inl f6)), (h0, .inr (8, [.ref h1, .int v1, .int x1291, .int z1386, .int v4, .int v5]))] H := hP
            have hD : va_D A [(h1, .inl (c 0, 400, .inl f6)), (h0, .inr (8, [.ref h1, .int v1, .int x1291, .int z1386, .int v4, .int v5]))] := hD
            obtain rfl : z1387 = 0 := (tp_eq (X := z1387.toInt) (Y := 0) rfl (by decide)).mpr (by omega)
            have hP := hP.sub (ws' := [(h0, .inr (8, [.ref h1, .int v1, .int x1291, .int z1386, .int v4, .int v5])), (h1, .inl (c 0, 400, .inl f6))]) [1, 0] rfl
            have hD := hD.sub (ws' := [(h0, .inr (8, [.ref h1, .int v1, .int x1291, .int z1386, .int v4, .int v5])), (h1, .inl (c 0, 400, .inl f6))]) [1, 0] (by decide) rfl
            have hk0 : (0 : Int32).toInt = 0 := by decide
            exact rI hQ hx hb hr hlocks (by decide) hS (Nat.le_of_ble_eq_true rfl) (Nat.le_of_ble_eq_true rfl) dX9_readNumber_109 (fun t ht => ⟨x1291, z1386, v4, hx1291, gv4, by decide, (by omega), by rw [ht]; exact hP, hD⟩)
        · refine lv_aload_n hx hb dX9_readNumber_38 rfl (lv_at hl 2 rfl) ?_
          refine va_get (D := D) (ci := 8) (v := .ref h1) (C := RX9) (T := TX9) (N := 6) hx hb hts i_X9 hown hK hP 0 rfl rfl 0 (by decide) (hts _ kw_147) (fun _ h9 => h9) rfl dX9_readNumber_39 ?_
          refine lv_aload_n hx hb dX9_readNumber_42 rfl (lv_at hl 2 rfl) ?_
          refine va_get (D := D) (ci := 8) (v := .int x1291) (C := RX9) (T := TX9) (N := 6) hx hb hts i_X9 hown hK hP 0 rfl rfl 2 (by decide) (hts _ kw_152) (fun _ h9 => h9) rfl dX9_readNumber_43 ?_
          refine va_iald hx hb hK hP 1 0 rfl rfl (in_of (by omega) (by omega)) dX9_readNumber_46 ?_
          refine rd gf6 (fun z1390 ez1390 hz1390 => ?_)
          refine lv_bipush (v := 57) hx hb dX9_readNumber_47 (by decide) ?_
          refine B_icmp_gt (tgt := 95) (X := z1390.toInt) (Y := 57) hx hb dX9_readNumber_49 (by decide) rfl (by decide) (fun hc1391 => ?_) (fun hc1391 => ?_)
          · refine lv_aload_n hx hb dX9_readNumber_95 rfl (lv_at hl 2 rfl) ?_
            refine va_get (D := D) (ci := 8) (v := .int x1291) (C := RX9) (T := TX9) (N := 6) hx hb hts i_X9 hown hK hP 0 rfl rfl 2 (by decide) (hts _ kw_152) (fun _ h9 => h9) rfl dX9_readNumber_96 ?_
            refine lv_iload_n hx hb dX9_readNumber_99 rfl (lv_at hl 1 rfl) ?_
            refine B_icmp_ne (tgt := 110) (X := x1291.toInt) (Y := z1001.toInt) hx hb dX9_readNumber_100 (by decide) rfl rfl (fun hc1392 => ?_) (fun hc1392 => ?_)
            · refine lv_aload_n hx hb dX9_readNumber_110 rfl (lv_at hl 2 rfl) ?_
              refine va_get (D := D) (ci := 8) (v := .int x1291) (C := RX9) (T := TX9) (N := 6) hx hb hts i_X9 hown hK hP 0 rfl rfl 2 (by decide) (hts _ kw_152) (fun _ h9 => h9) rfl dX9_readNumber_111 ?_
              refine lv_iload_n hx hb dX9_readNumber_114 rfl (lv_at hl 1 rfl) ?_
              refine lv_isub hx hb dX9_readNumber_115 ?_
              refine q_sub (X := x1291.toInt) (Y := z1001.toInt) rfl rfl (by omega) (by omega) (fun z1393 ez1393 hz1393 => ?_)
              refine lv_iconst (v := 5) hx hb dX9_readNumber_116 (by decide) ?_
              refine B_icmp_gt (tgt := 132) (X := z1393.toInt) (Y := 5) hx hb dX9_readNumber_117 (by decide) rfl (by decide) (fun hc1394 => ?_) (fun hc1394 => ?_)
              · refine lv_aload_n hx hb dX9_readNumber_132 rfl (lv_at hl 2 rfl) ?_
                refine lv_iload_n hx hb dX9_readNumber_133 rfl (lv_at hl 1 rfl) ?_
                refine lv_iconst (v := 1) hx hb dX9_readNumber_134 (by decide) ?_
                have hk0 : (1 : Int32).toInt = 1 := by decide
                refine fI (run_V (n := 2) (ci := 8) ⟨hx, hb, hml, hown, hts⟩ (m_X9_fail l D c h0 H.size (.ref h1) v1 x1291 v3 v4 v5 z1001 1 gv1 hx1291 gv4 gv5) (hP.sub [0] rfl) (hD.sub [0] (by decide) rfl) hK hN rfl rfl kw_603 kw_589 kw_590 kw_114 kw_591 ⟨rfl, by decide +kernel⟩ ⟨(Nat.le_of_ble_eq_true rfl), (Nat.le_of_ble_eq_true rfl)⟩ rfl rfl rfl hl.1 rfl (Nat.le_of_ble_eq_true rfl) dX9_readNumber_135 ⟨(Nat.le_of_ble_eq_true rfl), (Nat.le_of_ble_eq_true rfl)⟩) hP hD hS hA [0] rfl (fun z1396 H locs t hB hj hS => ?_)
                obtain ⟨z1395, hq1397, hq1398, hP1, hD1⟩ := hB
                obtain ⟨hP, hD⟩ := hj (wr := [(h1, .inl (c 0, 400, .inl f6))]) (w1 := [(h0, .inr (8, [.ref h1, .int v1, .int x1291, .int z1395, .int v4, .int v5]))]) [1] rfl (by decide) (by decide) hP1 hD1
                have hP : va_P D vwCl [(h1, .inl (c 0, 400, .inl f6)), (h0, .inr (8, [.ref h1, .int v1, .int x1291, .int z1395, .int v4, .int v5]))] H := hP
                have hD : va_D A [(h1, .inl (c 0, 400, .inl f6)), (h0, .inr (8, [.ref h1, .int v1, .int x1291, .int z1395, .int v4, .int v5]))] := hD
                obtain rfl : z1396 = 0 := (tp_eq (X := z1396.toInt) (Y := 0) rfl (by decide)).mpr (by omega)
                have hP := hP.sub (ws' := [(h0, .inr (8, [.ref h1, .int v1, .int x1291, .int z1395, .int v4, .int v5])), (h1, .inl (c 0, 400, .inl f6))]) [1, 0] rfl
                have hD := hD.sub (ws' := [(h0, .inr (8, [.ref h1, .int v1, .int x1291, .int z1395, .int v4, .int v5])), (h1, .inl (c 0, 400, .inl f6))]) [1, 0] (by decide) rfl
                have hk0 : (0 : Int32).toInt = 0 := by decide
                exact rI hQ hx hb hr hlocks (by decide) hS (Nat.le_of_ble_eq_true rfl) (Nat.le_of_ble_eq_true rfl) dX9_readNumber_138 (fun t ht => ⟨x1291, z1395, v4, hx1291, gv4, by decide, (by omega), by rw [ht]; exact hP, hD⟩)
              · refine lv_iload hx hb dX9_readNumber_120 (lv_at hl 0 rfl) ?_
                refine lv_iload_n hx hb dX9_readNumber_122 rfl (lv_at hl 3 rfl) ?_
                refine B_icmp_lt (tgt := 132) (X := x1292.toInt) (Y := a1.toInt) hx hb dX9_readNumber_123 (by decide) rfl rfl (fun hc1399 => ?_) (fun hc1399 => ?_)
                · refine lv_aload_n hx hb dX9_readNumber_132 rfl (lv_at hl 2 rfl) ?_
                  refine lv_iload_n hx hb dX9_readNumber_133 rfl (lv_at hl 1 rfl) ?_
                  refine lv_iconst (v := 1) hx hb dX9_readNumber_134 (by decide) ?_
                  have hk0 : (1 : Int32).toInt = 1 := by decide
                  refine fI (run_V (n := 2) (ci := 8) ⟨hx, hb, hml, hown, hts⟩ (m_X9_fail l D c h0 H.size (.ref h1) v1 x1291 v3 v4 v5 z1001 1 gv1 hx1291 gv4 gv5) (hP.sub [0] rfl) (hD.sub [0] (by decide) rfl) hK hN rfl rfl kw_603 kw_589 kw_590 kw_114 kw_591 ⟨rfl, by decide +kernel⟩ ⟨(Nat.le_of_ble_eq_true rfl), (Nat.le_of_ble_eq_true rfl)⟩ rfl rfl rfl hl.1 rfl (Nat.le_of_ble_eq_true rfl) dX9_readNumber_135 ⟨(Nat.le_of_ble_eq_true rfl), (Nat.le_of_ble_eq_true rfl)⟩) hP hD hS hA [0] rfl (fun z1401 H locs t hB hj hS => ?_)
                  obtain ⟨z1400, hq1402, hq1403, hP1, hD1⟩ := hB
                  obtain ⟨hP, hD⟩ := hj (wr := [(h1, .inl (c 0, 400, .inl f6))]) (w1 := [(h0, .inr (8, [.ref h1, .int v1, .int x1291, .int z1400, .int v4, .int v5]))]) [1] rfl (by decide) (by decide) hP1 hD1
                  have hP : va_P D vwCl [(h1, .inl (c 0, 400, .inl f6)), (h0, .inr (8, [.ref h1, .int v1, .int x1291, .int z1400, .int v4, .int v5]))] H := hP
                  have hD : va_D A [(h1, .inl (c 0, 400, .inl f6)), (h0, .inr (8, [.ref h1, .int v1, .int x1291, .int z1400, .int v4, .int v5]))] := hD
                  obtain rfl : z1401 = 0 := (tp_eq (X := z1401.toInt) (Y := 0) rfl (by decide)).mpr (by omega)
                  have hP := hP.sub (ws' := [(h0, .inr (8, [.ref h1, .int v1, .int x1291, .int z1400, .int v4, .int v5])), (h1, .inl (c 0, 400, .inl f6))]) [1, 0] rfl
                  have hD := hD.sub (ws' := [(h0, .inr (8, [.ref h1, .int v1, .int x1291, .int z1400, .int v4, .int v5])), (h1, .inl (c 0, 400, .inl f6))]) [1, 0] (by decide) rfl
                  have hk0 : (0 : Int32).toInt = 0 := by decide
                  exact rI hQ hx hb hr hlocks (by decide) hS (Nat.le_of_ble_eq_true rfl) (Nat.le_of_ble_eq_true rfl) dX9_readNumber_138 (fun t ht => ⟨x1291, z1400, v4, hx1291, gv4, by decide, (by omega), by rw [ht]; exact hP, hD⟩)
                · refine lv_iload hx hb dX9_readNumber_126 (lv_at hl 0 rfl) ?_
                  refine lv_iload_n hx hb dX9_readNumber_128 rfl (lv_at hl 4 rfl) ?_
                  refine B_icmp_le (tgt := 139) (X := x1292.toInt) (Y := a2.toInt) hx hb dX9_readNumber_129 (by decide) rfl rfl (fun hc1404 => ?_) (fun hc1404 => ?_)
                  · refine lv_aload_n hx hb dX9_readNumber_139 rfl (lv_at hl 2 rfl) ?_
                    refine lv_iload hx hb dX9_readNumber_140 (lv_at hl 0 rfl) ?_
                    refine va_put (D := D) (ci := 8) (v := .int x1292) (ty := .int) (C := RX9) (T := TX9) (N := 6) hx hb hts i_X9 tyX9 tyX9_ok nmX9 hown hK hP hD hS 0 rfl rfl 4 (by decide) (hts _ kw_158) (fun _ h9 => h9) rfl (tyX9_ok 4 (by decide)) rfl rfl (Nat.le_of_ble_eq_true rfl) dX9_readNumber_142 (fun H locs hP hD hS => ?_)
                    have hP : va_P D vwCl [(h0, .inr (8, [.ref h1, .int v1, .int x1291, .int v3, .int x1292, .int v5])), (h1, .inl (c 0, 400, .inl f6))] H := hP
                    have hD : va_D A [(h0, .inr (8, [.ref h1, .int v1, .int x1291, .int v3, .int x1292, .int v5])), (h1, .inl (c 0, 400, .inl f6))] := hD
                    refine lv_iconst (v := 1) hx hb dX9_readNumber_145 (by decide) ?_
                    have hk0 : (1 : Int32).toInt = 1 := by decide
                    exact rI hQ hx hb hr hlocks (by decide) hS (Nat.le_of_ble_eq_true rfl) (Nat.le_of_ble_eq_true rfl) dX9_readNumber_146 (fun t ht => ⟨x1291, v3, x1292, hx1291, ⟨by omega, by omega⟩, by decide, (by omega), by rw [ht]; exact hP, hD⟩)
                  · refine lv_aload_n hx hb dX9_readNumber_132 rfl (lv_at hl 2 rfl) ?_
                    refine lv_iload_n hx hb dX9_readNumber_133 rfl (lv_at hl 1 rfl) ?_
                    refine lv_iconst (v := 1) hx hb dX9_readNumber_134 (by decide) ?_
                    have hk0 : (1 : Int32).toInt = 1 := by decide
                    refine fI (run_V (n := 2) (ci := 8) ⟨hx, hb, hml, hown, hts⟩ (m_X9_fail l D c h0 H.size (.ref h1) v1 x1291 v3 v4 v5 z1001 1 gv1 hx1291 gv4 gv5) (hP.sub [0] rfl) (hD.sub [0] (by decide) rfl) hK hN rfl rfl kw_603 kw_589 kw_590 kw_114 kw_591 ⟨rfl, by decide +kernel⟩ ⟨(Nat.le_of_ble_eq_true rfl), (Nat.le_of_ble_eq_true rfl)⟩ rfl rfl rfl hl.1 rfl (Nat.le_of_ble_eq_true rfl) dX9_readNumber_135 ⟨(Nat.le_of_ble_eq_true rfl), (Nat.le_of_ble_eq_true rfl)⟩) hP hD hS hA [0] rfl (fun z1406 H locs t hB hj hS => ?_)
                    obtain ⟨z1405, hq1407, hq1408, hP1, hD1⟩ := hB
                    obtain ⟨hP, hD⟩ := hj (wr := [(h1, .inl (c 0, 400, .inl f6))]) (w1 := [(h0, .inr (8, [.ref h1, .int v1, .int x1291, .int z1405, .int v4, .int v5]))]) [1] rfl (by decide) (by decide) hP1 hD1
                    have hP : va_P D vwCl [(h1, .inl (c 0, 400, .inl f6)), (h0, .inr (8, [.ref h1, .int v1, .int x1291, .int z1405, .int v4, .int v5]))] H := hP
                    have hD : va_D A [(h1, .inl (c 0, 400, .inl f6)), (h0, .inr (8, [.ref h1, .int v1, .int x1291, .int z1405, .int v4, .int v5]))] := hD
                    obtain rfl : z1406 = 0 := (tp_eq (X := z1406.toInt) (Y := 0) rfl (by decide)).mpr (by omega)
                    have hP := hP.sub (ws' := [(h0, .inr (8, [.ref h1, .int v1, .int x1291, .int z1405, .int v4, .int v5])), (h1, .inl (c 0, 400, .inl f6))]) [1, 0] rfl
                    have hD := hD.sub (ws' := [(h0, .inr (8, [.ref h1, .int v1, .int x1291, .int z1405, .int v4, .int v5])), (h1, .inl (c 0, 400, .inl f6))]) [1, 0] (by decide) rfl
                    have hk0 : (0 : Int32).toInt = 0 := by decide
                    exact rI hQ hx hb hr hlocks (by decide) hS (Nat.le_of_ble_eq_true rfl) (Nat.le_of_ble_eq_true rfl) dX9_readNumber_138 (fun t ht => ⟨x1291, z1405, v4, hx1291, gv4, by decide, (by omega), by rw [ht]; exact hP, hD⟩)
            · refine lv_aload_n hx hb dX9_readNumber_103 rfl (lv_at hl 2 rfl) ?_
              refine lv_iload_n hx hb dX9_readNumber_104 rfl (lv_at hl 1 rfl) ?_
              refine lv_iconst (v := 0) hx hb dX9_readNumber_105 (by decide) ?_
              have hk0 : (0 : Int32).toInt = 0 := by decide
              refine fI (run_V (n := 2) (ci := 8) ⟨hx, hb, hml, hown, hts⟩ (m_X9_fail l D c h0 H.size (.ref h1) v1 x1291 v3 v4 v5 z1001 0 gv1 hx1291 gv4 gv5) (hP.sub [0] rfl) (hD.sub [0] (by decide) rfl) hK hN rfl rfl kw_603 kw_589 kw_590 kw_114 kw_591 ⟨rfl, by decide +kernel⟩ ⟨(Nat.le_of_ble_eq_true rfl), (Nat.le_of_ble_eq_true rfl)⟩ rfl rfl rfl hl.1 rfl (Nat.le_of_ble_eq_true rfl) dX9_readNumber_106 ⟨(Nat.le_of_ble_eq_true rfl), (Nat.le_of_ble_eq_true rfl)⟩) hP hD hS hA [0] rfl (fun z1410 H locs t hB hj hS => ?_)
              obtain ⟨z1409, hq1411, hq1412, hP1, hD1⟩ := hB
              obtain ⟨hP, hD⟩ := hj (wr := [(h1, .inl (c 0, 400, .inl f6))]) (w1 := [(h0, .inr (8, [.ref h1, .int v1, .int x1291, .int z1409, .int v4, .int v5]))]) [1] rfl (by decide) (by decide) hP1 hD1
              have hP : va_P D vwCl [(h1, .inl (c 0, 400, .inl f6)), (h0, .inr (8, [.ref h1, .int v1, .int x1291, .int z1409, .int v4, .int v5]))] H := hP
              have hD : va_D A [(h1, .inl (c 0, 400, .inl f6)), (h0, .inr (8, [.ref h1, .int v1, .int x1291, .int z1409, .int v4, .int v5]))] := hD
              obtain rfl : z1410 = 0 := (tp_eq (X := z1410.toInt) (Y := 0) rfl (by decide)).mpr (by omega)
              have hP := hP.sub (ws' := [(h0, .inr (8, [.ref h1, .int v1, .int x1291, .int z1409, .int v4, .int v5])), (h1, .inl (c 0, 400, .inl f6))]) [1, 0] rfl
              have hD := hD.sub (ws' := [(h0, .inr (8, [.ref h1, .int v1, .int x1291, .int z1409, .int v4, .int v5])), (h1, .inl (c 0, 400, .inl f6))]) [1, 0] (by decide) rfl
              have hk0 : (0 : Int32).toInt = 0 := by decide
              exact rI hQ hx hb hr hlocks (by decide) hS (Nat.le_of_ble_eq_true rfl) (Nat.le_of_ble_eq_true rfl) dX9_readNumber_109 (fun t ht => ⟨x1291, z1409, v4, hx1291, gv4, by decide, (by omega), by rw [ht]; exact hP, hD⟩)
          · refine lv_aload_n hx hb dX9_readNumber_52 rfl (lv_at hl 2 rfl) ?_
            refine va_get (D := D) (ci := 8) (v := .int x1291) (C := RX9) (T := TX9) (N := 6) hx hb hts i_X9 hown hK hP 0 rfl rfl 2 (by decide) (hts _ kw_152) (fun _ h9 => h9) rfl dX9_readNumber_53 ?_
            refine lv_iload_n hx hb dX9_readNumber_56 rfl (lv_at hl 1 rfl) ?_
            refine lv_isub hx hb dX9_readNumber_57 ?_
            refine q_sub (X := x1291.toInt) (Y := z1001.toInt) rfl rfl (by omega) (by omega) (fun z1413 ez1413 hz1413 => ?_)
            refine lv_iconst (v := 5) hx hb dX9_readNumber_58 (by decide) ?_
            refine B_icmp_ge (tgt := 82) (X := z1413.toInt) (Y := 5) hx hb dX9_readNumber_59 (by decide) rfl (by decide) (fun hc1414 => ?_) (fun hc1414 => ?_)
            · refine lv_aload_n hx hb dX9_readNumber_82 rfl (lv_at hl 2 rfl) ?_
              refine lv_dup hx hb dX9_readNumber_83 rfl ?_
              refine va_get (D := D) (ci := 8) (v := .int x1291) (C := RX9) (T := TX9) (N := 6) hx hb hts i_X9 hown hK hP 0 rfl rfl 2 (by decide) (hts _ kw_152) (fun _ h9 => h9) rfl dX9_readNumber_84 ?_
              refine lv_iconst (v := 1) hx hb dX9_readNumber_87 (by decide) ?_
              refine lv_iadd hx hb dX9_readNumber_88 ?_
              refine q_add (X := x1291.toInt) (Y := 1) rfl (by decide) (by omega) (by omega) (fun z1415 ez1415 hz1415 => ?_)
              refine va_put (D := D) (ci := 8) (v := .int z1415) (ty := .int) (C := RX9) (T := TX9) (N := 6) hx hb hts i_X9 tyX9 tyX9_ok nmX9 hown hK hP hD hS 0 rfl rfl 2 (by decide) (hts _ kw_152) (fun _ h9 => h9) rfl (tyX9_ok 2 (by decide)) rfl rfl (Nat.le_of_ble_eq_true rfl) dX9_readNumber_89 (fun H locs hP hD hS => ?_)
              have hP : va_P D vwCl [(h0, .inr (8, [.ref h1, .int v1, .int z1415, .int v3, .int v4, .int v5])), (h1, .inl (c 0, 400, .inl f6))] H := hP
              have hD : va_D A [(h0, .inr (8, [.ref h1, .int v1, .int z1415, .int v3, .int v4, .int v5])), (h1, .inl (c 0, 400, .inl f6))] := hD
              refine lv_goto (tgt := 13) hx hb dX9_readNumber_92 (by decide) ?_
              exact ih1 z1415 ⟨by omega, by omega⟩ x1292 (by omega) H locs hP hD hS ls (lv_sub hl [0, 1, 2, 3, 4] rfl)
            · refine lv_iload hx hb dX9_readNumber_62 (lv_at hl 0 rfl) ?_
              refine lv_bipush (v := 10) hx hb dX9_readNumber_64 (by decide) ?_
              refine lv_imul hx hb dX9_readNumber_66 ?_
              refine o_any (fun z1416 ez1416 => ?_)
              refine lv_aload_n hx hb dX9_readNumber_67 rfl (lv_at hl 2 rfl) ?_
              refine va_get (D := D) (ci := 8) (v := .ref h1) (C := RX9) (T := TX9) (N := 6) hx hb hts i_X9 hown hK hP 0 rfl rfl 0 (by decide) (hts _ kw_147) (fun _ h9 => h9) rfl dX9_readNumber_68 ?_
              refine lv_aload_n hx hb dX9_readNumber_71 rfl (lv_at hl 2 rfl) ?_
              refine va_get (D := D) (ci := 8) (v := .int x1291) (C := RX9) (T := TX9) (N := 6) hx hb hts i_X9 hown hK hP 0 rfl rfl 2 (by decide) (hts _ kw_152) (fun _ h9 => h9) rfl dX9_readNumber_72 ?_
              refine va_iald hx hb hK hP 1 0 rfl rfl (in_of (by omega) (by omega)) dX9_readNumber_75 ?_
              refine rd gf6 (fun z1417 ez1417 hz1417 => ?_)
              refine lv_iadd hx hb dX9_readNumber_76 ?_
              refine o_any (fun z1418 ez1418 => ?_)
              refine lv_bipush (v := 48) hx hb dX9_readNumber_77 (by decide) ?_
              refine lv_isub hx hb dX9_readNumber_79 ?_
              refine o_any (fun z1419 ez1419 => ?_)
              refine lv_istore (lv' := [(4, .int z1419), (3, .int z1001), (0, .ref h0), (1, .int a1), (2, .int a2)]) hx hb dX9_readNumber_80 hl (by decide) rfl (fun ls hl => ?_)
              refine lv_aload_n hx hb dX9_readNumber_82 rfl (lv_at hl 2 rfl) ?_
              refine lv_dup hx hb dX9_readNumber_83 rfl ?_
              refine va_get (D := D) (ci := 8) (v := .int x1291) (C := RX9) (T := TX9) (N := 6) hx hb hts i_X9 hown hK hP 0 rfl rfl 2 (by decide) (hts _ kw_152) (fun _ h9 => h9) rfl dX9_readNumber_84 ?_
              refine lv_iconst (v := 1) hx hb dX9_readNumber_87 (by decide) ?_
              refine lv_iadd hx hb dX9_readNumber_88 ?_
              refine q_add (X := x1291.toInt) (Y := 1) rfl (by decide) (by omega) (by omega) (fun z1420 ez1420 hz1420 => ?_)
              refine va_put (D := D) (ci := 8) (v := .int z1420) (ty := .int) (C := RX9) (T := TX9) (N := 6) hx hb hts i_X9 tyX9 tyX9_ok nmX9 hown hK hP hD hS 0 rfl rfl 2 (by decide) (hts _ kw_152) (fun _ h9 => h9) rfl (tyX9_ok 2 (by decide)) rfl rfl (Nat.le_of_ble_eq_true rfl) dX9_readNumber_89 (fun H locs hP hD hS => ?_)
              have hP : va_P D vwCl [(h0, .inr (8, [.ref h1, .int v1, .int z1420, .int v3, .int v4, .int v5])), (h1, .inl (c 0, 400, .inl f6))] H := hP
              have hD : va_D A [(h0, .inr (8, [.ref h1, .int v1, .int z1420, .int v3, .int v4, .int v5])), (h1, .inl (c 0, 400, .inl f6))] := hD
              refine lv_goto (tgt := 13) hx hb dX9_readNumber_92 (by decide) ?_
              exact ih1 z1420 ⟨by omega, by omega⟩ z1419 (by omega) H locs hP hD hS ls (lv_sub hl [0, 1, 2, 3, 4] rfl)
  have hk0 : (0 : Int32).toInt = 0 := by decide
  exact lp1 (((400 : Int) - z1001.toInt).toNat + 1) z1001 hq1003 0 (by omega) H locs hP hD hS ls (lv_sub hl [0, 1, 2, 3, 4] rfl)
