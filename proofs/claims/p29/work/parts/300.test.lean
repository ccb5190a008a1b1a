set_option maxHeartbeats 4000000 in
set_option maxRecDepth 100000 in
theorem m_X4_has (l : Launch) (D : va_G) (c : Nat → ClassId) (h0 : Nat) (sz : Nat) (v2 : Int32) (v3 : Int32) (u5 : Value) (u6 : Value) (u7 : Value) (u8 : Value) (u9 : Value) (u10 : Value) (u11 : Value) (a1 : Int32) (gv2 : 0 ≤ v2.toInt ∧ v2.toInt ≤ 14) (gv3 : 0 ≤ v3.toInt ∧ v3.toInt ≤ 16383) : Met l yX4_has (Cond.code yX4_has cX4_has 2 (some .boolean) :: TB) ({ frames := 0, cells := 0, slots := 0, locals := 0 } : Room) (va_Pc [.ref h0, .int a1] (PW D c [(h0, .inr (3, [.int v2, .int v3, u5, u6, u7, u8, u9, u10, u11]))] sz)) ((QIx (fun A r t => (0 ≤ r.toInt ∧ r.toInt ≤ 1) ∧ ((r.toInt = 0 ∧ a1.toInt < 0) ∨ (r.toInt = 0 ∧ 0 ≤ a1.toInt ∧ v2.toInt ≤ a1.toInt) ∨ (r.toInt = 1 ∧ 0 ≤ a1.toInt ∧ a1.toInt < v2.toInt)) ∧ va_P D vwCl [(h0, .inr (3, [.int v2, .int v3, u5, u6, u7, u8, u9, u10, u11]))] t.heap ∧ va_D A [(h0, .inr (3, [.int v2, .int v3, u5, u6, u7, u8, u9, u10, u11]))])) (va_A [(h0, .inr (3, [.int v2, .int v3, u5, u6, u7, u8, u9, u10, u11]))] sz)) 0 0 (va_A [(h0, .inr (3, [.int v2, .int v3, u5, u6, u7, u8, u9, u10, u11]))] sz) := by
  refine start2 (by decide +kernel) (Nat.le_of_ble_eq_true rfl) ?_
  intro p e s m below meth cd A ls Q hx hb hr hml hts hown hlocks hin hA hS hK hP hD hN hl hQ
  have hown : s.vm.findClass RX4 = some m.cls := hown
  have hl : lv_has ls 2 [(0, .ref h0), (1, .int a1)] := hl
  have hP : va_P D vwCl [(h0, .inr (3, [.int v2, .int v3, u5, u6, u7, u8, u9, u10, u11]))] s.heap := hP
  refine lv_iload_n hx hb dX4_has_0 rfl (lv_at hl 1 rfl) ?_
  refine B_if_lt (tgt := 16) (X := a1.toInt) hx hb dX4_has_1 (by decide) rfl (fun hc1001 => ?_) (fun hc1001 => ?_)
  · refine lv_iconst (v := 0) hx hb dX4_has_16 (by decide) ?_
    have hk0 : (0 : Int32).toInt = 0 := by decide
    exact rI hQ hx hb hr hlocks (by decide) hS (Nat.le_of_ble_eq_true rfl) (Nat.le_of_ble_eq_true rfl) dX4_has_17 (fun t ht => ⟨by decide, by omega, by rw [ht]; exact hP, hD⟩)
  · refine lv_iload_n hx hb dX4_has_4 rfl (lv_at hl 1 rfl) ?_
    refine lv_aload_n hx hb dX4_has_5 rfl (lv_at hl 0 rfl) ?_
    refine va_get (D := D) (ci := 3) (v := .int v2) (C := RX4) (T := TX4) (N := 9) hx hb hts i_X4 hown hK hP 0 rfl rfl 0 (by decide) (hts _ kw_212) (fun _ h9 => h9) rfl dX4_has_6 ?_
    refine B_icmp_ge (tgt := 16) (X := a1.toInt) (Y := v2.toInt) hx hb dX4_has_9 (by decide) rfl rfl (fun hc1002 => ?_) (fun hc1002 => ?_)
    · refine lv_iconst (v := 0) hx hb dX4_has_16 (by decide) ?_
      have hk0 : (0 : Int32).toInt = 0 := by decide
      exact rI hQ hx hb hr hlocks (by decide) hS (Nat.le_of_ble_eq_true rfl) (Nat.le_of_ble_eq_true rfl) dX4_has_17 (fun t ht => ⟨by decide, by omega, by rw [ht]; exact hP, hD⟩)
    · refine lv_iconst (v := 1) hx hb dX4_has_12 (by decide) ?_
      refine lv_goto (tgt := 17) hx hb dX4_has_13 (by decide) ?_
      have hk0 : (1 : Int32).toInt = 1 := by decide
      exact rI hQ hx hb hr hlocks (by decide) hS (Nat.le_of_ble_eq_true rfl) (Nat.le_of_ble_eq_true rfl) dX4_has_17 (fun t ht => ⟨by decide, by omega, by rw [ht]; exact hP, hD⟩)
set_option maxHeartbeats 4000000 in
set_option maxRecDepth 100000 in
theorem m_X4_tail (l : Launch) (D : va_G) (c : Nat → ClassId) (h0 h1 h2 : Nat) (sz : Nat) (v1 : Int32) (v2 : Int32) (u10 : Value) (u11 : Value) (u12 : Value) (u13 : Value) (u14 : Value) (f6 : Nat → Int32) (f8 : Nat → Int32) (a1 : Int32) (gv1 : 0 ≤ v1.toInt ∧ v1.toInt ≤ 14) (gv2 : 0 ≤ v2.toInt ∧ v2.toInt ≤ 16383) (gf6 : Rg f6 0 7) (gf8 : Rg f8 0 7) (ga1 : 0 ≤ a1.toInt ∧ a1.toInt ≤ 13) : Met l yX4_tail (Cond.code yX4_tail cX4_tail 2 (some .int) :: TB) ({ frames := 0, cells := 0, slots := 0, locals := 0 } : Room) (va_Pc [.ref h0, .int a1] (PW D c [(h0, .inr (3, [.int v1, .int v2, .ref h2, .ref h1, u10, u11, u12, u13, u14])), (h1, .inl (c 0, 14, .inl f6)), (h2, .inl (c 0, 14, .inl f8))] sz)) ((QIx (fun A r t => (0 ≤ r.toInt ∧ r.toInt ≤ 7) ∧ va_P D vwCl [(h0, .inr (3, [.int v1, .int v2, .ref h2, .ref h1, u10, u11, u12, u13, u14])), (h1, .inl (c 0, 14, .inl f6)), (h2, .inl (c 0, 14, .inl f8))] t.heap ∧ va_D A [(h0, .inr (3, [.int v1, .int v2, .ref h2, .ref h1, u10, u11, u12, u13, u14])), (h1, .inl (c 0, 14, .inl f6)), (h2, .inl (c 0, 14, .inl f8))])) (va_A [(h0, .inr (3, [.int v1, .int v2, .ref h2, .ref h1, u10, u11, u12, u13, u14])), (h1, .inl (c 0, 14, .inl f6)), (h2, .inl (c 0, 14, .inl f8))] sz)) 0 0 (va_A [(h0, .inr (3, [.int v1, .int v2, .ref h2, .ref h1, u10, u11, u12, u13, u14])), (h1, .inl (c 0, 14, .inl f6)), (h2, .inl (c 0, 14, .inl f8))] sz) := by
  refine start2 (by decide +kernel) (Nat.le_of_ble_eq_true rfl) ?_
  intro p e s m below meth cd A ls Q hx hb hr hml hts hown hlocks hin hA hS hK hP hD hN hl hQ
  have hown : s.vm.findClass RX4 = some m.cls := hown
  have hl : lv_has ls 2 [(0, .ref h0), (1, .int a1)] := hl
  have hP : va_P D vwCl [(h0, .inr (3, [.int v1, .int v2, .ref h2, .ref h1, u10, u11, u12, u13, u14])), (h1, .inl (c 0, 14, .inl f6)), (h2, .inl (c 0, 14, .inl f8))] s.heap := hP
  refine lv_aload_n hx hb dX4_tail_0 rfl (lv_at hl 0 rfl) ?_
  refine va_get (D := D) (ci := 3) (v := .int v2) (C := RX4) (T := TX4) (N := 9) hx hb hts i_X4 hown hK hP 0 rfl rfl 1 (by decide) (hts _ kw_218) (fun _ h9 => h9) rfl dX4_tail_1 ?_
  refine lv_iload_n hx hb dX4_tail_4 rfl (lv_at hl 1 rfl) ?_
  refine lv_ishr hx hb dX4_tail_5 ?_
  refine o_shr (X := v2.toInt) rfl (by omega) (fun z1001 hz1001 => ?_)
  refine lv_iconst (v := 1) hx hb dX4_tail_6 (by decide) ?_
  refine lv_iand hx hb dX4_tail_7 ?_
  refine o_mask (X := z1001.toInt) (M := 2) 1 rfl (by decide) (by decide) (by decide) (fun z1002 hz1002 => ?_)
  refine B_if_ne (tgt := 20) (X := z1002.toInt) hx hb dX4_tail_8 (by decide) rfl (fun hc1003 => ?_) (fun hc1003 => ?_)
  · refine lv_aload_n hx hb dX4_tail_20 rfl (lv_at hl 0 rfl) ?_
    refine va_get (D := D) (ci := 3) (v := .ref h1) (C := RX4) (T := TX4) (N := 9) hx hb hts i_X4 hown hK hP 0 rfl rfl 3 (by decide) (hts _ kw_227) (fun _ h9 => h9) rfl dX4_tail_21 ?_
    refine lv_iload_n hx hb dX4_tail_24 rfl (lv_at hl 1 rfl) ?_
    refine va_iald hx hb hK hP 1 0 rfl rfl (in_of (by omega) (by omega)) dX4_tail_25 ?_
    refine rd gf6 (fun z1004 ez1004 hz1004 => ?_)
    have etz1004 : z1004.toInt = (f6 (Int32.toNatClampNeg a1)).toInt := by rw [ez1004]
    exact rI hQ hx hb hr hlocks rfl hS (Nat.le_of_ble_eq_true rfl) (Nat.le_of_ble_eq_true rfl) dX4_tail_26 (fun t ht => ⟨hz1004, by rw [ht]; exact hP, hD⟩)
  · refine lv_aload_n hx hb dX4_tail_11 rfl (lv_at hl 0 rfl) ?_
    refine va_get (D := D) (ci := 3) (v := .ref h2) (C := RX4) (T := TX4) (N := 9) hx hb hts i_X4 hown hK hP 0 rfl rfl 2 (by decide) (hts _ kw_224) (fun _ h9 => h9) rfl dX4_tail_12 ?_
    refine lv_iload_n hx hb dX4_tail_15 rfl (lv_at hl 1 rfl) ?_
    refine va_iald hx hb hK hP 2 0 rfl rfl (in_of (by omega) (by omega)) dX4_tail_16 ?_
    refine rd gf8 (fun z1005 ez1005 hz1005 => ?_)
    refine lv_goto (tgt := 26) hx hb dX4_tail_17 (by decide) ?_
    have etz1005 : z1005.toInt = (f8 (Int32.toNatClampNeg a1)).toInt := by rw [ez1005]
    exact rI hQ hx hb hr hlocks rfl hS (Nat.le_of_ble_eq_true rfl) (Nat.le_of_ble_eq_true rfl) dX4_tail_26 (fun t ht => ⟨hz1005, by rw [ht]; exact hP, hD⟩)
set_option maxHeartbeats 4000000 in
set_option maxRecDepth 100000 in
theorem m_X4_head (l : Launch) (D : va_G) (c : Nat → ClassId) (h0 h1 h2 : Nat) (sz : Nat) (v1 : Int32) (v2 : Int32) (u10 : Value) (u11 : Value) (u12 : Value) (u13 : Value) (u14 : Value) (f6 : Nat → Int32) (f8 : Nat → Int32) (a1 : Int32) (gv1 : 0 ≤ v1.toInt ∧ v1.toInt ≤ 14) (gv2 : 0 ≤ v2.toInt ∧ v2.toInt ≤ 16383) (gf6 : Rg f6 0 7) (gf8 : Rg f8 0 7) (ga1 : 0 ≤ a1.toInt ∧ a1.toInt ≤ 13) : Met l yX4_head (Cond.code yX4_head cX4_head 2 (some .int) :: TB) ({ frames := 0, cells := 0, slots := 0, locals := 0 } : Room) (va_Pc [.ref h0, .int a1] (PW D c [(h0, .inr (3, [.int v1, .int v2, .ref h1, .ref h2, u10, u11, u12, u13, u14])), (h1, .inl (c 0, 14, .inl f6)), (h2, .inl (c 0, 14, .inl f8))] sz)) ((QIx (fun A r t => (0 ≤ r.toInt ∧ r.toInt ≤ 7) ∧ va_P D vwCl [(h0, .inr (3, [.int v1, .int v2, .ref h1, .ref h2, u10, u11, u12, u13, u14])), (h1, .inl (c 0, 14, .inl f6)), (h2, .inl (c 0, 14, .inl f8))] t.heap ∧ va_D A [(h0, .inr (3, [.int v1, .int v2, .ref h1, .ref h2, u10, u11, u12, u13, u14])), (h1, .inl (c 0, 14, .inl f6)), (h2, .inl (c 0, 14, .inl f8))])) (va_A [(h0, .inr (3, [.int v1, .int v2, .ref h1, .ref h2, u10, u11, u12, u13, u14])), (h1, .inl (c 0, 14, .inl f6)), (h2, .inl (c 0, 14, .inl f8))] sz)) 0 0 (va_A [(h0, .inr (3, [.int v1, .int v2, .ref h1, .ref h2, u10, u11, u12, u13, u14])), (h1, .inl (c 0, 14, .inl f6)), (h2, .inl (c 0, 14, .inl f8))] sz) := by
  refine start2 (by decide +kernel) (Nat.le_of_ble_eq_true rfl) ?_
  intro p e s m below meth cd A ls Q hx hb hr hml hts hown hlocks hin hA hS hK hP hD hN hl hQ
  have hown : s.vm.findClass RX4 = some m.cls := hown
  have hl : lv_has ls 2 [(0, .ref h0), (1, .int a1)] := hl
  have hP : va_P D vwCl [(h0, .inr (3, [.int v1, .int v2, .ref h1, .ref h2, u10, u11, u12, u13, u14])), (h1, .inl (c 0, 14, .inl f6)), (h2, .inl (c 0, 14, .inl f8))] s.heap := hP
  refine lv_aload_n hx hb dX4_head_0 rfl (lv_at hl 0 rfl) ?_
  refine va_get (D := D) (ci := 3) (v := .int v2) (C := RX4) (T := TX4) (N := 9) hx hb hts i_X4 hown hK hP 0 rfl rfl 1 (by decide) (hts _ kw_218) (fun _ h9 => h9) rfl dX4_head_1 ?_
  refine lv_iload_n hx hb dX4_head_4 rfl (lv_at hl 1 rfl) ?_
  refine lv_ishr hx hb dX4_head_5 ?_
  refine o_shr (X := v2.toInt) rfl (by omega) (fun z1001 hz1001 => ?_)
  refine lv_iconst (v := 1) hx hb dX4_head_6 (by decide) ?_
  refine lv_iand hx hb dX4_head_7 ?_
  refine o_mask (X := z1001.toInt) (M := 2) 1 rfl (by decide) (by decide) (by decide) (fun z1002 hz1002 => ?_)
  refine B_if_ne (tgt := 20) (X := z1002.toInt) hx hb dX4_head_8 (by decide) rfl (fun hc1003 => ?_) (fun hc1003 => ?_)
  · refine lv_aload_n hx hb dX4_head_20 rfl (lv_at hl 0 rfl) ?_
    refine va_get (D := D) (ci := 3) (v := .ref h1) (C := RX4) (T := TX4) (N := 9) hx hb hts i_X4 hown hK hP 0 rfl rfl 2 (by decide) (hts _ kw_224) (fun _ h9 => h9) rfl dX4_head_21 ?_
    refine lv_iload_n hx hb dX4_head_24 rfl (lv_at hl 1 rfl) ?_
    refine va_iald hx hb hK hP 1 0 rfl rfl (in_of (by omega) (by omega)) dX4_head_25 ?_
    refine rd gf6 (fun z1004 ez1004 hz1004 => ?_)
    have etz1004 : z1004.toInt = (f6 (Int32.toNatClampNeg a1)).toInt := by rw [ez1004]
    exact rI hQ hx hb hr hlocks rfl hS (Nat.le_of_ble_eq_true rfl) (Nat.le_of_ble_eq_true rfl) dX4_head_26 (fun t ht => ⟨hz1004, by rw [ht]; exact hP, hD⟩)
  · refine lv_aload_n hx hb dX4_head_11 rfl (lv_at hl 0 rfl) ?_
    refine va_get (D := D) (ci := 3) (v := .ref h2) (C := RX4) (T := TX4) (N := 9) hx hb hts i_X4 hown hK hP 0 rfl rfl 3 (by decide) (hts _ kw_227) (fun _ h9 => h9) rfl dX4_head_12 ?_
    refine lv_iload_n hx hb dX4_head_15 rfl (lv_at hl 1 rfl) ?_
    refine va_iald hx hb hK hP 2 0 rfl rfl (in_of (by omega) (by omega)) dX4_head_16 ?_
    refine rd gf8 (fun z1005 ez1005 hz1005 => ?_)
    refine lv_goto (tgt := 26) hx hb dX4_head_17 (by decide) ?_
    have etz1005 : z1005.toInt = (f8 (Int32.toNatClampNeg a1)).toInt := by rw [ez1005]
    exact rI hQ hx hb hr hlocks rfl hS (Nat.le_of_ble_eq_true rfl) (Nat.le_of_ble_eq_true rfl) dX4_head_26 (fun t ht => ⟨hz1005, by rw [ht]; exact hP, hD⟩)
set_option maxHeartbeats 4000000 in
set_option maxRecDepth 100000 in
theorem m_X4_away (l : Launch) (D : va_G) (c : Nat → ClassId) (h0 h1 h2 : Nat) (sz : Nat) (v1 : Int32) (v2 : Int32) (u11 : Value) (u12 : Value) (u13 : Value) (u14 : Value) (u15 : Value) (f3 : Nat → Int32) (f7 : Nat → Int32) (a1 : Int32) (gv1 : 0 ≤ v1.toInt ∧ v1.toInt ≤ 14) (gv2 : 0 ≤ v2.toInt ∧ v2.toInt ≤ 16383) (gf3 : Rg f3 0 16383) (gf7 : Rg f7 0 16383) (ga1 : 0 ≤ a1.toInt ∧ a1.toInt ≤ 7) : Met l yX4_away (Cond.code yX4_away cX4_away 2 (some .int) :: TB) ({ frames := 0, cells := 0, slots := 0, locals := 0 } : Room) (va_Pc [.ref h0, .int a1] (PW D c [(h0, .inr (3, [.int v1, .int v2, u11, u12, u13, u14, u15, .ref h1, .ref h2])), (h1, .inl (c 0, 8, .inl f3)), (h2, .inl (c 0, 8, .inl f7))] sz)) ((QIx (fun A r t => (0 ≤ r.toInt ∧ r.toInt ≤ 16383) ∧ va_P D vwCl [(h0, .inr (3, [.int v1, .int v2, u11, u12, u13, u14, u15, .ref h1, .ref h2])), (h1, .inl (c 0, 8, .inl f3)), (h2, .inl (c 0, 8, .inl f7))] t.heap ∧ va_D A [(h0, .inr (3, [.int v1, .int v2, u11, u12, u13, u14, u15, .ref h1, .ref h2])), (h1, .inl (c 0, 8, .inl f3)), (h2, .inl (c 0, 8, .inl f7))])) (va_A [(h0, .inr (3, [.int v1, .int v2, u11, u12, u13, u14, u15, .ref h1, .ref h2])), (h1, .inl (c 0, 8, .inl f3)), (h2, .inl (c 0, 8, .inl f7))] sz)) 0 0 (va_A [(h0, .inr (3, [.int v1, .int v2, u11, u12, u13, u14, u15, .ref h1, .ref h2])), (h1, .inl (c 0, 8, .inl f3)), (h2, .inl (c 0, 8, .inl f7))] sz) := by
  refine start2 (by decide +kernel) (Nat.le_of_ble_eq_true rfl) ?_
  intro p e s m below meth cd A ls Q hx hb hr hml hts hown hlocks hin hA hS hK hP hD hN hl hQ
  have hown : s.vm.findClass RX4 = some m.cls := hown
  have hl : lv_has ls 2 [(0, .ref h0), (1, .int a1)] := hl
  have hP : va_P D vwCl [(h0, .inr (3, [.int v1, .int v2, u11, u12, u13, u14, u15, .ref h1, .ref h2])), (h1, .inl (c 0, 8, .inl f3)), (h2, .inl (c 0, 8, .inl f7))] s.heap := hP
  refine lv_aload_n hx hb dX4_away_0 rfl (lv_at hl 0 rfl) ?_
  refine va_get (D := D) (ci := 3) (v := .ref h1) (C := RX4) (T := TX4) (N := 9) hx hb hts i_X4 hown hK hP 0 rfl rfl 7 (by decide) (hts _ kw_242) (fun _ h9 => h9) rfl dX4_away_1 ?_
  refine lv_iload_n hx hb dX4_away_4 rfl (lv_at hl 1 rfl) ?_
  refine va_iald hx hb hK hP 1 0 rfl rfl (in_of (by omega) (by omega)) dX4_away_5 ?_
  refine rd gf3 (fun z1001 ez1001 hz1001 => ?_)
  refine lv_aload_n hx hb dX4_away_6 rfl (lv_at hl 0 rfl) ?_
  refine va_get (D := D) (ci := 3) (v := .int v2) (C := RX4) (T := TX4) (N := 9) hx hb hts i_X4 hown hK hP 0 rfl rfl 1 (by decide) (hts _ kw_218) (fun _ h9 => h9) rfl dX4_away_7 ?_
  refine lv_iconst (v := (-1)) hx hb dX4_away_10 (by decide) ?_
  refine lv_ixor hx hb dX4_away_11 ?_
  refine o_any (fun z1002 ez1002 => ?_)
  refine lv_iand hx hb dX4_away_12 ?_
  refine o_andl (X := z1001.toInt) rfl (by omega) (fun z1003 hz1003 => ?_)
  refine lv_aload_n hx hb dX4_away_13 rfl (lv_at hl 0 rfl) ?_
  refine va_get (D := D) (ci := 3) (v := .ref h2) (C := RX4) (T := TX4) (N := 9) hx hb hts i_X4 hown hK hP 0 rfl rfl 8 (by decide) (hts _ kw_245) (fun _ h9 => h9) rfl dX4_away_14 ?_
  refine lv_iload_n hx hb dX4_away_17 rfl (lv_at hl 1 rfl) ?_
  refine va_iald hx hb hK hP 2 0 rfl rfl (in_of (by omega) (by omega)) dX4_away_18 ?_
  refine rd gf7 (fun z1004 ez1004 hz1004 => ?_)
  refine lv_aload_n hx hb dX4_away_19 rfl (lv_at hl 0 rfl) ?_
  refine va_get (D := D) (ci := 3) (v := .int v2) (C := RX4) (T := TX4) (N := 9) hx hb hts i_X4 hown hK hP 0 rfl rfl 1 (by decide) (hts _ kw_218) (fun _ h9 => h9) rfl dX4_away_20 ?_
  refine lv_iand hx hb dX4_away_23 ?_
  refine o_andr (Y := v2.toInt) rfl (by omega) (fun z1005 hz1005 => ?_)
  refine lv_ior hx hb dX4_away_24 ?_
  refine o_or (X := z1003.toInt) (Y := z1005.toInt) (M := 16384) 14 rfl rfl (by decide) (by decide) (by omega) (by omega) (by omega) (by omega) (fun z1006 hz1006 => ?_)
  have etz1001 : z1001.toInt = (f3 (Int32.toNatClampNeg a1)).toInt := by rw [ez1001]
  have etz1004 : z1004.toInt = (f7 (Int32.toNatClampNeg a1)).toInt := by rw [ez1004]
  exact rI hQ hx hb hr hlocks rfl hS (Nat.le_of_ble_eq_true rfl) (Nat.le_of_ble_eq_true rfl) dX4_away_25 (fun t ht => ⟨⟨by omega, by omega⟩, by rw [ht]; exact hP, hD⟩)
set_option maxHeartbeats 4000000 in
set_option maxRecDepth 100000 in
theorem m_X4_allDirections (l : Launch) (D : va_G) (c : Nat → ClassId) (h0 : Nat) (sz : Nat) (v1 : Int32) (v2 : Int32) (u4 : Value) (u5 : Value) (u6 : Value) (u7 : Value) (u8 : Value) (u9 : Value) (u10 : Value) (gv1 : 0 ≤ v1.toInt ∧ v1.toInt ≤ 14) (gv2 : 0 ≤ v2.toInt ∧ v2.toInt ≤ 16383) : Met l yX4_allDirections (Cond.code yX4_allDirections cX4_allDirections 1 (some .int) :: TB) ({ frames := 0, cells := 0, slots := 0, locals := 0 } : Room) (va_Pc [.ref h0] (PW D c [(h0, .inr (3, [.int v1, .int v2, u4, u5, u6, u7, u8, u9, u10]))] sz)) ((QIx (fun A r t => (1 ≤ r.toInt ∧ r.toInt ≤ 16384) ∧ va_P D vwCl [(h0, .inr (3, [.int v1, .int v2, u4, u5, u6, u7, u8, u9, u10]))] t.heap ∧ va_D A [(h0, .inr (3, [.int v1, .int v2, u4, u5, u6, u7, u8, u9, u10]))])) (va_A [(h0, .inr (3, [.int v1, .int v2, u4, u5, u6, u7, u8, u9, u10]))] sz)) 0 0 (va_A [(h0, .inr (3, [.int v1, .int v2, u4, u5, u6, u7, u8, u9, u10]))] sz) := by
  refine start2 (by decide +kernel) (Nat.le_of_ble_eq_true rfl) ?_
  intro p e s m below meth cd A ls Q hx hb hr hml hts hown hlocks hin hA hS hK hP hD hN hl hQ
  have hown : s.vm.findClass RX4 = some m.cls := hown
  have hl : lv_has ls 1 [(0, .ref h0)] := hl
  have hP : va_P D vwCl [(h0, .inr (3, [.int v1, .int v2, u4, u5, u6, u7, u8, u9, u10]))] s.heap := hP
  refine lv_iconst (v := 1) hx hb dX4_allDirections_0 (by decide) ?_
  refine lv_aload_n hx hb dX4_allDirections_1 rfl (lv_at hl 0 rfl) ?_
  refine va_get (D := D) (ci := 3) (v := .int v1) (C := RX4) (T := TX4) (N := 9) hx hb hts i_X4 hown hK hP 0 rfl rfl 0 (by decide) (hts _ kw_212) (fun _ h9 => h9) rfl dX4_allDirections_2 ?_
  refine lv_ishl hx hb dX4_allDirections_5 ?_
  refine o_shl (X := 1) (Y := v1.toInt) (M := 16384) 1 14 (by decide) rfl (by omega) (by omega) (by omega) (by omega) (by decide) (by decide) (by decide) (fun z1001 hz1001 => ?_)
  exact rI hQ hx hb hr hlocks rfl hS (Nat.le_of_ble_eq_true rfl) (Nat.le_of_ble_eq_true rfl) dX4_allDirections_6 (fun t ht => ⟨⟨by omega, by omega⟩, by rw [ht]; exact hP, hD⟩)
set_option maxHeartbeats 4000000 in
set_option maxRecDepth 100000 in
theorem m_X1_has (l : Launch) (D : va_G) (c : Nat → ClassId) (h0 : Nat) (sz : Nat) (v2 : Int32) (u4 : Value) (u5 : Value) (u6 : Value) (u7 : Value) (u8 : Value) (u9 : Value) (u10 : Value) (a1 : Int32) (gv2 : 0 ≤ v2.toInt ∧ v2.toInt ≤ 6) : Met l yX1_has (Cond.code yX1_has cX1_has 2 (some .boolean) :: TB) ({ frames := 0, cells := 0, slots := 0, locals := 0 } : Room) (va_Pc [.ref h0, .int a1] (PW D c [(h0, .inr (1, [.int v2, u4, u5, u6, u7, u8, u9, u10]))] sz)) ((QIx (fun A r t => (0 ≤ r.toInt ∧ r.toInt ≤ 1) ∧ ((r.toInt = 0 ∧ a1.toInt < 0) ∨ (r.toInt = 0 ∧ 0 ≤ a1.toInt ∧ v2.toInt ≤ a1.toInt) ∨ (r.toInt = 1 ∧ 0 ≤ a1.toInt ∧ a1.toInt < v2.toInt)) ∧ va_P D vwCl [(h0, .inr (1, [.int v2, u4, u5, u6, u7, u8, u9, u10]))] t.heap ∧ va_D A [(h0, .inr (1, [.int v2, u4, u5, u6, u7, u8, u9, u10]))])) (va_A [(h0, .inr (1, [.int v2, u4, u5, u6, u7, u8, u9, u10]))] sz)) 0 0 (va_A [(h0, .inr (1, [.int v2, u4, u5, u6, u7, u8, u9, u10]))] sz) := by
  refine start2 (by decide +kernel) (Nat.le_of_ble_eq_true rfl) ?_
  intro p e s m below meth cd A ls Q hx hb hr hml hts hown hlocks hin hA hS hK hP hD hN hl hQ
  have hown : s.vm.findClass RX1 = some m.cls := hown
  have hl : lv_has ls 2 [(0, .ref h0), (1, .int a1)] := hl
  have hP : va_P D vwCl [(h0, .inr (1, [.int v2, u4, u5, u6, u7, u8, u9, u10]))] s.heap := hP
  refine lv_iload_n hx hb dX1_has_0 rfl (lv_at hl 1 rfl) ?_
  refine B_if_lt (tgt := 16) (X := a1.toInt) hx hb dX1_has_1 (by decide) rfl (fun hc1001 => ?_) (fun hc1001 => ?_)
  · refine lv_iconst (v := 0) hx hb dX1_has_16 (by decide) ?_
    have hk0 : (0 : Int32).toInt = 0 := by decide
    exact rI hQ hx hb hr hlocks (by decide) hS (Nat.le_of_ble_eq_true rfl) (Nat.le_of_ble_eq_true rfl) dX1_has_17 (fun t ht => ⟨by decide, by omega, by rw [ht]; exact hP, hD⟩)
  · refine lv_iload_n hx hb dX1_has_4 rfl (lv_at hl 1 rfl) ?_
    refine lv_aload_n hx hb dX1_has_5 rfl (lv_at hl 0 rfl) ?_
    refine va_get (D := D) (ci := 1) (v := .int v2) (C := RX1) (T := TX1) (N := 8) hx hb hts i_X1 hown hK hP 0 rfl rfl 0 (by decide) (hts _ kw_273) (fun _ h9 => h9) rfl dX1_has_6 ?_
    refine B_icmp_ge (tgt := 16) (X := a1.toInt) (Y := v2.toInt) hx hb dX1_has_9 (by decide) rfl rfl (fun hc1002 => ?_) (fun hc1002 => ?_)
    · refine lv_iconst (v := 0) hx hb dX1_has_16 (by decide) ?_
      have hk0 : (0 : Int32).toInt = 0 := by decide
      exact rI hQ hx hb hr hlocks (by decide) hS (Nat.le_of_ble_eq_true rfl) (Nat.le_of_ble_eq_true rfl) dX1_has_17 (fun t ht => ⟨by decide, by omega, by rw [ht]; exact hP, hD⟩)
    · refine lv_iconst (v := 1) hx hb dX1_has_12 (by decide) ?_
      refine lv_goto (tgt := 17) hx hb dX1_has_13 (by decide) ?_
      have hk0 : (1 : Int32).toInt = 1 := by decide
      exact rI hQ hx hb hr hlocks (by decide) hS (Nat.le_of_ble_eq_true rfl) (Nat.le_of_ble_eq_true rfl) dX1_has_17 (fun t ht => ⟨by decide, by omega, by rw [ht]; exact hP, hD⟩)
set_option maxHeartbeats 4000000 in
set_option maxRecDepth 100000 in
theorem m_X1_stands (l : Launch) (D : va_G) (c : Nat → ClassId) (h0 h1 h2 h3 h4 h5 h6 h7 : Nat) (sz : Nat) (v1 : Int32) (f4 : Nat → Int32) (a1 : Int32) (gv1 : 0 ≤ v1.toInt ∧ v1.toInt ≤ 6) (gf4 : Rg f4 (-1) 13) : Met l yX1_stands (Cond.code yX1_stands cX1_stands 2 (some .boolean) :: TB) ({ frames := 1, cells := 0, slots := 0, locals := 21 } : Room) (va_Pc [.ref h0, .int a1] (PW D c [(h0, .inr (1, [.int v1, .ref h6, .ref h2, .ref h5, .ref h1, .ref h7, .ref h3, .ref h4])), (h1, .inl (c 0, 6, .inl f4))] sz)) ((QIx (fun A r t => (0 ≤ r.toInt ∧ r.toInt ≤ 1) ∧ ((r.toInt = 0) ∨ (r.toInt = 0 ∧ (f4 (Int32.toNatClampNeg a1)).toInt ≠ (-1)) ∨ (r.toInt = 1 ∧ (f4 (Int32.toNatClampNeg a1)).toInt = (-1))) ∧ va_P D vwCl [(h0, .inr (1, [.int v1, .ref h6, .ref h2, .ref h5, .ref h1, .ref h7, .ref h3, .ref h4])), (h1, .inl (c 0, 6, .inl f4))] t.heap ∧ va_D A [(h0, .inr (1, [.int v1, .ref h6, .ref h2, .ref h5, .ref h1, .ref h7, .ref h3, .ref h4])), (h1, .inl (c 0, 6, .inl f4))])) (va_A [(h0, .inr (1, [.int v1, .ref h6, .ref h2, .ref h5, .ref h1, .ref h7, .ref h3, .ref h4])), (h1, .inl (c 0, 6, .inl f4))] sz)) 0 0 (va_A [(h0, .inr (1, [.int v1, .ref h6, .ref h2, .ref h5, .ref h1, .ref h7, .ref h3, .ref h4])), (h1, .inl (c 0, 6, .inl f4))] sz) := by
  refine start2 (by decide +kernel) (Nat.le_of_ble_eq_true rfl) ?_
  intro p e s m below meth cd A ls Q hx hb hr hml hts hown hlocks hin hA hS hK hP hD hN hl hQ
  have hown : s.vm.findClass RX1 = some m.cls := hown
  have hl : lv_has ls 2 [(0, .ref h0), (1, .int a1)] := hl
  have hP : va_P D vwCl [(h0, .inr (1, [.int v1, .ref h6, .ref h2, .ref h5, .ref h1, .ref h7, .ref h3, .ref h4])), (h1, .inl (c 0, 6, .inl f4))] s.heap := hP
  refine lv_aload_n hx hb dX1_stands_0 rfl (lv_at hl 0 rfl) ?_
  refine lv_iload_n hx hb dX1_stands_1 rfl (lv_at hl 1 rfl) ?_
  refine fI (run_V (n := 1) (ci := 1) ⟨hx, hb, hml, hown, hts⟩ (m_X1_has l D c h0 s.heap.size v1 (.ref h6) (.ref h2) (.ref h5) (.ref h1) (.ref h7) (.ref h3) (.ref h4) a1 gv1) (hP.sub [0] rfl) (hD.sub [0] (by decide) rfl) hK hN rfl rfl kw_787 kw_731 kw_732 kw_118 kw_733 ⟨rfl, by decide +kernel⟩ ⟨(Nat.le_of_ble_eq_true rfl), (Nat.le_of_ble_eq_true rfl)⟩ rfl rfl rfl hl.1 rfl (Nat.le_of_ble_eq_true rfl) dX1_stands_2 ⟨(Nat.le_of_ble_eq_true rfl), (Nat.le_of_ble_eq_true rfl)⟩) hP hD hS hA [0] rfl (fun z1001 H locs t hB hj hS => ?_)
  obtain ⟨hq1002, hq1003, hP1, hD1⟩ := hB
  obtain ⟨hP, hD⟩ := hj (wr := [(h1, .inl (c 0, 6, .inl f4))]) (w1 := [(h0, .inr (1, [.int v1, .ref h6, .ref h2, .ref h5, .ref h1, .ref h7, .ref h3, .ref h4]))]) [1] rfl (by decide) (by decide) hP1 hD1
  have hP : va_P D vwCl [(h1, .inl (c 0, 6, .inl f4)), (h0, .inr (1, [.int v1, .ref h6, .ref h2, .ref h5, .ref h1, .ref h7, .ref h3, .ref h4]))] H := hP
  have hD : va_D A [(h1, .inl (c 0, 6, .inl f4)), (h0, .inr (1, [.int v1, .ref h6, .ref h2, .ref h5, .ref h1, .ref h7, .ref h3, .ref h4]))] := hD
  refine B_if_eq (tgt := 22) (X := z1001.toInt) hx hb dX1_stands_5 (by decide) rfl (fun hc1004 => ?_) (fun hc1004 => ?_)
  · refine lv_iconst (v := 0) hx hb dX1_stands_22 (by decide) ?_
    have hP := hP.sub (ws' := [(h0, .inr (1, [.int v1, .ref h6, .ref h2, .ref h5, .ref h1, .ref h7, .ref h3, .ref h4])), (h1, .inl (c 0, 6, .inl f4))]) [1, 0] rfl
    have hD := hD.sub (ws' := [(h0, .inr (1, [.int v1, .ref h6, .ref h2, .ref h5, .ref h1, .ref h7, .ref h3, .ref h4])), (h1, .inl (c 0, 6, .inl f4))]) [1, 0] (by decide) rfl
    have hk0 : (0 : Int32).toInt = 0 := by decide
    exact rI hQ hx hb hr hlocks (by decide) hS (Nat.le_of_ble_eq_true rfl) (Nat.le_of_ble_eq_true rfl) dX1_stands_23 (fun t ht => ⟨by decide, by omega, by rw [ht]; exact hP, hD⟩)
  · refine lv_aload_n hx hb dX1_stands_8 rfl (lv_at hl 0 rfl) ?_
    refine va_get (D := D) (ci := 1) (v := .ref h1) (C := RX1) (T := TX1) (N := 8) hx hb hts i_X1 hown hK hP 1 rfl rfl 4 (by decide) (hts _ kw_293) (fun _ h9 => h9) rfl dX1_stands_9 ?_
    refine lv_iload_n hx hb dX1_stands_12 rfl (lv_at hl 1 rfl) ?_
    refine va_iald hx hb hK hP 0 0 rfl rfl (in_of (by omega) (by omega)) dX1_stands_13 ?_
    refine rd gf4 (fun z1005 ez1005 hz1005 => ?_)
    refine lv_iconst (v := (-1)) hx hb dX1_stands_14 (by decide) ?_
    refine B_icmp_ne (tgt := 22) (X := z1005.toInt) (Y := (-1)) hx hb dX1_stands_15 (by decide) rfl (by decide) (fun hc1006 => ?_) (fun hc1006 => ?_)
    · refine lv_iconst (v := 0) hx hb dX1_stands_22 (by decide) ?_
      have hP := hP.sub (ws' := [(h0, .inr (1, [.int v1, .ref h6, .ref h2, .ref h5, .ref h1, .ref h7, .ref h3, .ref h4])), (h1, .inl (c 0, 6, .inl f4))]) [1, 0] rfl
      have hD := hD.sub (ws' := [(h0, .inr (1, [.int v1, .ref h6, .ref h2, .ref h5, .ref h1, .ref h7, .ref h3, .ref h4])), (h1, .inl (c 0, 6, .inl f4))]) [1, 0] (by decide) rfl
      have etz1005 : z1005.toInt = (f4 (Int32.toNatClampNeg a1)).toInt := by rw [ez1005]
      have hk0 : (0 : Int32).toInt = 0 := by decide
      exact rI hQ hx hb hr hlocks (by decide) hS (Nat.le_of_ble_eq_true rfl) (Nat.le_of_ble_eq_true rfl) dX1_stands_23 (fun t ht => ⟨by decide, by omega, by rw [ht]; exact hP, hD⟩)
    · refine lv_iconst (v := 1) hx hb dX1_stands_18 (by decide) ?_
      refine lv_goto (tgt := 23) hx hb dX1_stands_19 (by decide) ?_
      have hP := hP.sub (ws' := [(h0, .inr (1, [.int v1, .ref h6, .ref h2, .ref h5, .ref h1, .ref h7, .ref h3, .ref h4])), (h1, .inl (c 0, 6, .inl f4))]) [1, 0] rfl
      have hD := hD.sub (ws' := [(h0, .inr (1, [.int v1, .ref h6, .ref h2, .ref h5, .ref h1, .ref h7, .ref h3, .ref h4])), (h1, .inl (c 0, 6, .inl f4))]) [1, 0] (by decide) rfl
      have etz1005 : z1005.toInt = (f4 (Int32.toNatClampNeg a1)).toInt := by rw [ez1005]
      have hk0 : (1 : Int32).toInt = 1 := by decide
      exact rI hQ hx hb hr hlocks (by decide) hS (Nat.le_of_ble_eq_true rfl) (Nat.le_of_ble_eq_true rfl) dX1_stands_23 (fun t ht => ⟨by decide, by omega, by rw [ht]; exact hP, hD⟩)
set_option maxHeartbeats 4000000 in
set_option maxRecDepth 100000 in
theorem m_X1_countOn (l : Launch) (D : va_G) (c : Nat → ClassId) (h0 h1 : Nat) (sz : Nat) (v1 : Int32) (u69 : Value) (u70 : Value) (u71 : Value) (u72 : Value) (u73 : Value) (u74 : Value) (f3 : Nat → Int32) (a1 : Int32) (gv1 : 0 ≤ v1.toInt ∧ v1.toInt ≤ 6) (gf3 : Rg f3 (-1) 13) : Met l yX1_countOn (Cond.code yX1_countOn cX1_countOn 4 (some .int) :: TB) ({ frames := 0, cells := 0, slots := 0, locals := 0 } : Room) (va_Pc [.ref h0, .int a1] (PW D c [(h0, .inr (1, [.int v1, u69, u70, u71, .ref h1, u72, u73, u74])), (h1, .inl (c 0, 6, .inl f3))] sz)) ((QIx (fun A r t => va_P D vwCl [(h0, .inr (1, [.int v1, u69, u70, u71, .ref h1, u72, u73, u74])), (h1, .inl (c 0, 6, .inl f3))] t.heap ∧ va_D A [(h0, .inr (1, [.int v1, u69, u70, u71, .ref h1, u72, u73, u74])), (h1, .inl (c 0, 6, .inl f3))])) (va_A [(h0, .inr (1, [.int v1, u69, u70, u71, .ref h1, u72, u73, u74])), (h1, .inl (c 0, 6, .inl f3))] sz)) 0 0 (va_A [(h0, .inr (1, [.int v1, u69, u70, u71, .ref h1, u72, u73, u74])), (h1, .inl (c 0, 6, .inl f3))] sz) := by
  refine start2 (by decide +kernel) (Nat.le_of_ble_eq_true rfl) ?_
  intro p e s m below meth cd A ls Q hx hb hr hml hts hown hlocks hin hA hS hK hP hD hN hl hQ
  have hown : s.vm.findClass RX1 = some m.cls := hown
  have hl : lv_has ls 4 [(0, .ref h0), (1, .int a1)] := hl
  have hP : va_P D vwCl [(h0, .inr (1, [.int v1, u69, u70, u71, .ref h1, u72, u73, u74])), (h1, .inl (c 0, 6, .inl f3))] s.heap := hP
  refine lv_iconst (v := 0) hx hb dX1_countOn_0 (by decide) ?_
  refine lv_istore_n (lv' := [(2, .int 0), (0, .ref h0), (1, .int a1)]) hx hb dX1_countOn_1 rfl hl (by decide) rfl (fun ls hl => ?_)
  refine lv_iconst (v := 0) hx hb dX1_countOn_2 (by decide) ?_
  refine lv_istore_n (lv' := [(3, .int 0), (2, .int 0), (0, .ref h0), (1, .int a1)]) hx hb dX1_countOn_3 rfl hl (by decide) rfl (fun ls hl => ?_)
  have lp1 : ∀ (n1 : Nat), ∀ (x1058 : Int32) (hx1058 : 0 ≤ x1058.toInt ∧ x1058.toInt ≤ 6) (x1059 : Int32) (hm1 : (6 : Int) - x1058.toInt < (n1 : Int)) (H : Heap) (locs : List Loc) (hP : va_P D vwCl [(h0, .inr (1, [.int v1, u69, u70, u71, .ref h1, u72, u73, u74])), (h1, .inl (c 0, 6, .inl f3))] H) (hD : va_D A [(h0, .inr (1, [.int v1, u69, u70, u71, .ref h1, u72, u73, u74])), (h1, .inl (c 0, 6, .inl f3))]) (hS : va_S A s.heap H locs) (ls : Array Slot) (hl : lv_has ls 4 [(3, .int x1058), (2, .int x1059), (0, .ref h0), (1, .int a1)]), W p l e ({ frames := 0, cells := 0, slots := 0, locals := 0 } : Room) s m [.ref h0, .int a1].toArray below meth cd H locs 0 0 Q (F0 m 4 ls []) := by
    intro n1
    induction n1 with
    | zero =>
      intro x1058 hx1058 x1059 hm1 H locs hP hD hS ls hl
      exact absurd hm1 (by omega)
    | succ n1 ih1 =>
      intro x1058 hx1058 x1059 hm1 H locs hP hD hS ls hl
      refine lv_iload_n hx hb dX1_countOn_4 rfl (lv_at hl 0 rfl) ?_
      refine lv_aload_n hx hb dX1_countOn_5 rfl (lv_at hl 2 rfl) ?_
      refine va_get (D := D) (ci := 1) (v := .int v1) (C := RX1) (T := TX1) (N := 8) hx hb hts i_X1 hown hK hP 0 rfl rfl 0 (by decide) (hts _ kw_273) (fun _ h9 => h9) rfl dX1_countOn_6 ?_
      refine B_icmp_ge (tgt := 36) (X := x1058.toInt) (Y := v1.toInt) hx hb dX1_countOn_9 (by decide) rfl rfl (fun hc1067 => ?_) (fun hc1067 => ?_)
      · refine lv_iload_n hx hb dX1_countOn_36 rfl (lv_at hl 1 rfl) ?_
        exact rI hQ hx hb hr hlocks rfl hS (Nat.le_of_ble_eq_true rfl) (Nat.le_of_ble_eq_true rfl) dX1_countOn_37 (fun t ht => ⟨by rw [ht]; exact hP, hD⟩)
      · refine lv_iload_n hx hb dX1_countOn_12 rfl (lv_at hl 1 rfl) ?_
        refine lv_aload_n hx hb dX1_countOn_13 rfl (lv_at hl 2 rfl) ?_
        refine va_get (D := D) (ci := 1) (v := .ref h1) (C := RX1) (T := TX1) (N := 8) hx hb hts i_X1 hown hK hP 0 rfl rfl 4 (by decide) (hts _ kw_293) (fun _ h9 => h9) rfl dX1_countOn_14 ?_
        refine lv_iload_n hx hb dX1_countOn_17 rfl (lv_at hl 0 rfl) ?_
        refine va_iald hx hb hK hP 1 0 rfl rfl (in_of (by omega) (by omega)) dX1_countOn_18 ?_
        refine rd gf3 (fun z1068 ez1068 hz1068 => ?_)
        refine lv_iload_n hx hb dX1_countOn_19 rfl (lv_at hl 3 rfl) ?_
        refine B_icmp_ne (tgt := 27) (X := z1068.toInt) (Y := a1.toInt) hx hb dX1_countOn_20 (by decide) rfl rfl (fun hc1069 => ?_) (fun hc1069 => ?_)
        · refine lv_iconst (v := 0) hx hb dX1_countOn_27 (by decide) ?_
          refine lv_iadd hx hb dX1_countOn_28 ?_
          refine o_add (X := x1059.toInt) (Y := 0) rfl (by decide) (by have q := i32_lo x1059; have q := i32_hi x1059; omega) (by have q := i32_lo x1059; have q := i32_hi x1059; omega) (fun z1070 hz1070 => ?_)
          refine lv_istore_n (lv' := [(2, .int z1070), (3, .int x1058), (0, .ref h0), (1, .int a1)]) hx hb dX1_countOn_29 rfl hl (by decide) rfl (fun ls hl => ?_)
          obtain ⟨z1071, ez1071, hz1071⟩ : ∃ y : Int32, y = x1058 + Int32.ofInt 1 ∧ y.toInt = x1058.toInt + 1 := ⟨_, rfl, ad_int (A := x1058.toInt) (B := 1) rfl (by decide) (by omega) (by omega)⟩
          refine lv_iinc (v := z1071) (lv' := [(3, .int z1071), (2, .int z1070), (0, .ref h0), (1, .int a1)]) hx hb dX1_countOn_30 hl (k := 1) rfl ez1071.symm (by decide) rfl (fun ls hl => ?_)
          refine lv_goto (tgt := 4) hx hb dX1_countOn_33 (by decide) ?_
          exact ih1 z1071 ⟨by omega, by omega⟩ z1070 (by omega) H locs hP hD hS ls (lv_sub hl [0, 1, 2, 3] rfl)
        · refine lv_iconst (v := 1) hx hb dX1_countOn_23 (by decide) ?_
          refine lv_goto (tgt := 28) hx hb dX1_countOn_24 (by decide) ?_
          refine lv_iadd hx hb dX1_countOn_28 ?_
          refine o_any (fun z1072 ez1072 => ?_)
          refine lv_istore_n (lv' := [(2, .int z1072), (3, .int x1058), (0, .ref h0), (1, .int a1)]) hx hb dX1_countOn_29 rfl hl (by decide) rfl (fun ls hl => ?_)
          obtain ⟨z1073, ez1073, hz1073⟩ : ∃ y : Int32, y = x1058 + Int32.ofInt 1 ∧ y.toInt = x1058.toInt + 1 := ⟨_, rfl, ad_int (A := x1058.toInt) (B := 1) rfl (by decide) (by omega) (by omega)⟩
          refine lv_iinc (v := z1073) (lv' := [(3, .int z1073), (2, .int z1072), (0, .ref h0), (1, .int a1)]) hx hb dX1_countOn_30 hl (k := 1) rfl ez1073.symm (by decide) rfl (fun ls hl => ?_)
          refine lv_goto (tgt := 4) hx hb dX1_countOn_33 (by decide) ?_
          exact ih1 z1073 ⟨by omega, by omega⟩ z1072 (by omega) H locs hP hD hS ls (lv_sub hl [0, 1, 2, 3] rfl)
  have hk0 : (0 : Int32).toInt = 0 := by decide
  exact lp1 (((6 : Int) - 0).toNat + 1) 0 (by decide) 0 (by omega) s.heap [] hP hD hS ls (lv_sub hl [0, 1, 2, 3] rfl)
set_option maxHeartbeats 4000000 in
set_option maxRecDepth 100000 in
theorem m_X4_unit (l : Launch) (D : va_G) (c : Nat → ClassId) (sz : Nat) (a0 : Int32) : Met l yX4_unit (Cond.code yX4_unit cX4_unit 1 (some .long) :: TB) ({ frames := 0, cells := 0, slots := 0, locals := 0 } : Room) (va_Pc [.int a0] (PW D c [] sz)) ((QLx (fun A r t => va_P D vwCl [] t.heap ∧ va_D A [])) (va_A [] sz)) 0 0 (va_A [] sz) := by
  refine start2 (by decide +kernel) (Nat.le_of_ble_eq_true rfl) ?_
  intro p e s m below meth cd A ls Q hx hb hr hml hts hown hlocks hin hA hS hK hP hD hN hl hQ
  have hown : s.vm.findClass RX4 = some m.cls := hown
  have hl : lv_has ls 1 [(0, .int a0)] := hl
  have hP : va_P D vwCl [] s.heap := hP
  refine lv_iload_n hx hb dX4_unit_0 rfl (lv_at hl 0 rfl) ?_
  refine B_if_lt (tgt := 19) (X := a0.toInt) hx hb dX4_unit_1 (by decide) rfl (fun hc1001 => ?_) (fun hc1001 => ?_)
  · refine lv_lconst (v := 0) hx hb dX4_unit_19 (by decide) ?_
    exact rL hQ hx hb hr hlocks hS (Nat.le_of_ble_eq_true rfl) (Nat.le_of_ble_eq_true rfl) dX4_unit_20 (fun t ht => ⟨by rw [ht]; exact hP, hD⟩)
  · refine lv_iload_n hx hb dX4_unit_4 rfl (lv_at hl 0 rfl) ?_
    refine lv_bipush (v := 8) hx hb dX4_unit_5 (by decide) ?_
    refine B_icmp_ge (tgt := 19) (X := a0.toInt) (Y := 8) hx hb dX4_unit_7 (by decide) rfl (by decide) (fun hc1002 => ?_) (fun hc1002 => ?_)
    · refine lv_lconst (v := 0) hx hb dX4_unit_19 (by decide) ?_
      exact rL hQ hx hb hr hlocks hS (Nat.le_of_ble_eq_true rfl) (Nat.le_of_ble_eq_true rfl) dX4_unit_20 (fun t ht => ⟨by rw [ht]; exact hP, hD⟩)
    · refine lv_lconst (v := 1) hx hb dX4_unit_10 (by decide) ?_
      refine lv_bipush (v := 8) hx hb dX4_unit_11 (by decide) ?_
      refine lv_iload_n hx hb dX4_unit_13 rfl (lv_at hl 0 rfl) ?_
      refine lv_imul hx hb dX4_unit_14 ?_
      refine o_mul (X := 8) (Y := a0.toInt) (by decide) rfl rfl (by omega) (by omega) (fun z1003 hz1003 => ?_)
      refine lv_lshl hx hb dX4_unit_15 rfl ?_
      refine lv_topl (fun w1004 ew1004 => ?_)
      refine lv_goto (tgt := 20) hx hb dX4_unit_16 (by decide) ?_
      exact rL hQ hx hb hr hlocks hS (Nat.le_of_ble_eq_true rfl) (Nat.le_of_ble_eq_true rfl) dX4_unit_20 (fun t ht => ⟨by rw [ht]; exact hP, hD⟩)
set_option maxHeartbeats 4000000 in
set_option maxRecDepth 100000 in
theorem m_X4_outwards (l : Launch) (D : va_G) (c : Nat → ClassId) (h0 h1 h2 h3 h4 h5 h6 h7 : Nat) (sz : Nat) (v1 : Int32) (v2 : Int32) (f4 : Nat → Int32) (f5 : Nat → Int32) (gv1 : 0 ≤ v1.toInt ∧ v1.toInt ≤ 14) (gv2 : 0 ≤ v2.toInt ∧ v2.toInt ≤ 16383) (gf4 : Rg f4 0 7) (gf5 : Rg f5 0 7) : Met l yX4_outwards (Cond.code yX4_outwards cX4_outwards 4 (some .long) :: TB) ({ frames := 1, cells := 0, slots := 0, locals := 21 } : Room) (va_Pc [.ref h0] (PW D c [(h0, .inr (3, [.int v1, .int v2, .ref h2, .ref h1, .ref h6, .ref h3, .ref h5, .ref h7, .ref h4])), (h1, .inl (c 0, 14, .inl f4)), (h2, .inl (c 0, 14, .inl f5))] sz)) ((QLx (fun A r t => va_P D vwCl [(h0, .inr (3, [.int v1, .int v2, .ref h2, .ref h1, .ref h6, .ref h3, .ref h5, .ref h7, .ref h4])), (h1, .inl (c 0, 14, .inl f4)), (h2, .inl (c 0, 14, .inl f5))] t.heap ∧ va_D A [(h0, .inr (3, [.int v1, .int v2, .ref h2, .ref h1, .ref h6, .ref h3, .ref h5, .ref h7, .ref h4])), (h1, .inl (c 0, 14, .inl f4)), (h2, .inl (c 0, 14, .inl f5))])) (va_A [(h0, .inr (3, [.int v1, .int v2, .ref h2, .ref h1, .ref h6, .ref h3, .ref h5, .ref h7, .ref h4])), (h1, .inl (c 0, 14, .inl f4)), (h2, .inl (c 0, 14, .inl f5))] sz)) 0 0 (va_A [(h0, .inr (3, [.int v1, .int v2, .ref h2, .ref h1, .ref h6, .ref h3, .ref h5, .ref h7, .ref h4])), (h1, .inl (c 0, 14, .inl f4)), (h2, .inl (c 0, 14, .inl f5))] sz) := by
  refine start2 (by decide +kernel) (Nat.le_of_ble_eq_true rfl) ?_
  intro p e s m below meth cd A ls Q hx hb hr hml hts hown hlocks hin hA hS hK hP hD hN hl hQ
  have hown : s.vm.findClass RX4 = some m.cls := hown
  have hl : lv_has ls 4 [(0, .ref h0)] := hl
  have hP : va_P D vwCl [(h0, .inr (3, [.int v1, .int v2, .ref h2, .ref h1, .ref h6, .ref h3, .ref h5, .ref h7, .ref h4])), (h1, .inl (c 0, 14, .inl f4)), (h2, .inl (c 0, 14, .inl f5))] s.heap := hP
  refine lv_lconst (v := 0) hx hb dX4_outwards_0 (by decide) ?_
  refine lv_lstore_n (lv' := [(1, .long 0), (0, .ref h0)]) hx hb dX4_outwards_1 rfl hl (by decide) rfl (fun ls hl => ?_)
  refine lv_iconst (v := 0) hx hb dX4_outwards_2 (by decide) ?_
  refine lv_istore_n (lv' := [(3, .int 0), (1, .long 0), (0, .ref h0)]) hx hb dX4_outwards_3 rfl hl (by decide) rfl (fun ls hl => ?_)
  have lp1 : ∀ (n1 : Nat), ∀ (x1040 : Int32) (hx1040 : 0 ≤ x1040.toInt ∧ x1040.toInt ≤ 14) (w1041 : Int64) (hm1 : (14 : Int) - x1040.toInt < (n1 : Int)) (H : Heap) (locs : List Loc) (hP : va_P D vwCl [(h0, .inr (3, [.int v1, .int v2, .ref h2, .ref h1, .ref h6, .ref h3, .ref h5, .ref h7, .ref h4])), (h1, .inl (c 0, 14, .inl f4)), (h2, .inl (c 0, 14, .inl f5))] H) (hD : va_D A [(h0, .inr (3, [.int v1, .int v2, .ref h2, .ref h1, .ref h6, .ref h3, .ref h5, .ref h7, .ref h4])), (h1, .inl (c 0, 14, .inl f4)), (h2, .inl (c 0, 14, .inl f5))]) (hS : va_S A s.heap H locs) (ls : Array Slot) (hl : lv_has ls 4 [(3, .int x1040), (1, .long w1041), (0, .ref h0)]), W p l e ({ frames := 1, cells := 0, slots := 0, locals := 21 } : Room) s m [.ref h0].toArray below meth cd H locs 0 0 Q (F0 m 4 ls []) := by
    intro n1
    induction n1 with
    | zero =>
      intro x1040 hx1040 w1041 hm1 H locs hP hD hS ls hl
      exact absurd hm1 (by omega)
    | succ n1 ih1 =>
      intro x1040 hx1040 w1041 hm1 H locs hP hD hS ls hl
      refine lv_iload_n hx hb dX4_outwards_4 rfl (lv_at hl 0 rfl) ?_
      refine lv_aload_n hx hb dX4_outwards_5 rfl (lv_at hl 2 rfl) ?_
      refine va_get (D := D) (ci := 3) (v := .int v1) (C := RX4) (T := TX4) (N := 9) hx hb hts i_X4 hown hK hP 0 rfl rfl 0 (by decide) (hts _ kw_212) (fun _ h9 => h9) rfl dX4_outwards_6 ?_
      refine B_icmp_ge (tgt := 29) (X := x1040.toInt) (Y := v1.toInt) hx hb dX4_outwards_9 (by decide) rfl rfl (fun hc1047 => ?_) (fun hc1047 => ?_)
      · refine lv_lload_n hx hb dX4_outwards_29 rfl (lv_at hl 1 rfl) ?_
        exact rL hQ hx hb hr hlocks hS (Nat.le_of_ble_eq_true rfl) (Nat.le_of_ble_eq_true rfl) dX4_outwards_30 (fun t ht => ⟨by rw [ht]; exact hP, hD⟩)
      · refine lv_lload_n hx hb dX4_outwards_12 rfl (lv_at hl 1 rfl) ?_
        refine lv_aload_n hx hb dX4_outwards_13 rfl (lv_at hl 2 rfl) ?_
        refine lv_iload_n hx hb dX4_outwards_14 rfl (lv_at hl 0 rfl) ?_
        refine fI (run_V (n := 1) (ci := 3) ⟨hx, hb, hml, hown, hts⟩ (m_X4_tail l D c h0 h1 h2 H.size v1 v2 (.ref h6) (.ref h3) (.ref h5) (.ref h7) (.ref h4) f4 f5 x1040 gv1 gv2 gf4 gf5 ⟨by omega, by omega⟩) (hP.sub [0, 1, 2] rfl) (hD.sub [0, 1, 2] (by decide) rfl) hK hN rfl rfl kw_765 kw_715 kw_716 kw_117 kw_717 ⟨rfl, by decide +kernel⟩ ⟨(Nat.le_of_ble_eq_true rfl), (Nat.le_of_ble_eq_true rfl)⟩ rfl rfl rfl hl.1 rfl (Nat.le_of_ble_eq_true rfl) dX4_outwards_15 ⟨(Nat.le_of_ble_eq_true rfl), (Nat.le_of_ble_eq_true rfl)⟩) hP hD hS hA [0, 1, 2] rfl (fun z1048 H locs t hB hj hS => ?_)
        obtain ⟨hq1049, hP1, hD1⟩ := hB
        obtain ⟨hP, hD⟩ := hj (wr := []) (w1 := [(h0, .inr (3, [.int v1, .int v2, .ref h2, .ref h1, .ref h6, .ref h3, .ref h5, .ref h7, .ref h4])), (h1, .inl (c 0, 14, .inl f4)), (h2, .inl (c 0, 14, .inl f5))]) [] rfl (by decide) (by decide) hP1 hD1
        have hP : va_P D vwCl [(h0, .inr (3, [.int v1, .int v2, .ref h2, .ref h1, .ref h6, .ref h3, .ref h5, .ref h7, .ref h4])), (h1, .inl (c 0, 14, .inl f4)), (h2, .inl (c 0, 14, .inl f5))] H := hP
        have hD : va_D A [(h0, .inr (3, [.int v1, .int v2, .ref h2, .ref h1, .ref h6, .ref h3, .ref h5, .ref h7, .ref h4])), (h1, .inl (c 0, 14, .inl f4)), (h2, .inl (c 0, 14, .inl f5))] := hD
        refine fL (run_S (n := 1) ⟨hx, hb, hml, hown, hts⟩ (m_X4_unit l D c H.size z1048) (hP.sub [] rfl) (hD.sub [] (by decide) rfl) hK hN rfl rfl kw_936 kw_937 kw_117 kw_938 (by decide +kernel) ⟨(Nat.le_of_ble_eq_true rfl), (Nat.le_of_ble_eq_true rfl)⟩ rfl hl.1 rfl (Nat.le_of_ble_eq_true rfl) dX4_outwards_18 ⟨(Nat.le_of_ble_eq_true rfl), (Nat.le_of_ble_eq_true rfl)⟩) hP hD hS hA [] rfl (fun w1050 H locs t hB hj hS => ?_)
        obtain ⟨hP1, hD1⟩ := hB
        obtain ⟨hP, hD⟩ := hj (wr := [(h0, .inr (3, [.int v1, .int v2, .ref h2, .ref h1, .ref h6, .ref h3, .ref h5, .ref h7, .ref h4])), (h1, .inl (c 0, 14, .inl f4)), (h2, .inl (c 0, 14, .inl f5))]) (w1 := []) [0, 1, 2] rfl (by decide) (by decide) hP1 hD1
        have hP : va_P D vwCl [(h0, .inr (3, [.int v1, .int v2, .ref h2, .ref h1, .ref h6, .ref h3, .ref h5, .ref h7, .ref h4])), (h1, .inl (c 0, 14, .inl f4)), (h2, .inl (c 0, 14, .inl f5))] H := hP
        have hD : va_D A [(h0, .inr (3, [.int v1, .int v2, .ref h2, .ref h1, .ref h6, .ref h3, .ref h5, .ref h7, .ref h4])), (h1, .inl (c 0, 14, .inl f4)), (h2, .inl (c 0, 14, .inl f5))] := hD
        refine lv_ladd hx hb dX4_outwards_21 ?_
        refine lv_topl (fun w1051 ew1051 => ?_)
        refine lv_lstore_n (lv' := [(1, .long w1051), (3, .int x1040), (0, .ref h0)]) hx hb dX4_outwards_22 rfl hl (by decide) rfl (fun ls hl => ?_)
        obtain ⟨z1052, ez1052, hz1052⟩ : ∃ y : Int32, y = x1040 + Int32.ofInt 1 ∧ y.toInt = x1040.toInt + 1 := ⟨_, rfl, ad_int (A := x1040.toInt) (B := 1) rfl (by decide) (by omega) (by omega)⟩
        refine lv_iinc (v := z1052) (lv' := [(3, .int z1052), (1, .long w1051), (0, .ref h0)]) hx hb dX4_outwards_23 hl (k := 1) rfl ez1052.symm (by decide) rfl (fun ls hl => ?_)
        refine lv_goto (tgt := 4) hx hb dX4_outwards_26 (by decide) ?_
        exact ih1 z1052 ⟨by omega, by omega⟩ w1051 (by omega) H locs hP hD hS ls (lv_sub hl [0, 1, 2] rfl)
  have hk0 : (0 : Int32).toInt = 0 := by decide
  exact lp1 (((14 : Int) - 0).toNat + 1) 0 (by decide) 0 (by omega) s.heap [] hP hD hS ls (lv_sub hl [0, 1, 2] rfl)
