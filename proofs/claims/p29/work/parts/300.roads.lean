set_option maxHeartbeats 4000000 in
set_option maxRecDepth 100000 in
theorem m_X10_isPlace (l : Launch) (D : va_G) (c : Nat → ClassId) (sz : Nat) (a0 : Int32) : Met l yX10_isPlace (Cond.code yX10_isPlace cX10_isPlace 1 (some .boolean) :: TB) ({ frames := 0, cells := 0, slots := 0, locals := 0 } : Room) (va_Pc [.int a0] (PW D c [] sz)) ((QIx (fun A r t => (0 ≤ r.toInt ∧ r.toInt ≤ 1) ∧ ((r.toInt = 0 ∧ a0.toInt < 0) ∨ (r.toInt = 0 ∧ 0 ≤ a0.toInt ∧ 8 ≤ a0.toInt) ∨ (r.toInt = 1 ∧ 0 ≤ a0.toInt ∧ a0.toInt < 8)) ∧ va_P D vwCl [] t.heap ∧ va_D A [])) (va_A [] sz)) 0 0 (va_A [] sz) := by
  refine start2 (by decide +kernel) (Nat.le_of_ble_eq_true rfl) ?_
  intro p e s m below meth cd A ls Q hx hb hr hml hts hown hlocks hin hA hS hK hP hD hN hl hQ
  have hown : s.vm.findClass RX10 = some m.cls := hown
  have hl : lv_has ls 1 [(0, .int a0)] := hl
  have hP : va_P D vwCl [] s.heap := hP
  refine lv_iload_n hx hb dX10_isPlace_0 rfl (lv_at hl 0 rfl) ?_
  refine B_if_lt (tgt := 14) (X := a0.toInt) hx hb dX10_isPlace_1 (by decide) rfl (fun hc1001 => ?_) (fun hc1001 => ?_)
  · refine lv_iconst (v := 0) hx hb dX10_isPlace_14 (by decide) ?_
    have hk0 : (0 : Int32).toInt = 0 := by decide
    exact rI hQ hx hb hr hlocks (by decide) hS (Nat.le_of_ble_eq_true rfl) (Nat.le_of_ble_eq_true rfl) dX10_isPlace_15 (fun t ht => ⟨by decide, (by omega), by rw [ht]; exact hP, hD⟩)
  · refine lv_iload_n hx hb dX10_isPlace_4 rfl (lv_at hl 0 rfl) ?_
    refine lv_bipush (v := 8) hx hb dX10_isPlace_5 (by decide) ?_
    refine B_icmp_ge (tgt := 14) (X := a0.toInt) (Y := 8) hx hb dX10_isPlace_7 (by decide) rfl (by decide) (fun hc1002 => ?_) (fun hc1002 => ?_)
    · refine lv_iconst (v := 0) hx hb dX10_isPlace_14 (by decide) ?_
      have hk0 : (0 : Int32).toInt = 0 := by decide
      exact rI hQ hx hb hr hlocks (by decide) hS (Nat.le_of_ble_eq_true rfl) (Nat.le_of_ble_eq_true rfl) dX10_isPlace_15 (fun t ht => ⟨by decide, (by omega), by rw [ht]; exact hP, hD⟩)
    · refine lv_iconst (v := 1) hx hb dX10_isPlace_10 (by decide) ?_
      refine lv_goto (tgt := 15) hx hb dX10_isPlace_11 (by decide) ?_
      have hk0 : (1 : Int32).toInt = 1 := by decide
      exact rI hQ hx hb hr hlocks (by decide) hS (Nat.le_of_ble_eq_true rfl) (Nat.le_of_ble_eq_true rfl) dX10_isPlace_15 (fun t ht => ⟨by decide, (by omega), by rw [ht]; exact hP, hD⟩)
set_option maxHeartbeats 4000000 in
set_option maxRecDepth 100000 in
theorem m_X4_has (l : Launch) (D : va_G) (c : Nat → ClassId) (h0 : Nat) (sz : Nat) (v1 : Int32) (v2 : Int32) (u5 : Value) (u6 : Value) (u7 : Value) (u8 : Value) (u9 : Value) (u10 : Value) (u11 : Value) (a1 : Int32) (gv1 : 0 ≤ v1.toInt ∧ v1.toInt ≤ 14) (gv2 : 0 ≤ v2.toInt ∧ v2.toInt ≤ 16383) : Met l yX4_has (Cond.code yX4_has cX4_has 2 (some .boolean) :: TB) ({ frames := 0, cells := 0, slots := 0, locals := 0 } : Room) (va_Pc [.ref h0, .int a1] (PW D c [(h0, .inr (3, [.int v1, .int v2, u5, u6, u7, u8, u9, u10, u11]))] sz)) ((QIx (fun A r t => (0 ≤ r.toInt ∧ r.toInt ≤ 1) ∧ ((r.toInt = 0 ∧ a1.toInt < 0) ∨ (r.toInt = 0 ∧ 0 ≤ a1.toInt ∧ v1.toInt ≤ a1.toInt) ∨ (r.toInt = 1 ∧ 0 ≤ a1.toInt ∧ a1.toInt < v1.toInt)) ∧ va_P D vwCl [(h0, .inr (3, [.int v1, .int v2, u5, u6, u7, u8, u9, u10, u11]))] t.heap ∧ va_D A [(h0, .inr (3, [.int v1, .int v2, u5, u6, u7, u8, u9, u10, u11]))])) (va_A [(h0, .inr (3, [.int v1, .int v2, u5, u6, u7, u8, u9, u10, u11]))] sz)) 0 0 (va_A [(h0, .inr (3, [.int v1, .int v2, u5, u6, u7, u8, u9, u10, u11]))] sz) := by
  refine start2 (by decide +kernel) (Nat.le_of_ble_eq_true rfl) ?_
  intro p e s m below meth cd A ls Q hx hb hr hml hts hown hlocks hin hA hS hK hP hD hN hl hQ
  have hown : s.vm.findClass RX4 = some m.cls := hown
  have hl : lv_has ls 2 [(0, .ref h0), (1, .int a1)] := hl
  have hP : va_P D vwCl [(h0, .inr (3, [.int v1, .int v2, u5, u6, u7, u8, u9, u10, u11]))] s.heap := hP
  refine lv_iload_n hx hb dX4_has_0 rfl (lv_at hl 1 rfl) ?_
  refine B_if_lt (tgt := 16) (X := a1.toInt) hx hb dX4_has_1 (by decide) rfl (fun hc1001 => ?_) (fun hc1001 => ?_)
  · refine lv_iconst (v := 0) hx hb dX4_has_16 (by decide) ?_
    have hk0 : (0 : Int32).toInt = 0 := by decide
    exact rI hQ hx hb hr hlocks (by decide) hS (Nat.le_of_ble_eq_true rfl) (Nat.le_of_ble_eq_true rfl) dX4_has_17 (fun t ht => ⟨by decide, (by omega), by rw [ht]; exact hP, hD⟩)
  · refine lv_iload_n hx hb dX4_has_4 rfl (lv_at hl 1 rfl) ?_
    refine lv_aload_n hx hb dX4_has_5 rfl (lv_at hl 0 rfl) ?_
    refine va_get (D := D) (ci := 3) (v := .int v1) (C := RX4) (T := TX4) (N := 9) hx hb hts i_X4 hown hK hP 0 rfl rfl 0 (by decide) (hts _ kw_212) (fun _ h9 => h9) rfl dX4_has_6 ?_
    refine B_icmp_ge (tgt := 16) (X := a1.toInt) (Y := v1.toInt) hx hb dX4_has_9 (by decide) rfl rfl (fun hc1002 => ?_) (fun hc1002 => ?_)
    · refine lv_iconst (v := 0) hx hb dX4_has_16 (by decide) ?_
      have hk0 : (0 : Int32).toInt = 0 := by decide
      exact rI hQ hx hb hr hlocks (by decide) hS (Nat.le_of_ble_eq_true rfl) (Nat.le_of_ble_eq_true rfl) dX4_has_17 (fun t ht => ⟨by decide, (by omega), by rw [ht]; exact hP, hD⟩)
    · refine lv_iconst (v := 1) hx hb dX4_has_12 (by decide) ?_
      refine lv_goto (tgt := 17) hx hb dX4_has_13 (by decide) ?_
      have hk0 : (1 : Int32).toInt = 1 := by decide
      exact rI hQ hx hb hr hlocks (by decide) hS (Nat.le_of_ble_eq_true rfl) (Nat.le_of_ble_eq_true rfl) dX4_has_17 (fun t ht => ⟨by decide, (by omega), by rw [ht]; exact hP, hD⟩)
set_option maxHeartbeats 4000000 in
set_option maxRecDepth 100000 in
theorem m_X4_tail (l : Launch) (D : va_G) (c : Nat → ClassId) (h0 h1 h2 : Nat) (sz : Nat) (v1 : Int32) (v2 : Int32) (u10 : Value) (u11 : Value) (u12 : Value) (u13 : Value) (u14 : Value) (f6 : Nat → Int32) (f8 : Nat → Int32) (a1 : Int32) (gv1 : 0 ≤ v1.toInt ∧ v1.toInt ≤ 14) (gv2 : 0 ≤ v2.toInt ∧ v2.toInt ≤ 16383) (gf6 : Rg f6 0 7) (gf8 : Rg f8 0 7) (ga1 : 0 ≤ a1.toInt ∧ a1.toInt ≤ 13) : Met l yX4_tail (Cond.code yX4_tail cX4_tail 2 (some .int) :: TB) ({ frames := 0, cells := 0, slots := 0, locals := 0 } : Room) (va_Pc [.ref h0, .int a1] (PW D c [(h0, .inr (3, [.int v1, .int v2, .ref h2, .ref h1, u10, u11, u12, u13, u14])), (h1, .inl (c 0, 14, .inl f6)), (h2, .inl (c 0, 14, .inl f8))] sz)) ((QIx (fun A r t => (0 ≤ r.toInt ∧ r.toInt ≤ 7) ∧ va_P D vwCl [(h0, .inr (3, [.int v1, .int v2, .ref h2, .ref h1, u10, u11, u12, u13, u14])), (h1, .inl (c 0, 14, .inl f6)), (h2, .inl (c 0, 14, .inl f8))] t.heap ∧ va_D A [(h0, .inr (3, [.int v1, .int v2, .ref h2, .ref h1, u10, u11, u12, u13, u14])), (h1, .inl (c 0, 14, .inl f6)), (h2, .inl (c 0, 14, .inl f8))])) (va_A [(h0, .inr (3, [.int v1, .int v2, .ref h2, .ref h1, u10, u11, u12, u13, u14])), (h1, .inl (c 0, 14, .inl f6)), (h2, .inl (c 0, 14, .inl f8))] sz)) 0 0 (va_A [(h0, .inr (3, [.int v1, .int v2, .ref h2, .ref h1, u10, u11, u12, u13, u14])), (h1, .inl (c 0, 14, .inl f6)), (h2, .inl (c 0, 14, .inl f8))] sz) := by
  refine start2 (by decide +kernel) (Nat.le_of_ble_eq_true rfl) ?_
  intro p e s m below meth cd A ls Q hx hb hr hml hts hown hlocks hin hA hS hK hP hD hN hl hQ
  have hown : s.vm.findClass RX4 = some m.cls := hown
  have hl : lv_has ls 2 [(0, .ref h0), (1, .int a1)] := hl
  have hP : va_P D vwCl [(h0, .inr (3, [.int v1, .int v2, .ref h2, .ref h1, u10, u11, u12, u13, u14])), (h1, .inl (c 0, 14, .inl f6)), (h2, .inl (c 0, 14, .inl f8))] s.heap := hP
  refine lv_aload_n hx hb dX4_tail_0 rfl (lv_at hl 0 rfl) ?_
  refine va_get (D := D) (ci := 3) (v := .int v2) (C := RX4) (T := TX4) (N := 9) hx hb hts i_X4 hown hK hP 0 rfl rfl 1 (by decide) (hts _ kw_218) (fun _ h9 => h9) rfl dX4_tail_1 ?_
  refine lv_iload_n hx hb dX4_tail_4 rfl (lv_at hl 1 rfl) ?_
  refine lv_ishr hx hb dX4_tail_5 ?_
  refine q_shr (X := v2.toInt) rfl (by omega) (fun z1001 ez1001 hz1001 => ?_)
  refine lv_iconst (v := 1) hx hb dX4_tail_6 (by decide) ?_
  refine lv_iand hx hb dX4_tail_7 ?_
  refine q_mask (X := z1001.toInt) (M := 2) 1 rfl (by decide) (by decide) (by decide) (fun z1002 ez1002 hz1002 => ?_)
  refine B_if_ne (tgt := 20) (X := z1002.toInt) hx hb dX4_tail_8 (by decide) rfl (fun hc1003 => ?_) (fun hc1003 => ?_)
  · refine lv_aload_n hx hb dX4_tail_20 rfl (lv_at hl 0 rfl) ?_
    refine va_get (D := D) (ci := 3) (v := .ref h1) (C := RX4) (T := TX4) (N := 9) hx hb hts i_X4 hown hK hP 0 rfl rfl 3 (by decide) (hts _ kw_227) (fun _ h9 => h9) rfl dX4_tail_21 ?_
    refine lv_iload_n hx hb dX4_tail_24 rfl (lv_at hl 1 rfl) ?_
    refine va_iald hx hb hK hP 1 0 rfl rfl (in_of (by omega) (by omega)) dX4_tail_25 ?_
    refine rd gf6 (fun z1004 ez1004 hz1004 => ?_)
    have etz1004 : z1004.toInt = (f6 (Int32.toNatClampNeg a1)).toInt := congrArg Int32.toInt ez1004
    exact rI hQ hx hb hr hlocks rfl hS (Nat.le_of_ble_eq_true rfl) (Nat.le_of_ble_eq_true rfl) dX4_tail_26 (fun t ht => ⟨hz1004, by rw [ht]; exact hP, hD⟩)
  · refine lv_aload_n hx hb dX4_tail_11 rfl (lv_at hl 0 rfl) ?_
    refine va_get (D := D) (ci := 3) (v := .ref h2) (C := RX4) (T := TX4) (N := 9) hx hb hts i_X4 hown hK hP 0 rfl rfl 2 (by decide) (hts _ kw_224) (fun _ h9 => h9) rfl dX4_tail_12 ?_
    refine lv_iload_n hx hb dX4_tail_15 rfl (lv_at hl 1 rfl) ?_
    refine va_iald hx hb hK hP 2 0 rfl rfl (in_of (by omega) (by omega)) dX4_tail_16 ?_
    refine rd gf8 (fun z1005 ez1005 hz1005 => ?_)
    refine lv_goto (tgt := 26) hx hb dX4_tail_17 (by decide) ?_
    have etz1005 : z1005.toInt = (f8 (Int32.toNatClampNeg a1)).toInt := congrArg Int32.toInt ez1005
    exact rI hQ hx hb hr hlocks rfl hS (Nat.le_of_ble_eq_true rfl) (Nat.le_of_ble_eq_true rfl) dX4_tail_26 (fun t ht => ⟨hz1005, by rw [ht]; exact hP, hD⟩)
set_option maxHeartbeats 4000000 in
set_option maxRecDepth 100000 in
theorem m_X4_head (l : Launch) (D : va_G) (c : Nat → ClassId) (h0 h1 h2 : Nat) (sz : Nat) (v1 : Int32) (v2 : Int32) (u10 : Value) (u11 : Value) (u12 : Value) (u13 : Value) (u14 : Value) (f6 : Nat → Int32) (f8 : Nat → Int32) (a1 : Int32) (gv1 : 0 ≤ v1.toInt ∧ v1.toInt ≤ 14) (gv2 : 0 ≤ v2.toInt ∧ v2.toInt ≤ 16383) (gf6 : Rg f6 0 7) (gf8 : Rg f8 0 7) (ga1 : 0 ≤ a1.toInt ∧ a1.toInt ≤ 13) : Met l yX4_head (Cond.code yX4_head cX4_head 2 (some .int) :: TB) ({ frames := 0, cells := 0, slots := 0, locals := 0 } : Room) (va_Pc [.ref h0, .int a1] (PW D c [(h0, .inr (3, [.int v1, .int v2, .ref h1, .ref h2, u10, u11, u12, u13, u14])), (h1, .inl (c 0, 14, .inl f6)), (h2, .inl (c 0, 14, .inl f8))] sz)) ((QIx (fun A r t => (0 ≤ r.toInt ∧ r.toInt ≤ 7) ∧ va_P D vwCl [(h0, .inr (3, [.int v1, .int v2, .ref h1, .ref h2, u10, u11, u12, u13, u14])), (h1, .inl (c 0, 14, .inl f6)), (h2, .inl (c 0, 14, .inl f8))] t.heap ∧ va_D A [(h0, .inr (3, [.int v1, .int v2, .ref h1, .ref h2, u10, u11, u12, u13, u14])), (h1, .inl (c 0, 14, .inl f6)), (h2, .inl (c 0, 14, .inl f8))])) (va_A [(h0, .inr (3, [.int v1, .int v2, .ref h1, .ref h2, u10, u11, u12, u13, u14])), (h1, .inl (c 0, 14, .inl f6)), (h2, .inl (c 0, 14, .inl f8))] sz)) 0 0 (va_A [(h0, .inr (3, [.int v1, .int v2, .ref h1, .ref h2, u10, u11, u12, u13, u14])), (h1, .inl (c 0, 14, .inl f6)), (h2, .inl (c 0, 14, .inl f8))] sz) := by
  refine start2 (by decide +kernel) (Nat.le_of_ble_eq_true rfl) ?_
  intro p e s m below meth cd A ls Q hx hb hr hml hts hown hlocks hin hA hS hK hP hD hN hl hQ
  have hown : s.vm.findClass RX4 = some m.cls := hown
  have hl : lv_has ls 2 [(0, .ref h0), (1, .int a1)] := hl
  have hP : va_P D vwCl [(h0, .inr (3, [.int v1, .int v2, .ref h1, .ref h2, u10, u11, u12, u13, u14])), (h1, .inl (c 0, 14, .inl f6)), (h2, .inl (c 0, 14, .inl f8))] s.heap := hP
  refine lv_aload_n hx hb dX4_head_0 rfl (lv_at hl 0 rfl) ?_
  refine va_get (D := D) (ci := 3) (v := .int v2) (C := RX4) (T := TX4) (N := 9) hx hb hts i_X4 hown hK hP 0 rfl rfl 1 (by decide) (hts _ kw_218) (fun _ h9 => h9) rfl dX4_head_1 ?_
  refine lv_iload_n hx hb dX4_head_4 rfl (lv_at hl 1 rfl) ?_
  refine lv_ishr hx hb dX4_head_5 ?_
  refine q_shr (X := v2.toInt) rfl (by omega) (fun z1001 ez1001 hz1001 => ?_)
  refine lv_iconst (v := 1) hx hb dX4_head_6 (by decide) ?_
  refine lv_iand hx hb dX4_head_7 ?_
  refine q_mask (X := z1001.toInt) (M := 2) 1 rfl (by decide) (by decide) (by decide) (fun z1002 ez1002 hz1002 => ?_)
  refine B_if_ne (tgt := 20) (X := z1002.toInt) hx hb dX4_head_8 (by decide) rfl (fun hc1003 => ?_) (fun hc1003 => ?_)
  · refine lv_aload_n hx hb dX4_head_20 rfl (lv_at hl 0 rfl) ?_
    refine va_get (D := D) (ci := 3) (v := .ref h1) (C := RX4) (T := TX4) (N := 9) hx hb hts i_X4 hown hK hP 0 rfl rfl 2 (by decide) (hts _ kw_224) (fun _ h9 => h9) rfl dX4_head_21 ?_
    refine lv_iload_n hx hb dX4_head_24 rfl (lv_at hl 1 rfl) ?_
    refine va_iald hx hb hK hP 1 0 rfl rfl (in_of (by omega) (by omega)) dX4_head_25 ?_
    refine rd gf6 (fun z1004 ez1004 hz1004 => ?_)
    have etz1004 : z1004.toInt = (f6 (Int32.toNatClampNeg a1)).toInt := congrArg Int32.toInt ez1004
    exact rI hQ hx hb hr hlocks rfl hS (Nat.le_of_ble_eq_true rfl) (Nat.le_of_ble_eq_true rfl) dX4_head_26 (fun t ht => ⟨hz1004, by rw [ht]; exact hP, hD⟩)
  · refine lv_aload_n hx hb dX4_head_11 rfl (lv_at hl 0 rfl) ?_
    refine va_get (D := D) (ci := 3) (v := .ref h2) (C := RX4) (T := TX4) (N := 9) hx hb hts i_X4 hown hK hP 0 rfl rfl 3 (by decide) (hts _ kw_227) (fun _ h9 => h9) rfl dX4_head_12 ?_
    refine lv_iload_n hx hb dX4_head_15 rfl (lv_at hl 1 rfl) ?_
    refine va_iald hx hb hK hP 2 0 rfl rfl (in_of (by omega) (by omega)) dX4_head_16 ?_
    refine rd gf8 (fun z1005 ez1005 hz1005 => ?_)
    refine lv_goto (tgt := 26) hx hb dX4_head_17 (by decide) ?_
    have etz1005 : z1005.toInt = (f8 (Int32.toNatClampNeg a1)).toInt := congrArg Int32.toInt ez1005
    exact rI hQ hx hb hr hlocks rfl hS (Nat.le_of_ble_eq_true rfl) (Nat.le_of_ble_eq_true rfl) dX4_head_26 (fun t ht => ⟨hz1005, by rw [ht]; exact hP, hD⟩)
set_option maxHeartbeats 4000000 in
set_option maxRecDepth 100000 in
theorem m_X4_away (l : Launch) (D : va_G) (c : Nat → ClassId) (h0 h1 h2 : Nat) (sz : Nat) (v1 : Int32) (v2 : Int32) (u11 : Value) (u12 : Value) (u13 : Value) (u14 : Value) (u15 : Value) (f3 : Nat → Int32) (f7 : Nat → Int32) (a1 : Int32) (gv1 : 0 ≤ v1.toInt ∧ v1.toInt ≤ 14) (gv2 : 0 ≤ v2.toInt ∧ v2.toInt ≤ 16383) (gf3 : Rg f3 0 16383) (gf7 : Rg f7 0 16383) (ga1 : 0 ≤ a1.toInt ∧ a1.toInt ≤ 7) : Met l yX4_away (Cond.code yX4_away cX4_away 2 (some .int) :: TB) ({ frames := 0, cells := 0, slots := 0, locals := 0 } : Room) (va_Pc [.ref h0, .int a1] (PW D c [(h0, .inr (3, [.int v1, .int v2, u11, u12, u13, u14, u15, .ref h1, .ref h2])), (h1, .inl (c 0, 8, .inl f3)), (h2, .inl (c 0, 8, .inl f7))] sz)) ((QIx (fun A r t => (0 ≤ r.toInt ∧ r.toInt ≤ 16383) ∧ va_P D vwCl [(h0, .inr (3, [.int v1, .int v2, u11, u12, u13, u14, u15, .ref h1, .ref h2])), (h1, .inl (c 0, 8, .inl f3)), (h2, .inl (c 0, 8, .inl f7))] t.heap ∧ va_D A [(h0, .inr (3, [.int v1, .int v2, u11, u12, u13, u14, u15, .ref h1, .ref h2])), (h1, .inl (c 0, 8, .inl f3)), (h2, .inl (c 0, 8, .inl f7))])) (va_A [(h0, .inr (3, [.int v1, .int v2, u11, u12, u13, u14, u15, .ref h1, .ref h2])), (h1, .inl (c 0, 8, .inl f3)), (h2, .inl (c 0, 8, .inl f7))] sz)) 0 0 (va_A [(h0, .inr (3, [.int v1, .int v2, u11, u12, u13, u14, u15, .ref h1, .ref h2])), (h1, .inl (c 0, 8, .inl f3)), (h2, .inl (c 0, 8, .inl f7))] sz) := by
  refine start2 (by decide +kernel) (Nat.le_of_ble_eq_true rfl) ?_
  intro p e s m below meth cd A ls Q hx hb hr hml hts hown hlocks hin hA hS hK hP hD hN hl hQ
  have hown : s.vm.findClass RX4 = some m.cls := hown
  have hl : lv_has ls 2 [(0, .ref h0), (1, .int a1)] := hl
  have hP : va_P D vwCl [(h0, .inr (3, [.int v1, .int v2, u11, u12, u13, u14, u15, .ref h1, .ref h2])), (h1, .inl (c 0, 8, .inl f3)), (h2, .inl (c 0, 8, .inl f7))] s.heap := hP
  refine lv_aload_n hx hb dX4_away_0 rfl (lv_at hl 0 rfl) ?_
  refine va_get (D := D) (ci := 3) (v := .ref h1) (C := RX4) (T := TX4) (N := 9) hx hb hts i_X4 hown hK hP 0 rfl rfl 7 (by decide) (hts _ kw_242) (fun _ h9 => h9) rfl dX4_away_1 ?_
  refine lv_iload_n hx hb dX4_away_4 rfl (lv_at hl 1 rfl) ?_
  refine va_iald hx hb hK hP 1 0 rfl rfl (in_of (by omega) (by omega)) dX4_away_5 ?_
  refine rd gf3 (fun z1001 ez1001 hz1001 => ?_)
  refine lv_aload_n hx hb dX4_away_6 rfl (lv_at hl 0 rfl) ?_
  refine va_get (D := D) (ci := 3) (v := .int v2) (C := RX4) (T := TX4) (N := 9) hx hb hts i_X4 hown hK hP 0 rfl rfl 1 (by decide) (hts _ kw_218) (fun _ h9 => h9) rfl dX4_away_7 ?_
  refine lv_iconst (v := (-1)) hx hb dX4_away_10 (by decide) ?_
  refine lv_ixor hx hb dX4_away_11 ?_
  refine o_any (fun z1002 ez1002 => ?_)
  refine lv_iand hx hb dX4_away_12 ?_
  refine q_andl (X := z1001.toInt) rfl (by omega) (fun z1003 ez1003 hz1003 => ?_)
  refine lv_aload_n hx hb dX4_away_13 rfl (lv_at hl 0 rfl) ?_
  refine va_get (D := D) (ci := 3) (v := .ref h2) (C := RX4) (T := TX4) (N := 9) hx hb hts i_X4 hown hK hP 0 rfl rfl 8 (by decide) (hts _ kw_245) (fun _ h9 => h9) rfl dX4_away_14 ?_
  refine lv_iload_n hx hb dX4_away_17 rfl (lv_at hl 1 rfl) ?_
  refine va_iald hx hb hK hP 2 0 rfl rfl (in_of (by omega) (by omega)) dX4_away_18 ?_
  refine rd gf7 (fun z1004 ez1004 hz1004 => ?_)
  refine lv_aload_n hx hb dX4_away_19 rfl (lv_at hl 0 rfl) ?_
  refine va_get (D := D) (ci := 3) (v := .int v2) (C := RX4) (T := TX4) (N := 9) hx hb hts i_X4 hown hK hP 0 rfl rfl 1 (by decide) (hts _ kw_218) (fun _ h9 => h9) rfl dX4_away_20 ?_
  refine lv_iand hx hb dX4_away_23 ?_
  refine q_andr (Y := v2.toInt) rfl (by omega) (fun z1005 ez1005 hz1005 => ?_)
  refine lv_ior hx hb dX4_away_24 ?_
  refine q_or (X := z1003.toInt) (Y := z1005.toInt) (M := 16384) 14 rfl rfl (by decide) (by decide) (by omega) (by omega) (by omega) (by omega) (fun z1006 ez1006 hz1006 => ?_)
  have etz1001 : z1001.toInt = (f3 (Int32.toNatClampNeg a1)).toInt := congrArg Int32.toInt ez1001
  have etz1004 : z1004.toInt = (f7 (Int32.toNatClampNeg a1)).toInt := congrArg Int32.toInt ez1004
  exact rI hQ hx hb hr hlocks rfl hS (Nat.le_of_ble_eq_true rfl) (Nat.le_of_ble_eq_true rfl) dX4_away_25 (fun t ht => ⟨⟨by omega, by omega⟩, by rw [ht]; exact hP, hD⟩)
set_option maxHeartbeats 4000000 in
set_option maxRecDepth 100000 in
theorem m_X4_hither (l : Launch) (D : va_G) (c : Nat → ClassId) (h0 h1 h2 : Nat) (sz : Nat) (v1 : Int32) (v2 : Int32) (u11 : Value) (u12 : Value) (u13 : Value) (u14 : Value) (u15 : Value) (f3 : Nat → Int32) (f7 : Nat → Int32) (a1 : Int32) (gv1 : 0 ≤ v1.toInt ∧ v1.toInt ≤ 14) (gv2 : 0 ≤ v2.toInt ∧ v2.toInt ≤ 16383) (gf3 : Rg f3 0 16383) (gf7 : Rg f7 0 16383) (ga1 : 0 ≤ a1.toInt ∧ a1.toInt ≤ 7) : Met l yX4_hither (Cond.code yX4_hither cX4_hither 2 (some .int) :: TB) ({ frames := 0, cells := 0, slots := 0, locals := 0 } : Room) (va_Pc [.ref h0, .int a1] (PW D c [(h0, .inr (3, [.int v1, .int v2, u11, u12, u13, u14, u15, .ref h2, .ref h1])), (h1, .inl (c 0, 8, .inl f3)), (h2, .inl (c 0, 8, .inl f7))] sz)) ((QIx (fun A r t => (0 ≤ r.toInt ∧ r.toInt ≤ 16383) ∧ va_P D vwCl [(h0, .inr (3, [.int v1, .int v2, u11, u12, u13, u14, u15, .ref h2, .ref h1])), (h1, .inl (c 0, 8, .inl f3)), (h2, .inl (c 0, 8, .inl f7))] t.heap ∧ va_D A [(h0, .inr (3, [.int v1, .int v2, u11, u12, u13, u14, u15, .ref h2, .ref h1])), (h1, .inl (c 0, 8, .inl f3)), (h2, .inl (c 0, 8, .inl f7))])) (va_A [(h0, .inr (3, [.int v1, .int v2, u11, u12, u13, u14, u15, .ref h2, .ref h1])), (h1, .inl (c 0, 8, .inl f3)), (h2, .inl (c 0, 8, .inl f7))] sz)) 0 0 (va_A [(h0, .inr (3, [.int v1, .int v2, u11, u12, u13, u14, u15, .ref h2, .ref h1])), (h1, .inl (c 0, 8, .inl f3)), (h2, .inl (c 0, 8, .inl f7))] sz) := by
  refine start2 (by decide +kernel) (Nat.le_of_ble_eq_true rfl) ?_
  intro p e s m below meth cd A ls Q hx hb hr hml hts hown hlocks hin hA hS hK hP hD hN hl hQ
  have hown : s.vm.findClass RX4 = some m.cls := hown
  have hl : lv_has ls 2 [(0, .ref h0), (1, .int a1)] := hl
  have hP : va_P D vwCl [(h0, .inr (3, [.int v1, .int v2, u11, u12, u13, u14, u15, .ref h2, .ref h1])), (h1, .inl (c 0, 8, .inl f3)), (h2, .inl (c 0, 8, .inl f7))] s.heap := hP
  refine lv_aload_n hx hb dX4_hither_0 rfl (lv_at hl 0 rfl) ?_
  refine va_get (D := D) (ci := 3) (v := .ref h1) (C := RX4) (T := TX4) (N := 9) hx hb hts i_X4 hown hK hP 0 rfl rfl 8 (by decide) (hts _ kw_245) (fun _ h9 => h9) rfl dX4_hither_1 ?_
  refine lv_iload_n hx hb dX4_hither_4 rfl (lv_at hl 1 rfl) ?_
  refine va_iald hx hb hK hP 1 0 rfl rfl (in_of (by omega) (by omega)) dX4_hither_5 ?_
  refine rd gf3 (fun z1001 ez1001 hz1001 => ?_)
  refine lv_aload_n hx hb dX4_hither_6 rfl (lv_at hl 0 rfl) ?_
  refine va_get (D := D) (ci := 3) (v := .int v2) (C := RX4) (T := TX4) (N := 9) hx hb hts i_X4 hown hK hP 0 rfl rfl 1 (by decide) (hts _ kw_218) (fun _ h9 => h9) rfl dX4_hither_7 ?_
  refine lv_iconst (v := (-1)) hx hb dX4_hither_10 (by decide) ?_
  refine lv_ixor hx hb dX4_hither_11 ?_
  refine o_any (fun z1002 ez1002 => ?_)
  refine lv_iand hx hb dX4_hither_12 ?_
  refine q_andl (X := z1001.toInt) rfl (by omega) (fun z1003 ez1003 hz1003 => ?_)
  refine lv_aload_n hx hb dX4_hither_13 rfl (lv_at hl 0 rfl) ?_
  refine va_get (D := D) (ci := 3) (v := .ref h2) (C := RX4) (T := TX4) (N := 9) hx hb hts i_X4 hown hK hP 0 rfl rfl 7 (by decide) (hts _ kw_242) (fun _ h9 => h9) rfl dX4_hither_14 ?_
  refine lv_iload_n hx hb dX4_hither_17 rfl (lv_at hl 1 rfl) ?_
  refine va_iald hx hb hK hP 2 0 rfl rfl (in_of (by omega) (by omega)) dX4_hither_18 ?_
  refine rd gf7 (fun z1004 ez1004 hz1004 => ?_)
  refine lv_aload_n hx hb dX4_hither_19 rfl (lv_at hl 0 rfl) ?_
  refine va_get (D := D) (ci := 3) (v := .int v2) (C := RX4) (T := TX4) (N := 9) hx hb hts i_X4 hown hK hP 0 rfl rfl 1 (by decide) (hts _ kw_218) (fun _ h9 => h9) rfl dX4_hither_20 ?_
  refine lv_iand hx hb dX4_hither_23 ?_
  refine q_andr (Y := v2.toInt) rfl (by omega) (fun z1005 ez1005 hz1005 => ?_)
  refine lv_ior hx hb dX4_hither_24 ?_
  refine q_or (X := z1003.toInt) (Y := z1005.toInt) (M := 16384) 14 rfl rfl (by decide) (by decide) (by omega) (by omega) (by omega) (by omega) (fun z1006 ez1006 hz1006 => ?_)
  have etz1001 : z1001.toInt = (f3 (Int32.toNatClampNeg a1)).toInt := congrArg Int32.toInt ez1001
  have etz1004 : z1004.toInt = (f7 (Int32.toNatClampNeg a1)).toInt := congrArg Int32.toInt ez1004
  exact rI hQ hx hb hr hlocks rfl hS (Nat.le_of_ble_eq_true rfl) (Nat.le_of_ble_eq_true rfl) dX4_hither_25 (fun t ht => ⟨⟨by omega, by omega⟩, by rw [ht]; exact hP, hD⟩)
set_option maxHeartbeats 4000000 in
set_option maxRecDepth 100000 in
theorem m_X4_allDirections (l : Launch) (D : va_G) (c : Nat → ClassId) (h0 : Nat) (sz : Nat) (v1 : Int32) (v2 : Int32) (u4 : Value) (u5 : Value) (u6 : Value) (u7 : Value) (u8 : Value) (u9 : Value) (u10 : Value) (gv1 : 0 ≤ v1.toInt ∧ v1.toInt ≤ 14) (gv2 : 0 ≤ v2.toInt ∧ v2.toInt ≤ 16383) : Met l yX4_allDirections (Cond.code yX4_allDirections cX4_allDirections 1 (some .int) :: TB) ({ frames := 0, cells := 0, slots := 0, locals := 0 } : Room) (va_Pc [.ref h0] (PW D c [(h0, .inr (3, [.int v1, .int v2, u4, u5, u6, u7, u8, u9, u10]))] sz)) ((QIx (fun A r t => (1 ≤ r.toInt ∧ r.toInt ≤ 16384) ∧ va_P D vwCl [(h0, .inr (3, [.int v1, .int v2, u4, u5, u6, u7, u8, u9, u10]))] t.heap ∧ va_D A [(h0, .inr (3, [.int v1, .int v2, u4, u5, u6, u7, u8, u9, u10]))])) (va_A [(h0, .inr (3, [.int v1, .int v2, u4, u5, u6, u7, u8, u9, u10]))] sz)) 0 0 (va_A [(h0, .inr (3, [.int v1, .int v2, u4, u5, u6, u7, u8, u9, u10]))] sz) := by
  refine start2 (by decide +kernel) (Nat.le_of_ble_eq_true rfl) ?_
  intro p e s m below meth cd A ls Q hx hb hr hml hts hown hlocks hin hA hS hK hP hD hN hl hQ
  have hown : s.vm.findClass RX4 = some m.cls := hown
  have hl : lv_has ls 1 [(0, .ref h0)] := hl
  have hP : va_P D vwCl [(h0, .inr (3, [.int v1, .int v2, u4, u5, u6, u7, u8, u9, u10]))] s.heap := hP
  refine lv_iconst (v := 1) hx hb dX4_allDirections_0 (by decide) ?_
  refine lv_aload_n hx hb dX4_allDirections_1 rfl (lv_at hl 0 rfl) ?_
  refine va_get (D := D) (ci := 3) (v := .int v1) (C := RX4) (T := TX4) (N := 9) hx hb hts i_X4 hown hK hP 0 rfl rfl 0 (by decide) (hts _ kw_212) (fun _ h9 => h9) rfl dX4_allDirections_2 ?_
  refine lv_ishl hx hb dX4_allDirections_5 ?_
  refine q_shl (X := 1) (Y := v1.toInt) (M := 16384) 1 14 (by decide) rfl (by omega) (by omega) (by omega) (by omega) (by decide) (by decide) (by decide) (fun z1001 ez1001 hz1001 => ?_)
  exact rI hQ hx hb hr hlocks rfl hS (Nat.le_of_ble_eq_true rfl) (Nat.le_of_ble_eq_true rfl) dX4_allDirections_6 (fun t ht => ⟨⟨by omega, by omega⟩, by rw [ht]; exact hP, hD⟩)
set_option maxHeartbeats 4000000 in
set_option maxRecDepth 100000 in
theorem m_X4_spread (l : Launch) (D : va_G) (c : Nat → ClassId) (h0 h1 h2 h3 h4 h5 h6 h7 : Nat) (sz : Nat) (v1 : Int32) (v2 : Int32) (f4 : Nat → Int32) (f5 : Nat → Int32) (a1 : Int32) (gv1 : 0 ≤ v1.toInt ∧ v1.toInt ≤ 14) (gv2 : 0 ≤ v2.toInt ∧ v2.toInt ≤ 16383) (gf4 : Rg f4 0 7) (gf5 : Rg f5 0 7) : Met l yX4_spread (Cond.code yX4_spread cX4_spread 4 (some .int) :: TB) ({ frames := 1, cells := 0, slots := 0, locals := 21 } : Room) (va_Pc [.ref h0, .int a1] (PW D c [(h0, .inr (3, [.int v1, .int v2, .ref h2, .ref h1, .ref h6, .ref h3, .ref h5, .ref h7, .ref h4])), (h1, .inl (c 0, 14, .inl f4)), (h2, .inl (c 0, 14, .inl f5))] sz)) ((QIx (fun A r t => va_P D vwCl [(h0, .inr (3, [.int v1, .int v2, .ref h2, .ref h1, .ref h6, .ref h3, .ref h5, .ref h7, .ref h4])), (h1, .inl (c 0, 14, .inl f4)), (h2, .inl (c 0, 14, .inl f5))] t.heap ∧ va_D A [(h0, .inr (3, [.int v1, .int v2, .ref h2, .ref h1, .ref h6, .ref h3, .ref h5, .ref h7, .ref h4])), (h1, .inl (c 0, 14, .inl f4)), (h2, .inl (c 0, 14, .inl f5))])) (va_A [(h0, .inr (3, [.int v1, .int v2, .ref h2, .ref h1, .ref h6, .ref h3, .ref h5, .ref h7, .ref h4])), (h1, .inl (c 0, 14, .inl f4)), (h2, .inl (c 0, 14, .inl f5))] sz)) 0 0 (va_A [(h0, .inr (3, [.int v1, .int v2, .ref h2, .ref h1, .ref h6, .ref h3, .ref h5, .ref h7, .ref h4])), (h1, .inl (c 0, 14, .inl f4)), (h2, .inl (c 0, 14, .inl f5))] sz) := by
  refine start2 (by decide +kernel) (Nat.le_of_ble_eq_true rfl) ?_
  intro p e s m below meth cd A ls Q hx hb hr hml hts hown hlocks hin hA hS hK hP hD hN hl hQ
  have hown : s.vm.findClass RX4 = some m.cls := hown
  have hl : lv_has ls 4 [(0, .ref h0), (1, .int a1)] := hl
  have hP : va_P D vwCl [(h0, .inr (3, [.int v1, .int v2, .ref h2, .ref h1, .ref h6, .ref h3, .ref h5, .ref h7, .ref h4])), (h1, .inl (c 0, 14, .inl f4)), (h2, .inl (c 0, 14, .inl f5))] s.heap := hP
  refine lv_iload_n hx hb dX4_spread_0 rfl (lv_at hl 1 rfl) ?_
  refine lv_istore_n (lv' := [(2, .int a1), (0, .ref h0), (1, .int a1)]) hx hb dX4_spread_1 rfl hl (by decide) rfl (fun ls hl => ?_)
  refine lv_iconst (v := 0) hx hb dX4_spread_2 (by decide) ?_
  refine lv_istore_n (lv' := [(3, .int 0), (2, .int a1), (0, .ref h0), (1, .int a1)]) hx hb dX4_spread_3 rfl hl (by decide) rfl (fun ls hl => ?_)
  have lp1 : ∀ (n1 : Nat), ∀ (x1069 : Int32) (hx1069 : 0 ≤ x1069.toInt ∧ x1069.toInt ≤ 14) (x1070 : Int32) (hm1 : (14 : Int) - x1069.toInt < (n1 : Int)) (H : Heap) (locs : List Loc) (hP : va_P D vwCl [(h0, .inr (3, [.int v1, .int v2, .ref h2, .ref h1, .ref h6, .ref h3, .ref h5, .ref h7, .ref h4])), (h1, .inl (c 0, 14, .inl f4)), (h2, .inl (c 0, 14, .inl f5))] H) (hD : va_D A [(h0, .inr (3, [.int v1, .int v2, .ref h2, .ref h1, .ref h6, .ref h3, .ref h5, .ref h7, .ref h4])), (h1, .inl (c 0, 14, .inl f4)), (h2, .inl (c 0, 14, .inl f5))]) (hS : va_S A s.heap H locs) (ls : Array Slot) (hl : lv_has ls 4 [(3, .int x1069), (2, .int x1070), (0, .ref h0), (1, .int a1)]), W p l e ({ frames := 1, cells := 0, slots := 0, locals := 21 } : Room) s m [.ref h0, .int a1].toArray below meth cd H locs 0 0 Q (F0 m 4 ls []) := by
    intro n1
    induction n1 with
    | zero =>
      intro x1069 hx1069 x1070 hm1 H locs hP hD hS ls hl
      exact absurd hm1 (by omega)
    | succ n1 ih1 =>
      intro x1069 hx1069 x1070 hm1 H locs hP hD hS ls hl
      refine lv_iload_n hx hb dX4_spread_4 rfl (lv_at hl 0 rfl) ?_
      refine lv_aload_n hx hb dX4_spread_5 rfl (lv_at hl 2 rfl) ?_
      refine va_get (D := D) (ci := 3) (v := .int v1) (C := RX4) (T := TX4) (N := 9) hx hb hts i_X4 hown hK hP 0 rfl rfl 0 (by decide) (hts _ kw_212) (fun _ h9 => h9) rfl dX4_spread_6 ?_
      refine B_icmp_ge (tgt := 40) (X := x1069.toInt) (Y := v1.toInt) hx hb dX4_spread_9 (by decide) rfl rfl (fun hc1081 => ?_) (fun hc1081 => ?_)
      · refine lv_iload_n hx hb dX4_spread_40 rfl (lv_at hl 1 rfl) ?_
        exact rI hQ hx hb hr hlocks rfl hS (Nat.le_of_ble_eq_true rfl) (Nat.le_of_ble_eq_true rfl) dX4_spread_41 (fun t ht => ⟨by rw [ht]; exact hP, hD⟩)
      · refine lv_iload_n hx hb dX4_spread_12 rfl (lv_at hl 3 rfl) ?_
        refine lv_aload_n hx hb dX4_spread_13 rfl (lv_at hl 2 rfl) ?_
        refine lv_iload_n hx hb dX4_spread_14 rfl (lv_at hl 0 rfl) ?_
        refine fI (run_V (n := 1) (ci := 3) ⟨hx, hb, hml, hown, hts⟩ (m_X4_tail l D c h0 h1 h2 H.size v1 v2 (.ref h6) (.ref h3) (.ref h5) (.ref h7) (.ref h4) f4 f5 x1069 gv1 gv2 gf4 gf5 ⟨by omega, by omega⟩) (hP.sub [0, 1, 2] rfl) (hD.sub [0, 1, 2] (by decide) rfl) hK hN rfl rfl kw_765 kw_715 kw_716 kw_117 kw_717 ⟨rfl, by decide +kernel⟩ ⟨(Nat.le_of_ble_eq_true rfl), (Nat.le_of_ble_eq_true rfl)⟩ rfl rfl rfl hl.1 rfl (Nat.le_of_ble_eq_true rfl) dX4_spread_15 ⟨(Nat.le_of_ble_eq_true rfl), (Nat.le_of_ble_eq_true rfl)⟩) hP hD hS hA [0, 1, 2] rfl (fun z1082 H locs t hB hj hS => ?_)
        obtain ⟨hq1083, hP1, hD1⟩ := hB
        obtain ⟨hP, hD⟩ := hj (wr := []) (w1 := [(h0, .inr (3, [.int v1, .int v2, .ref h2, .ref h1, .ref h6, .ref h3, .ref h5, .ref h7, .ref h4])), (h1, .inl (c 0, 14, .inl f4)), (h2, .inl (c 0, 14, .inl f5))]) [] rfl (by decide) (by decide) hP1 hD1
        have hP : va_P D vwCl [(h0, .inr (3, [.int v1, .int v2, .ref h2, .ref h1, .ref h6, .ref h3, .ref h5, .ref h7, .ref h4])), (h1, .inl (c 0, 14, .inl f4)), (h2, .inl (c 0, 14, .inl f5))] H := hP
        have hD : va_D A [(h0, .inr (3, [.int v1, .int v2, .ref h2, .ref h1, .ref h6, .ref h3, .ref h5, .ref h7, .ref h4])), (h1, .inl (c 0, 14, .inl f4)), (h2, .inl (c 0, 14, .inl f5))] := hD
        refine lv_ishr hx hb dX4_spread_18 ?_
        refine o_any (fun z1084 ez1084 => ?_)
        refine lv_iconst (v := 1) hx hb dX4_spread_19 (by decide) ?_
        refine lv_iand hx hb dX4_spread_20 ?_
        refine q_mask (X := z1084.toInt) (M := 2) 1 rfl (by decide) (by decide) (by decide) (fun z1085 ez1085 hz1085 => ?_)
        refine B_if_eq (tgt := 34) (X := z1085.toInt) hx hb dX4_spread_21 (by decide) rfl (fun hc1086 => ?_) (fun hc1086 => ?_)
        · obtain ⟨z1087, ez1087, hz1087⟩ : ∃ y : Int32, y = x1069 + Int32.ofInt 1 ∧ y.toInt = x1069.toInt + 1 := ⟨_, rfl, ad_int (A := x1069.toInt) (B := 1) rfl (by decide) (by omega) (by omega)⟩
          refine lv_iinc (v := z1087) (lv' := [(3, .int z1087), (2, .int x1070), (0, .ref h0), (1, .int a1)]) hx hb dX4_spread_34 hl (k := 0) rfl ez1087.symm (by decide) rfl (fun ls hl => ?_)
          refine lv_goto (tgt := 4) hx hb dX4_spread_37 (by decide) ?_
          exact ih1 z1087 ⟨by omega, by omega⟩ x1070 (by omega) H locs hP hD hS ls (lv_sub hl [0, 1, 2, 3] rfl)
        · refine lv_iload_n hx hb dX4_spread_24 rfl (lv_at hl 1 rfl) ?_
          refine lv_iconst (v := 1) hx hb dX4_spread_25 (by decide) ?_
          refine lv_aload_n hx hb dX4_spread_26 rfl (lv_at hl 2 rfl) ?_
          refine lv_iload_n hx hb dX4_spread_27 rfl (lv_at hl 0 rfl) ?_
          refine fI (run_V (n := 1) (ci := 3) ⟨hx, hb, hml, hown, hts⟩ (m_X4_head l D c h0 h2 h1 H.size v1 v2 (.ref h6) (.ref h3) (.ref h5) (.ref h7) (.ref h4) f5 f4 x1069 gv1 gv2 gf5 gf4 ⟨by omega, by omega⟩) (hP.sub [0, 2, 1] rfl) (hD.sub [0, 2, 1] (by decide) rfl) hK hN rfl rfl kw_766 kw_719 kw_720 kw_117 kw_721 ⟨rfl, by decide +kernel⟩ ⟨(Nat.le_of_ble_eq_true rfl), (Nat.le_of_ble_eq_true rfl)⟩ rfl rfl rfl hl.1 rfl (Nat.le_of_ble_eq_true rfl) dX4_spread_28 ⟨(Nat.le_of_ble_eq_true rfl), (Nat.le_of_ble_eq_true rfl)⟩) hP hD hS hA [0, 2, 1] rfl (fun z1088 H locs t hB hj hS => ?_)
          obtain ⟨hq1089, hP1, hD1⟩ := hB
          obtain ⟨hP, hD⟩ := hj (wr := []) (w1 := [(h0, .inr (3, [.int v1, .int v2, .ref h2, .ref h1, .ref h6, .ref h3, .ref h5, .ref h7, .ref h4])), (h2, .inl (c 0, 14, .inl f5)), (h1, .inl (c 0, 14, .inl f4))]) [] rfl (by decide) (by decide) hP1 hD1
          have hP : va_P D vwCl [(h0, .inr (3, [.int v1, .int v2, .ref h2, .ref h1, .ref h6, .ref h3, .ref h5, .ref h7, .ref h4])), (h2, .inl (c 0, 14, .inl f5)), (h1, .inl (c 0, 14, .inl f4))] H := hP
          have hD : va_D A [(h0, .inr (3, [.int v1, .int v2, .ref h2, .ref h1, .ref h6, .ref h3, .ref h5, .ref h7, .ref h4])), (h2, .inl (c 0, 14, .inl f5)), (h1, .inl (c 0, 14, .inl f4))] := hD
          refine lv_ishl hx hb dX4_spread_31 ?_
          refine q_shl (X := 1) (Y := z1088.toInt) (M := 128) 1 7 (by decide) rfl (by omega) (by omega) (by omega) (by omega) (by decide) (by decide) (by decide) (fun z1090 ez1090 hz1090 => ?_)
          refine lv_ior hx hb dX4_spread_32 ?_
          refine o_any (fun z1091 ez1091 => ?_)
          refine lv_istore_n (lv' := [(2, .int z1091), (3, .int x1069), (0, .ref h0), (1, .int a1)]) hx hb dX4_spread_33 rfl hl (by decide) rfl (fun ls hl => ?_)
          obtain ⟨z1092, ez1092, hz1092⟩ : ∃ y : Int32, y = x1069 + Int32.ofInt 1 ∧ y.toInt = x1069.toInt + 1 := ⟨_, rfl, ad_int (A := x1069.toInt) (B := 1) rfl (by decide) (by omega) (by omega)⟩
          refine lv_iinc (v := z1092) (lv' := [(3, .int z1092), (2, .int z1091), (0, .ref h0), (1, .int a1)]) hx hb dX4_spread_34 hl (k := 1) rfl ez1092.symm (by decide) rfl (fun ls hl => ?_)
          refine lv_goto (tgt := 4) hx hb dX4_spread_37 (by decide) ?_
          exact ih1 z1092 ⟨by omega, by omega⟩ z1091 (by omega) H locs (hP.sub [0, 2, 1] rfl) (hD.sub [0, 2, 1] (by decide) rfl) hS ls (lv_sub hl [0, 1, 2, 3] rfl)
  have hk0 : (0 : Int32).toInt = 0 := by decide
  exact lp1 (((14 : Int) - 0).toNat + 1) 0 (by decide) a1 (by omega) s.heap [] hP hD hS ls (lv_sub hl [0, 1, 2, 3] rfl)
set_option maxHeartbeats 4000000 in
set_option maxRecDepth 100000 in
theorem m_X4_reach (l : Launch) (D : va_G) (c : Nat → ClassId) (h0 h1 h2 h3 h4 h5 h6 h7 : Nat) (sz : Nat) (v1 : Int32) (v2 : Int32) (f5 : Nat → Int32) (f6 : Nat → Int32) (a1 : Int32) (gv1 : 0 ≤ v1.toInt ∧ v1.toInt ≤ 14) (gv2 : 0 ≤ v2.toInt ∧ v2.toInt ≤ 16383) (gf5 : Rg f5 0 7) (gf6 : Rg f6 0 7) (ga1 : 0 ≤ a1.toInt ∧ a1.toInt ≤ 7) : Met l yX4_reach (Cond.code yX4_reach cX4_reach 4 (some .int) :: TB) ({ frames := 2, cells := 0, slots := 0, locals := 44 } : Room) (va_Pc [.ref h0, .int a1] (PW D c [(h0, .inr (3, [.int v1, .int v2, .ref h2, .ref h1, .ref h6, .ref h3, .ref h5, .ref h7, .ref h4])), (h1, .inl (c 0, 14, .inl f5)), (h2, .inl (c 0, 14, .inl f6))] sz)) ((QIx (fun A r t => va_P D vwCl [(h0, .inr (3, [.int v1, .int v2, .ref h2, .ref h1, .ref h6, .ref h3, .ref h5, .ref h7, .ref h4])), (h1, .inl (c 0, 14, .inl f5)), (h2, .inl (c 0, 14, .inl f6))] t.heap ∧ va_D A [(h0, .inr (3, [.int v1, .int v2, .ref h2, .ref h1, .ref h6, .ref h3, .ref h5, .ref h7, .ref h4])), (h1, .inl (c 0, 14, .inl f5)), (h2, .inl (c 0, 14, .inl f6))])) (va_A [(h0, .inr (3, [.int v1, .int v2, .ref h2, .ref h1, .ref h6, .ref h3, .ref h5, .ref h7, .ref h4])), (h1, .inl (c 0, 14, .inl f5)), (h2, .inl (c 0, 14, .inl f6))] sz)) 0 0 (va_A [(h0, .inr (3, [.int v1, .int v2, .ref h2, .ref h1, .ref h6, .ref h3, .ref h5, .ref h7, .ref h4])), (h1, .inl (c 0, 14, .inl f5)), (h2, .inl (c 0, 14, .inl f6))] sz) := by
  refine start2 (by decide +kernel) (Nat.le_of_ble_eq_true rfl) ?_
  intro p e s m below meth cd A ls Q hx hb hr hml hts hown hlocks hin hA hS hK hP hD hN hl hQ
  have hown : s.vm.findClass RX4 = some m.cls := hown
  have hl : lv_has ls 4 [(0, .ref h0), (1, .int a1)] := hl
  have hP : va_P D vwCl [(h0, .inr (3, [.int v1, .int v2, .ref h2, .ref h1, .ref h6, .ref h3, .ref h5, .ref h7, .ref h4])), (h1, .inl (c 0, 14, .inl f5)), (h2, .inl (c 0, 14, .inl f6))] s.heap := hP
  refine lv_iconst (v := 1) hx hb dX4_reach_0 (by decide) ?_
  refine lv_iload_n hx hb dX4_reach_1 rfl (lv_at hl 1 rfl) ?_
  refine lv_ishl hx hb dX4_reach_2 ?_
  refine q_shl (X := 1) (Y := a1.toInt) (M := 128) 1 7 (by decide) rfl (by omega) (by omega) (by omega) (by omega) (by decide) (by decide) (by decide) (fun z1001 ez1001 hz1001 => ?_)
  refine lv_istore_n (lv' := [(2, .int z1001), (0, .ref h0), (1, .int a1)]) hx hb dX4_reach_3 rfl hl (by decide) rfl (fun ls hl => ?_)
  refine lv_iconst (v := 1) hx hb dX4_reach_4 (by decide) ?_
  refine lv_istore_n (lv' := [(3, .int 1), (2, .int z1001), (0, .ref h0), (1, .int a1)]) hx hb dX4_reach_5 rfl hl (by decide) rfl (fun ls hl => ?_)
  have lp1 : ∀ (n1 : Nat), ∀ (x1029 : Int32) (hx1029 : 1 ≤ x1029.toInt ∧ x1029.toInt ≤ 8) (x1030 : Int32) (hm1 : (8 : Int) - x1029.toInt < (n1 : Int)) (H : Heap) (locs : List Loc) (hP : va_P D vwCl [(h0, .inr (3, [.int v1, .int v2, .ref h2, .ref h1, .ref h6, .ref h3, .ref h5, .ref h7, .ref h4])), (h1, .inl (c 0, 14, .inl f5)), (h2, .inl (c 0, 14, .inl f6))] H) (hD : va_D A [(h0, .inr (3, [.int v1, .int v2, .ref h2, .ref h1, .ref h6, .ref h3, .ref h5, .ref h7, .ref h4])), (h1, .inl (c 0, 14, .inl f5)), (h2, .inl (c 0, 14, .inl f6))]) (hS : va_S A s.heap H locs) (ls : Array Slot) (hl : lv_has ls 4 [(3, .int x1029), (2, .int x1030), (0, .ref h0)]), W p l e ({ frames := 2, cells := 0, slots := 0, locals := 44 } : Room) s m [.ref h0, .int a1].toArray below meth cd H locs 0 0 Q (F0 m 6 ls []) := by
    intro n1
    induction n1 with
    | zero =>
      intro x1029 hx1029 x1030 hm1 H locs hP hD hS ls hl
      exact absurd hm1 (by omega)
    | succ n1 ih1 =>
      intro x1029 hx1029 x1030 hm1 H locs hP hD hS ls hl
      refine lv_iload_n hx hb dX4_reach_6 rfl (lv_at hl 0 rfl) ?_
      refine lv_bipush (v := 8) hx hb dX4_reach_7 (by decide) ?_
      refine B_icmp_ge (tgt := 24) (X := x1029.toInt) (Y := 8) hx hb dX4_reach_9 (by decide) rfl (by decide) (fun hc1034 => ?_) (fun hc1034 => ?_)
      · refine lv_iload_n hx hb dX4_reach_24 rfl (lv_at hl 1 rfl) ?_
        exact rI hQ hx hb hr hlocks rfl hS (Nat.le_of_ble_eq_true rfl) (Nat.le_of_ble_eq_true rfl) dX4_reach_25 (fun t ht => ⟨by rw [ht]; exact hP, hD⟩)
      · refine lv_aload_n hx hb dX4_reach_12 rfl (lv_at hl 2 rfl) ?_
        refine lv_iload_n hx hb dX4_reach_13 rfl (lv_at hl 1 rfl) ?_
        refine fI (run_V (n := 1) (ci := 3) ⟨hx, hb, hml, hown, hts⟩ (m_X4_spread l D c h0 h1 h2 h3 h4 h5 h6 h7 H.size v1 v2 f5 f6 x1030 gv1 gv2 gf5 gf6) (hP.sub [0, 1, 2] rfl) (hD.sub [0, 1, 2] (by decide) rfl) hK hN rfl rfl kw_761 kw_763 kw_8 kw_117 kw_764 ⟨rfl, by decide +kernel⟩ ⟨(Nat.le_of_ble_eq_true rfl), (Nat.le_of_ble_eq_true rfl)⟩ rfl rfl rfl hl.1 rfl (Nat.le_of_ble_eq_true rfl) dX4_reach_14 ⟨(Nat.le_of_ble_eq_true rfl), (Nat.le_of_ble_eq_true rfl)⟩) hP hD hS hA [0, 1, 2] rfl (fun z1035 H locs t hB hj hS => ?_)
        obtain ⟨hP1, hD1⟩ := hB
        obtain ⟨hP, hD⟩ := hj (wr := []) (w1 := [(h0, .inr (3, [.int v1, .int v2, .ref h2, .ref h1, .ref h6, .ref h3, .ref h5, .ref h7, .ref h4])), (h1, .inl (c 0, 14, .inl f5)), (h2, .inl (c 0, 14, .inl f6))]) [] rfl (by decide) (by decide) hP1 hD1
        have hP : va_P D vwCl [(h0, .inr (3, [.int v1, .int v2, .ref h2, .ref h1, .ref h6, .ref h3, .ref h5, .ref h7, .ref h4])), (h1, .inl (c 0, 14, .inl f5)), (h2, .inl (c 0, 14, .inl f6))] H := hP
        have hD : va_D A [(h0, .inr (3, [.int v1, .int v2, .ref h2, .ref h1, .ref h6, .ref h3, .ref h5, .ref h7, .ref h4])), (h1, .inl (c 0, 14, .inl f5)), (h2, .inl (c 0, 14, .inl f6))] := hD
        refine lv_istore_n (lv' := [(2, .int z1035), (3, .int x1029), (0, .ref h0)]) hx hb dX4_reach_17 rfl hl (by decide) rfl (fun ls hl => ?_)
        obtain ⟨z1036, ez1036, hz1036⟩ : ∃ y : Int32, y = x1029 + Int32.ofInt 1 ∧ y.toInt = x1029.toInt + 1 := ⟨_, rfl, ad_int (A := x1029.toInt) (B := 1) rfl (by decide) (by omega) (by omega)⟩
        refine lv_iinc (v := z1036) (lv' := [(3, .int z1036), (2, .int z1035), (0, .ref h0)]) hx hb dX4_reach_18 hl (k := 1) rfl ez1036.symm (by decide) rfl (fun ls hl => ?_)
        refine lv_goto (tgt := 6) hx hb dX4_reach_21 (by decide) ?_
        exact ih1 z1036 ⟨by omega, by omega⟩ z1035 (by omega) H locs hP hD hS ls (lv_sub hl [0, 1, 2] rfl)
  have hk0 : (1 : Int32).toInt = 1 := by decide
  exact lp1 (((8 : Int) - 1).toNat + 1) 1 (by decide) z1001 (by omega) s.heap [] hP hD hS ls (lv_sub hl [0, 1, 2] rfl)
set_option maxHeartbeats 4000000 in
set_option maxRecDepth 100000 in
theorem m_X4_distance (l : Launch) (D : va_G) (c : Nat → ClassId) (h0 h1 h2 h3 h4 h5 h6 h7 : Nat) (sz : Nat) (v1 : Int32) (v2 : Int32) (f8 : Nat → Int32) (f9 : Nat → Int32) (a1 : Int32) (a2 : Int32) (gv1 : 0 ≤ v1.toInt ∧ v1.toInt ≤ 14) (gv2 : 0 ≤ v2.toInt ∧ v2.toInt ≤ 16383) (gf8 : Rg f8 0 7) (gf9 : Rg f9 0 7) (ga1 : 0 ≤ a1.toInt ∧ a1.toInt ≤ 7) (ga2 : 0 ≤ a2.toInt ∧ a2.toInt ≤ 7) : Met l yX4_distance (Cond.code yX4_distance cX4_distance 5 (some .int) :: TB) ({ frames := 2, cells := 0, slots := 0, locals := 44 } : Room) (va_Pc [.ref h0, .int a1, .int a2] (PW D c [(h0, .inr (3, [.int v1, .int v2, .ref h2, .ref h1, .ref h6, .ref h3, .ref h5, .ref h7, .ref h4])), (h1, .inl (c 0, 14, .inl f8)), (h2, .inl (c 0, 14, .inl f9))] sz)) ((QIx (fun A r t => ((-1) ≤ r.toInt ∧ r.toInt ≤ 7) ∧ va_P D vwCl [(h0, .inr (3, [.int v1, .int v2, .ref h2, .ref h1, .ref h6, .ref h3, .ref h5, .ref h7, .ref h4])), (h1, .inl (c 0, 14, .inl f8)), (h2, .inl (c 0, 14, .inl f9))] t.heap ∧ va_D A [(h0, .inr (3, [.int v1, .int v2, .ref h2, .ref h1, .ref h6, .ref h3, .ref h5, .ref h7, .ref h4])), (h1, .inl (c 0, 14, .inl f8)), (h2, .inl (c 0, 14, .inl f9))])) (va_A [(h0, .inr (3, [.int v1, .int v2, .ref h2, .ref h1, .ref h6, .ref h3, .ref h5, .ref h7, .ref h4])), (h1, .inl (c 0, 14, .inl f8)), (h2, .inl (c 0, 14, .inl f9))] sz)) 0 0 (va_A [(h0, .inr (3, [.int v1, .int v2, .ref h2, .ref h1, .ref h6, .ref h3, .ref h5, .ref h7, .ref h4])), (h1, .inl (c 0, 14, .inl f8)), (h2, .inl (c 0, 14, .inl f9))] sz) := by
  refine start2 (by decide +kernel) (Nat.le_of_ble_eq_true rfl) ?_
  intro p e s m below meth cd A ls Q hx hb hr hml hts hown hlocks hin hA hS hK hP hD hN hl hQ
  have hown : s.vm.findClass RX4 = some m.cls := hown
  have hl : lv_has ls 5 [(0, .ref h0), (1, .int a1), (2, .int a2)] := hl
  have hP : va_P D vwCl [(h0, .inr (3, [.int v1, .int v2, .ref h2, .ref h1, .ref h6, .ref h3, .ref h5, .ref h7, .ref h4])), (h1, .inl (c 0, 14, .inl f8)), (h2, .inl (c 0, 14, .inl f9))] s.heap := hP
  refine lv_iconst (v := 1) hx hb dX4_distance_0 (by decide) ?_
  refine lv_iload_n hx hb dX4_distance_1 rfl (lv_at hl 1 rfl) ?_
  refine lv_ishl hx hb dX4_distance_2 ?_
  refine q_shl (X := 1) (Y := a1.toInt) (M := 128) 1 7 (by decide) rfl (by omega) (by omega) (by omega) (by omega) (by decide) (by decide) (by decide) (fun z1001 ez1001 hz1001 => ?_)
  refine lv_istore_n (lv' := [(3, .int z1001), (0, .ref h0), (1, .int a1), (2, .int a2)]) hx hb dX4_distance_3 rfl hl (by decide) rfl (fun ls hl => ?_)
  refine lv_iconst (v := 0) hx hb dX4_distance_4 (by decide) ?_
  refine lv_istore (lv' := [(4, .int 0), (3, .int z1001), (0, .ref h0), (1, .int a1), (2, .int a2)]) hx hb dX4_distance_5 hl (by decide) rfl (fun ls hl => ?_)
  have lp1 : ∀ (n1 : Nat), ∀ (x1047 : Int32) (hx1047 : 0 ≤ x1047.toInt ∧ x1047.toInt ≤ 8) (x1048 : Int32) (hm1 : (8 : Int) - x1047.toInt < (n1 : Int)) (H : Heap) (locs : List Loc) (hP : va_P D vwCl [(h0, .inr (3, [.int v1, .int v2, .ref h2, .ref h1, .ref h6, .ref h3, .ref h5, .ref h7, .ref h4])), (h1, .inl (c 0, 14, .inl f8)), (h2, .inl (c 0, 14, .inl f9))] H) (hD : va_D A [(h0, .inr (3, [.int v1, .int v2, .ref h2, .ref h1, .ref h6, .ref h3, .ref h5, .ref h7, .ref h4])), (h1, .inl (c 0, 14, .inl f8)), (h2, .inl (c 0, 14, .inl f9))]) (hS : va_S A s.heap H locs) (ls : Array Slot) (hl : lv_has ls 5 [(4, .int x1047), (3, .int x1048), (0, .ref h0), (2, .int a2)]), W p l e ({ frames := 2, cells := 0, slots := 0, locals := 44 } : Room) s m [.ref h0, .int a1, .int a2].toArray below meth cd H locs 0 0 Q (F0 m 7 ls []) := by
    intro n1
    induction n1 with
    | zero =>
      intro x1047 hx1047 x1048 hm1 H locs hP hD hS ls hl
      exact absurd hm1 (by omega)
    | succ n1 ih1 =>
      intro x1047 hx1047 x1048 hm1 H locs hP hD hS ls hl
      refine lv_iload hx hb dX4_distance_7 (lv_at hl 0 rfl) ?_
      refine lv_bipush (v := 8) hx hb dX4_distance_9 (by decide) ?_
      refine B_icmp_ge (tgt := 37) (X := x1047.toInt) (Y := 8) hx hb dX4_distance_11 (by decide) rfl (by decide) (fun hc1055 => ?_) (fun hc1055 => ?_)
      · refine lv_iconst (v := (-1)) hx hb dX4_distance_37 (by decide) ?_
        have hk0 : ((-1) : Int32).toInt = (-1) := by decide
        exact rI hQ hx hb hr hlocks rfl hS (Nat.le_of_ble_eq_true rfl) (Nat.le_of_ble_eq_true rfl) dX4_distance_38 (fun t ht => ⟨by decide, by rw [ht]; exact hP, hD⟩)
      · refine lv_iload_n hx hb dX4_distance_14 rfl (lv_at hl 1 rfl) ?_
        refine lv_iload_n hx hb dX4_distance_15 rfl (lv_at hl 3 rfl) ?_
        refine lv_ishr hx hb dX4_distance_16 ?_
        refine o_any (fun z1056 ez1056 => ?_)
        refine lv_iconst (v := 1) hx hb dX4_distance_17 (by decide) ?_
        refine lv_iand hx hb dX4_distance_18 ?_
        refine q_mask (X := z1056.toInt) (M := 2) 1 rfl (by decide) (by decide) (by decide) (fun z1057 ez1057 hz1057 => ?_)
        refine B_if_eq (tgt := 25) (X := z1057.toInt) hx hb dX4_distance_19 (by decide) rfl (fun hc1058 => ?_) (fun hc1058 => ?_)
        · refine lv_aload_n hx hb dX4_distance_25 rfl (lv_at hl 2 rfl) ?_
          refine lv_iload_n hx hb dX4_distance_26 rfl (lv_at hl 1 rfl) ?_
          refine fI (run_V (n := 1) (ci := 3) ⟨hx, hb, hml, hown, hts⟩ (m_X4_spread l D c h0 h1 h2 h3 h4 h5 h6 h7 H.size v1 v2 f8 f9 x1048 gv1 gv2 gf8 gf9) (hP.sub [0, 1, 2] rfl) (hD.sub [0, 1, 2] (by decide) rfl) hK hN rfl rfl kw_761 kw_763 kw_8 kw_117 kw_764 ⟨rfl, by decide +kernel⟩ ⟨(Nat.le_of_ble_eq_true rfl), (Nat.le_of_ble_eq_true rfl)⟩ rfl rfl rfl hl.1 rfl (Nat.le_of_ble_eq_true rfl) dX4_distance_27 ⟨(Nat.le_of_ble_eq_true rfl), (Nat.le_of_ble_eq_true rfl)⟩) hP hD hS hA [0, 1, 2] rfl (fun z1059 H locs t hB hj hS => ?_)
          obtain ⟨hP1, hD1⟩ := hB
          obtain ⟨hP, hD⟩ := hj (wr := []) (w1 := [(h0, .inr (3, [.int v1, .int v2, .ref h2, .ref h1, .ref h6, .ref h3, .ref h5, .ref h7, .ref h4])), (h1, .inl (c 0, 14, .inl f8)), (h2, .inl (c 0, 14, .inl f9))]) [] rfl (by decide) (by decide) hP1 hD1
          have hP : va_P D vwCl [(h0, .inr (3, [.int v1, .int v2, .ref h2, .ref h1, .ref h6, .ref h3, .ref h5, .ref h7, .ref h4])), (h1, .inl (c 0, 14, .inl f8)), (h2, .inl (c 0, 14, .inl f9))] H := hP
          have hD : va_D A [(h0, .inr (3, [.int v1, .int v2, .ref h2, .ref h1, .ref h6, .ref h3, .ref h5, .ref h7, .ref h4])), (h1, .inl (c 0, 14, .inl f8)), (h2, .inl (c 0, 14, .inl f9))] := hD
          refine lv_istore_n (lv' := [(3, .int z1059), (4, .int x1047), (0, .ref h0), (2, .int a2)]) hx hb dX4_distance_30 rfl hl (by decide) rfl (fun ls hl => ?_)
          obtain ⟨z1060, ez1060, hz1060⟩ : ∃ y : Int32, y = x1047 + Int32.ofInt 1 ∧ y.toInt = x1047.toInt + 1 := ⟨_, rfl, ad_int (A := x1047.toInt) (B := 1) rfl (by decide) (by omega) (by omega)⟩
          refine lv_iinc (v := z1060) (lv' := [(4, .int z1060), (3, .int z1059), (0, .ref h0), (2, .int a2)]) hx hb dX4_distance_31 hl (k := 1) rfl ez1060.symm (by decide) rfl (fun ls hl => ?_)
          refine lv_goto (tgt := 7) hx hb dX4_distance_34 (by decide) ?_
          exact ih1 z1060 ⟨by omega, by omega⟩ z1059 (by omega) H locs hP hD hS ls (lv_sub hl [0, 1, 2, 3] rfl)
        · refine lv_iload hx hb dX4_distance_22 (lv_at hl 0 rfl) ?_
          exact rI hQ hx hb hr hlocks rfl hS (Nat.le_of_ble_eq_true rfl) (Nat.le_of_ble_eq_true rfl) dX4_distance_24 (fun t ht => ⟨⟨by omega, by omega⟩, by rw [ht]; exact hP, hD⟩)
  have hk0 : (0 : Int32).toInt = 0 := by decide
  exact lp1 (((8 : Int) - 0).toNat + 1) 0 (by decide) z1001 (by omega) s.heap [] hP hD hS ls (lv_sub hl [0, 1, 2, 4] rfl)
set_option maxHeartbeats 4000000 in
set_option maxRecDepth 100000 in
theorem m_X4_unit (l : Launch) (D : va_G) (c : Nat → ClassId) (sz : Nat) (a0 : Int32) : Met l yX4_unit (Cond.code yX4_unit cX4_unit 1 (some .long) :: TB) ({ frames := 0, cells := 0, slots := 0, locals := 0 } : Room) (va_Pc [.int a0] (PW D c [] sz)) ((QLx (fun A r t => va_P D vwCl [] t.heap ∧ va_D A [])) (va_A [] sz)) 0 0 (va_A [] sz) := by
  refine start2 (by decide +kernel) (Nat.le_of_ble_eq_true rfl) ?_
  intro p e s m below meth cd A ls Q hx hb hr hml hts hown hlocks hin hA hS hK hP hD hN hl hQ
  have hown : s.vm.findClass RX4 = some m.cls := hown
  have hl : lv_has ls 1 [(0, .int a0)] := hl
  have hP : va_P D vwCl [] s.heap := hP
  refine lv_iload_n hx hb dX4_unit_0 rfl (lv_at hl 0 rfl) ?_
  refine B_if_lt (tgt := 19) (X := a0.toInt) hx hb dX4_unit_1 (by decide) rfl (fun hc1001 => ?_) (fun hc1001 => ?_)
  · refine lv_lconst (v := 0) hx hb dX4_unit_19 (by decide) ?_
    exact rL hQ hx hb hr hlocks hS (Nat.le_of_ble_eq_true rfl) (Nat.le_of_ble_eq_true rfl) dX4_unit_20 (fun t ht => ⟨by rw [ht]; exact hP, hD⟩)
  · refine lv_iload_n hx hb dX4_unit_4 rfl (lv_at hl 0 rfl) ?_
    refine lv_bipush (v := 8) hx hb dX4_unit_5 (by decide) ?_
    refine B_icmp_ge (tgt := 19) (X := a0.toInt) (Y := 8) hx hb dX4_unit_7 (by decide) rfl (by decide) (fun hc1002 => ?_) (fun hc1002 => ?_)
    · refine lv_lconst (v := 0) hx hb dX4_unit_19 (by decide) ?_
      exact rL hQ hx hb hr hlocks hS (Nat.le_of_ble_eq_true rfl) (Nat.le_of_ble_eq_true rfl) dX4_unit_20 (fun t ht => ⟨by rw [ht]; exact hP, hD⟩)
    · refine lv_lconst (v := 1) hx hb dX4_unit_10 (by decide) ?_
      refine lv_bipush (v := 8) hx hb dX4_unit_11 (by decide) ?_
      refine lv_iload_n hx hb dX4_unit_13 rfl (lv_at hl 0 rfl) ?_
      refine lv_imul hx hb dX4_unit_14 ?_
      refine q_mul (X := 8) (Y := a0.toInt) (by decide) rfl rfl (by omega) (by omega) (fun z1003 ez1003 hz1003 => ?_)
      refine lv_lshl hx hb dX4_unit_15 rfl ?_
      refine lv_topl (fun w1004 ew1004 => ?_)
      refine lv_goto (tgt := 20) hx hb dX4_unit_16 (by decide) ?_
      exact rL hQ hx hb hr hlocks hS (Nat.le_of_ble_eq_true rfl) (Nat.le_of_ble_eq_true rfl) dX4_unit_20 (fun t ht => ⟨by rw [ht]; exact hP, hD⟩)
set_option maxHeartbeats 4000000 in
set_option maxRecDepth 100000 in
theorem m_X4_outwards (l : Launch) (D : va_G) (c : Nat → ClassId) (h0 h1 h2 h3 h4 h5 h6 h7 : Nat) (sz : Nat) (v1 : Int32) (v2 : Int32) (f4 : Nat → Int32) (f5 : Nat → Int32) (gv1 : 0 ≤ v1.toInt ∧ v1.toInt ≤ 14) (gv2 : 0 ≤ v2.toInt ∧ v2.toInt ≤ 16383) (gf4 : Rg f4 0 7) (gf5 : Rg f5 0 7) : Met l yX4_outwards (Cond.code yX4_outwards cX4_outwards 4 (some .long) :: TB) ({ frames := 1, cells := 0, slots := 0, locals := 21 } : Room) (va_Pc [.ref h0] (PW D c [(h0, .inr (3, [.int v1, .int v2, .ref h2, .ref h1, .ref h6, .ref h3, .ref h5, .ref h7, .ref h4])), (h1, .inl (c 0, 14, .inl f4)), (h2, .inl (c 0, 14, .inl f5))] sz)) ((QLx (fun A r t => va_P D vwCl [(h0, .inr (3, [.int v1, .int v2, .ref h2, .ref h1, .ref h6, .ref h3, .ref h5, .ref h7, .ref h4])), (h1, .inl (c 0, 14, .inl f4)), (h2, .inl (c 0, 14, .inl f5))] t.heap ∧ va_D A [(h0, .inr (3, [.int v1, .int v2, .ref h2, .ref h1, .ref h6, .ref h3, .ref h5, .ref h7, .ref h4])), (h1, .inl (c 0, 14, .inl f4)), (h2, .inl (c 0, 14, .inl f5))])) (va_A [(h0, .inr (3, [.int v1, .int v2, .ref h2, .ref h1, .ref h6, .ref h3, .ref h5, .ref h7, .ref h4])), (h1, .inl (c 0, 14, .inl f4)), (h2, .inl (c 0, 14, .inl f5))] sz)) 0 0 (va_A [(h0, .inr (3, [.int v1, .int v2, .ref h2, .ref h1, .ref h6, .ref h3, .ref h5, .ref h7, .ref h4])), (h1, .inl (c 0, 14, .inl f4)), (h2, .inl (c 0, 14, .inl f5))] sz) := by
  refine start2 (by decide +kernel) (Nat.le_of_ble_eq_true rfl) ?_
  intro p e s m below meth cd A ls Q hx hb hr hml hts hown hlocks hin hA hS hK hP hD hN hl hQ
  have hown : s.vm.findClass RX4 = some m.cls := hown
  have hl : lv_has ls 4 [(0, .ref h0)] := hl
  have hP : va_P D vwCl [(h0, .inr (3, [.int v1, .int v2, .ref h2, .ref h1, .ref h6, .ref h3, .ref h5, .ref h7, .ref h4])), (h1, .inl (c 0, 14, .inl f4)), (h2, .inl (c 0, 14, .inl f5))] s.heap := hP
  refine lv_lconst (v := 0) hx hb dX4_outwards_0 (by decide) ?_
  refine lv_lstore_n (lv' := [(1, .long 0), (0, .ref h0)]) hx hb dX4_outwards_1 rfl hl (by decide) rfl (fun ls hl => ?_)
  refine lv_iconst (v := 0) hx hb dX4_outwards_2 (by decide) ?_
  refine lv_istore_n (lv' := [(3, .int 0), (1, .long 0), (0, .ref h0)]) hx hb dX4_outwards_3 rfl hl (by decide) rfl (fun ls hl => ?_)
  have lp1 : ∀ (n1 : Nat), ∀ (x1040 : Int32) (hx1040 : 0 ≤ x1040.toInt ∧ x1040.toInt ≤ 14) (w1041 : Int64) (hm1 : (14 : Int) - x1040.toInt < (n1 : Int)) (H : Heap) (locs : List Loc) (hP : va_P D vwCl [(h0, .inr (3, [.int v1, .int v2, .ref h2, .ref h1, .ref h6, .ref h3, .ref h5, .ref h7, .ref h4])), (h1, .inl (c 0, 14, .inl f4)), (h2, .inl (c 0, 14, .inl f5))] H) (hD : va_D A [(h0, .inr (3, [.int v1, .int v2, .ref h2, .ref h1, .ref h6, .ref h3, .ref h5, .ref h7, .ref h4])), (h1, .inl (c 0, 14, .inl f4)), (h2, .inl (c 0, 14, .inl f5))]) (hS : va_S A s.heap H locs) (ls : Array Slot) (hl : lv_has ls 4 [(3, .int x1040), (1, .long w1041), (0, .ref h0)]), W p l e ({ frames := 1, cells := 0, slots := 0, locals := 21 } : Room) s m [.ref h0].toArray below meth cd H locs 0 0 Q (F0 m 4 ls []) := by
    intro n1
    induction n1 with
    | zero =>
      intro x1040 hx1040 w1041 hm1 H locs hP hD hS ls hl
      exact absurd hm1 (by omega)
    | succ n1 ih1 =>
      intro x1040 hx1040 w1041 hm1 H locs hP hD hS ls hl
      refine lv_iload_n hx hb dX4_outwards_4 rfl (lv_at hl 0 rfl) ?_
      refine lv_aload_n hx hb dX4_outwards_5 rfl (lv_at hl 2 rfl) ?_
      refine va_get (D := D) (ci := 3) (v := .int v1) (C := RX4) (T := TX4) (N := 9) hx hb hts i_X4 hown hK hP 0 rfl rfl 0 (by decide) (hts _ kw_212) (fun _ h9 => h9) rfl dX4_outwards_6 ?_
      refine B_icmp_ge (tgt := 29) (X := x1040.toInt) (Y := v1.toInt) hx hb dX4_outwards_9 (by decide) rfl rfl (fun hc1047 => ?_) (fun hc1047 => ?_)
      · refine lv_lload_n hx hb dX4_outwards_29 rfl (lv_at hl 1 rfl) ?_
        exact rL hQ hx hb hr hlocks hS (Nat.le_of_ble_eq_true rfl) (Nat.le_of_ble_eq_true rfl) dX4_outwards_30 (fun t ht => ⟨by rw [ht]; exact hP, hD⟩)
      · refine lv_lload_n hx hb dX4_outwards_12 rfl (lv_at hl 1 rfl) ?_
        refine lv_aload_n hx hb dX4_outwards_13 rfl (lv_at hl 2 rfl) ?_
        refine lv_iload_n hx hb dX4_outwards_14 rfl (lv_at hl 0 rfl) ?_
        refine fI (run_V (n := 1) (ci := 3) ⟨hx, hb, hml, hown, hts⟩ (m_X4_tail l D c h0 h1 h2 H.size v1 v2 (.ref h6) (.ref h3) (.ref h5) (.ref h7) (.ref h4) f4 f5 x1040 gv1 gv2 gf4 gf5 ⟨by omega, by omega⟩) (hP.sub [0, 1, 2] rfl) (hD.sub [0, 1, 2] (by decide) rfl) hK hN rfl rfl kw_765 kw_715 kw_716 kw_117 kw_717 ⟨rfl, by decide +kernel⟩ ⟨(Nat.le_of_ble_eq_true rfl), (Nat.le_of_ble_eq_true rfl)⟩ rfl rfl rfl hl.1 rfl (Nat.le_of_ble_eq_true rfl) dX4_outwards_15 ⟨(Nat.le_of_ble_eq_true rfl), (Nat.le_of_ble_eq_true rfl)⟩) hP hD hS hA [0, 1, 2] rfl (fun z1048 H locs t hB hj hS => ?_)
        obtain ⟨hq1049, hP1, hD1⟩ := hB
        obtain ⟨hP, hD⟩ := hj (wr := []) (w1 := [(h0, .inr (3, [.int v1, .int v2, .ref h2, .ref h1, .ref h6, .ref h3, .ref h5, .ref h7, .ref h4])), (h1, .inl (c 0, 14, .inl f4)), (h2, .inl (c 0, 14, .inl f5))]) [] rfl (by decide) (by decide) hP1 hD1
        have hP : va_P D vwCl [(h0, .inr (3, [.int v1, .int v2, .ref h2, .ref h1, .ref h6, .ref h3, .ref h5, .ref h7, .ref h4])), (h1, .inl (c 0, 14, .inl f4)), (h2, .inl (c 0, 14, .inl f5))] H := hP
        have hD : va_D A [(h0, .inr (3, [.int v1, .int v2, .ref h2, .ref h1, .ref h6, .ref h3, .ref h5, .ref h7, .ref h4])), (h1, .inl (c 0, 14, .inl f4)), (h2, .inl (c 0, 14, .inl f5))] := hD
        refine fL (run_S (n := 1) ⟨hx, hb, hml, hown, hts⟩ (m_X4_unit l D c H.size z1048) (hP.sub [] rfl) (hD.sub [] (by decide) rfl) hK hN rfl rfl kw_936 kw_937 kw_117 kw_938 (by decide +kernel) ⟨(Nat.le_of_ble_eq_true rfl), (Nat.le_of_ble_eq_true rfl)⟩ rfl hl.1 rfl (Nat.le_of_ble_eq_true rfl) dX4_outwards_18 ⟨(Nat.le_of_ble_eq_true rfl), (Nat.le_of_ble_eq_true rfl)⟩) hP hD hS hA [] rfl (fun w1050 H locs t hB hj hS => ?_)
        obtain ⟨hP1, hD1⟩ := hB
        obtain ⟨hP, hD⟩ := hj (wr := [(h0, .inr (3, [.int v1, .int v2, .ref h2, .ref h1, .ref h6, .ref h3, .ref h5, .ref h7, .ref h4])), (h1, .inl (c 0, 14, .inl f4)), (h2, .inl (c 0, 14, .inl f5))]) (w1 := []) [0, 1, 2] rfl (by decide) (by decide) hP1 hD1
        have hP : va_P D vwCl [(h0, .inr (3, [.int v1, .int v2, .ref h2, .ref h1, .ref h6, .ref h3, .ref h5, .ref h7, .ref h4])), (h1, .inl (c 0, 14, .inl f4)), (h2, .inl (c 0, 14, .inl f5))] H := hP
        have hD : va_D A [(h0, .inr (3, [.int v1, .int v2, .ref h2, .ref h1, .ref h6, .ref h3, .ref h5, .ref h7, .ref h4])), (h1, .inl (c 0, 14, .inl f4)), (h2, .inl (c 0, 14, .inl f5))] := hD
        refine lv_ladd hx hb dX4_outwards_21 ?_
        refine lv_topl (fun w1051 ew1051 => ?_)
        refine lv_lstore_n (lv' := [(1, .long w1051), (3, .int x1040), (0, .ref h0)]) hx hb dX4_outwards_22 rfl hl (by decide) rfl (fun ls hl => ?_)
        obtain ⟨z1052, ez1052, hz1052⟩ : ∃ y : Int32, y = x1040 + Int32.ofInt 1 ∧ y.toInt = x1040.toInt + 1 := ⟨_, rfl, ad_int (A := x1040.toInt) (B := 1) rfl (by decide) (by omega) (by omega)⟩
        refine lv_iinc (v := z1052) (lv' := [(3, .int z1052), (1, .long w1051), (0, .ref h0)]) hx hb dX4_outwards_23 hl (k := 1) rfl ez1052.symm (by decide) rfl (fun ls hl => ?_)
        refine lv_goto (tgt := 4) hx hb dX4_outwards_26 (by decide) ?_
        exact ih1 z1052 ⟨by omega, by omega⟩ w1051 (by omega) H locs hP hD hS ls (lv_sub hl [0, 1, 2] rfl)
  have hk0 : (0 : Int32).toInt = 0 := by decide
  exact lp1 (((14 : Int) - 0).toNat + 1) 0 (by decide) 0 (by omega) s.heap [] hP hD hS ls (lv_sub hl [0, 1, 2] rfl)
set_option maxHeartbeats 4000000 in
set_option maxRecDepth 100000 in
theorem m_X4_clear (l : Launch) (D : va_G) (c : Nat → ClassId) (h0 h1 h2 : Nat) (sz : Nat) (v1 : Int32) (v2 : Int32) (u50 : Value) (u51 : Value) (u52 : Value) (u53 : Value) (u54 : Value) (f3 : Nat → Int32) (f4 : Nat → Int32) (gv1 : 0 ≤ v1.toInt ∧ v1.toInt ≤ 14) (gv2 : 0 ≤ v2.toInt ∧ v2.toInt ≤ 16383) (gf3 : Rg f3 0 16383) (gf4 : Rg f4 0 16383) : Met l yX4_clear (Cond.code yX4_clear cX4_clear 2 none :: TB) ({ frames := 0, cells := 0, slots := 0, locals := 0 } : Room) (va_Pc [.ref h0] (PW D c [(h0, .inr (3, [.int v1, .int v2, u50, u51, u52, u53, u54, .ref h1, .ref h2])), (h1, .inl (c 0, 8, .inl f3)), (h2, .inl (c 0, 8, .inl f4))] sz)) ((QV (fun A t => ∃ (f900 : Nat → Int32) (f901 : Nat → Int32), (Rg f900 0 16383) ∧ (Rg f901 0 16383) ∧ (DrOK 0 0) ∧ (OuOK 0 f900) ∧ (OuOK 0 f901) ∧ va_P D vwCl [(h0, .inr (3, [.int 0, .int 0, u50, u51, u52, u53, u54, .ref h1, .ref h2])), (h1, .inl (c 0, 8, .inl f900)), (h2, .inl (c 0, 8, .inl f901))] t.heap ∧ va_D A [(h0, .inr (3, [.int 0, .int 0, u50, u51, u52, u53, u54, .ref h1, .ref h2])), (h1, .inl (c 0, 8, .inl f900)), (h2, .inl (c 0, 8, .inl f901))])) (va_A [(h0, .inr (3, [.int v1, .int v2, u50, u51, u52, u53, u54, .ref h1, .ref h2])), (h1, .inl (c 0, 8, .inl f3)), (h2, .inl (c 0, 8, .inl f4))] sz)) 0 0 (va_A [(h0, .inr (3, [.int v1, .int v2, u50, u51, u52, u53, u54, .ref h1, .ref h2])), (h1, .inl (c 0, 8, .inl f3)), (h2, .inl (c 0, 8, .inl f4))] sz) := by
  refine start2 (by decide +kernel) (Nat.le_of_ble_eq_true rfl) ?_
  intro p e s m below meth cd A ls Q hx hb hr hml hts hown hlocks hin hA hS hK hP hD hN hl hQ
  have hown : s.vm.findClass RX4 = some m.cls := hown
  have hl : lv_has ls 2 [(0, .ref h0)] := hl
  have hP : va_P D vwCl [(h0, .inr (3, [.int v1, .int v2, u50, u51, u52, u53, u54, .ref h1, .ref h2])), (h1, .inl (c 0, 8, .inl f3)), (h2, .inl (c 0, 8, .inl f4))] s.heap := hP
  refine lv_aload_n hx hb dX4_clear_0 rfl (lv_at hl 0 rfl) ?_
  refine lv_iconst (v := 0) hx hb dX4_clear_1 (by decide) ?_
  refine va_put (D := D) (ci := 3) (v := .int 0) (ty := .int) (C := RX4) (T := TX4) (N := 9) hx hb hts i_X4 tyX4 tyX4_ok nmX4 hown hK hP hD hS 0 rfl rfl 0 (by decide) (hts _ kw_212) (fun _ h9 => h9) rfl (tyX4_ok 0 (by decide)) rfl rfl (Nat.le_of_ble_eq_true rfl) dX4_clear_2 (fun H locs hP hD hS => ?_)
  have hP : va_P D vwCl [(h0, .inr (3, [.int 0, .int v2, u50, u51, u52, u53, u54, .ref h1, .ref h2])), (h1, .inl (c 0, 8, .inl f3)), (h2, .inl (c 0, 8, .inl f4))] H := hP
  have hD : va_D A [(h0, .inr (3, [.int 0, .int v2, u50, u51, u52, u53, u54, .ref h1, .ref h2])), (h1, .inl (c 0, 8, .inl f3)), (h2, .inl (c 0, 8, .inl f4))] := hD
  refine lv_aload_n hx hb dX4_clear_5 rfl (lv_at hl 0 rfl) ?_
  refine lv_iconst (v := 0) hx hb dX4_clear_6 (by decide) ?_
  refine va_put (D := D) (ci := 3) (v := .int 0) (ty := .int) (C := RX4) (T := TX4) (N := 9) hx hb hts i_X4 tyX4 tyX4_ok nmX4 hown hK hP hD hS 0 rfl rfl 1 (by decide) (hts _ kw_218) (fun _ h9 => h9) rfl (tyX4_ok 1 (by decide)) rfl rfl (Nat.le_of_ble_eq_true rfl) dX4_clear_7 (fun H locs hP hD hS => ?_)
  have hP : va_P D vwCl [(h0, .inr (3, [.int 0, .int 0, u50, u51, u52, u53, u54, .ref h1, .ref h2])), (h1, .inl (c 0, 8, .inl f3)), (h2, .inl (c 0, 8, .inl f4))] H := hP
  have hD : va_D A [(h0, .inr (3, [.int 0, .int 0, u50, u51, u52, u53, u54, .ref h1, .ref h2])), (h1, .inl (c 0, 8, .inl f3)), (h2, .inl (c 0, 8, .inl f4))] := hD
  refine lv_iconst (v := 0) hx hb dX4_clear_10 (by decide) ?_
  refine lv_istore_n (lv' := [(1, .int 0), (0, .ref h0)]) hx hb dX4_clear_11 rfl hl (by decide) rfl (fun ls hl => ?_)
  have lp1 : ∀ (n1 : Nat), ∀ (x1039 : Int32) (hx1039 : 0 ≤ x1039.toInt ∧ x1039.toInt ≤ 8) (f1040 : Nat → Int32) (hf1040 : Rg f1040 0 16383) (f1041 : Nat → Int32) (hf1041 : Rg f1041 0 16383) (hi1046 : ∀ j : Nat, (j : Int) < x1039.toInt → f1040 j = 0) (hi1047 : ∀ j : Nat, (j : Int) < x1039.toInt → f1041 j = 0) (hm1 : (8 : Int) - x1039.toInt < (n1 : Int)) (H : Heap) (locs : List Loc) (hP : va_P D vwCl [(h0, .inr (3, [.int 0, .int 0, u50, u51, u52, u53, u54, .ref h1, .ref h2])), (h1, .inl (c 0, 8, .inl f1040)), (h2, .inl (c 0, 8, .inl f1041))] H) (hD : va_D A [(h0, .inr (3, [.int 0, .int 0, u50, u51, u52, u53, u54, .ref h1, .ref h2])), (h1, .inl (c 0, 8, .inl f1040)), (h2, .inl (c 0, 8, .inl f1041))]) (hS : va_S A s.heap H locs) (ls : Array Slot) (hl : lv_has ls 2 [(1, .int x1039), (0, .ref h0)]), W p l e ({ frames := 0, cells := 0, slots := 0, locals := 0 } : Room) s m [.ref h0].toArray below meth cd H locs 0 0 Q (F0 m 12 ls []) := by
    intro n1
    induction n1 with
    | zero =>
      intro x1039 hx1039 f1040 hf1040 f1041 hf1041 hi1046 hi1047 hm1 H locs hP hD hS ls hl
      exact absurd hm1 (by omega)
    | succ n1 ih1 =>
      intro x1039 hx1039 f1040 hf1040 f1041 hf1041 hi1046 hi1047 hm1 H locs hP hD hS ls hl
      refine lv_iload_n hx hb dX4_clear_12 rfl (lv_at hl 0 rfl) ?_
      refine lv_bipush (v := 8) hx hb dX4_clear_13 (by decide) ?_
      refine B_icmp_ge (tgt := 38) (X := x1039.toInt) (Y := 8) hx hb dX4_clear_15 (by decide) rfl (by decide) (fun hc1048 => ?_) (fun hc1048 => ?_)
      · have hv1049 : OuOK 0 f1040 := OuOK.zero (fun j hj => hi1046 j (by omega))
        have hv1050 : OuOK 0 f1041 := OuOK.zero (fun j hj => hi1047 j (by omega))
        exact rV hQ hx hb hr hlocks hS (Nat.le_of_ble_eq_true rfl) (Nat.le_of_ble_eq_true rfl) dX4_clear_38 (fun t ht => ⟨f1040, f1041, hf1040, hf1041, (DrOK.zero _), hv1049, hv1050, by rw [ht]; exact hP, hD⟩)
      · refine lv_aload_n hx hb dX4_clear_18 rfl (lv_at hl 1 rfl) ?_
        refine va_get (D := D) (ci := 3) (v := .ref h1) (C := RX4) (T := TX4) (N := 9) hx hb hts i_X4 hown hK hP 0 rfl rfl 7 (by decide) (hts _ kw_242) (fun _ h9 => h9) rfl dX4_clear_19 ?_
        refine lv_iload_n hx hb dX4_clear_22 rfl (lv_at hl 0 rfl) ?_
        refine lv_iconst (v := 0) hx hb dX4_clear_23 (by decide) ?_
        refine va_iast hx hb hK hP hD hS 1 0 rfl rfl (in_of (by omega) (by omega)) dX4_clear_24 (fun H locs hP hD hS => ?_)
        obtain ⟨f1051, ef1051, hf1051, hP, hD⟩ : ∃ y : Nat → Int32, y = upd f1040 (Int32.toNatClampNeg x1039) 0 ∧ Rg y 0 16383 ∧ va_P D vwCl [(h0, .inr (3, [.int 0, .int 0, u50, u51, u52, u53, u54, .ref h1, .ref h2])), (h1, .inl (c 0, 8, .inl y)), (h2, .inl (c 0, 8, .inl f1041))] H ∧ va_D A [(h0, .inr (3, [.int 0, .int 0, u50, u51, u52, u53, u54, .ref h1, .ref h2])), (h1, .inl (c 0, 8, .inl y)), (h2, .inl (c 0, 8, .inl f1041))] := ⟨_, rfl, (Rg.upd hf1040 (by decide) (by decide)), hP, hD⟩
        refine lv_aload_n hx hb dX4_clear_25 rfl (lv_at hl 1 rfl) ?_
        refine va_get (D := D) (ci := 3) (v := .ref h2) (C := RX4) (T := TX4) (N := 9) hx hb hts i_X4 hown hK hP 0 rfl rfl 8 (by decide) (hts _ kw_245) (fun _ h9 => h9) rfl dX4_clear_26 ?_
        refine lv_iload_n hx hb dX4_clear_29 rfl (lv_at hl 0 rfl) ?_
        refine lv_iconst (v := 0) hx hb dX4_clear_30 (by decide) ?_
        refine va_iast hx hb hK hP hD hS 2 0 rfl rfl (in_of (by omega) (by omega)) dX4_clear_31 (fun H locs hP hD hS => ?_)
        obtain ⟨f1052, ef1052, hf1052, hP, hD⟩ : ∃ y : Nat → Int32, y = upd f1041 (Int32.toNatClampNeg x1039) 0 ∧ Rg y 0 16383 ∧ va_P D vwCl [(h0, .inr (3, [.int 0, .int 0, u50, u51, u52, u53, u54, .ref h1, .ref h2])), (h1, .inl (c 0, 8, .inl f1051)), (h2, .inl (c 0, 8, .inl y))] H ∧ va_D A [(h0, .inr (3, [.int 0, .int 0, u50, u51, u52, u53, u54, .ref h1, .ref h2])), (h1, .inl (c 0, 8, .inl f1051)), (h2, .inl (c 0, 8, .inl y))] := ⟨_, rfl, (Rg.upd hf1041 (by decide) (by decide)), hP, hD⟩
        obtain ⟨z1053, ez1053, hz1053⟩ : ∃ y : Int32, y = x1039 + Int32.ofInt 1 ∧ y.toInt = x1039.toInt + 1 := ⟨_, rfl, ad_int (A := x1039.toInt) (B := 1) rfl (by decide) (by omega) (by omega)⟩
        refine lv_iinc (v := z1053) (lv' := [(1, .int z1053), (0, .ref h0)]) hx hb dX4_clear_32 hl (k := 0) rfl ez1053.symm (by decide) rfl (fun ls hl => ?_)
        refine lv_goto (tgt := 12) hx hb dX4_clear_35 (by decide) ?_
        have hv1054 : ∀ j : Nat, (j : Int) < z1053.toInt → f1051 j = 0 := fun j hj => by rw [ef1051]; exact zero_put hi1046 (by omega) (by omega) j hj
        have hv1055 : ∀ j : Nat, (j : Int) < z1053.toInt → f1052 j = 0 := fun j hj => by rw [ef1052]; exact zero_put hi1047 (by omega) (by omega) j hj
        exact ih1 z1053 ⟨by omega, by omega⟩ f1051 hf1051 f1052 hf1052 hv1054 hv1055 (by omega) H locs hP hD hS ls (lv_sub hl [0, 1] rfl)
  have hv1056 : ∀ j : Nat, (j : Int) < (0 : Int32).toInt → f3 j = 0 := zero_none
  have hv1057 : ∀ j : Nat, (j : Int) < (0 : Int32).toInt → f4 j = 0 := zero_none
  have hk0 : (0 : Int32).toInt = 0 := by decide
  exact lp1 (((8 : Int) - 0).toNat + 1) 0 (by decide) f3 gf3 f4 gf4 hv1056 hv1057 (by omega) H locs hP hD hS ls (lv_sub hl [0, 1] rfl)
set_option maxHeartbeats 4000000 in
set_option maxRecDepth 100000 in
theorem m_X4_add (l : Launch) (D : va_G) (c : Nat → ClassId) (h0 h1 h2 h3 h4 h5 h6 h7 : Nat) (sz : Nat) (v1 : Int32) (v2 : Int32) (f3 : Nat → Int32) (f4 : Nat → Int32) (f10 : Nat → Int32) (f12 : Nat → Int32) (f14 : Nat → Int32) (f16 : Nat → Int32) (f18 : Nat → Int32) (a1 : Int32) (a2 : Int32) (a3 : Int32) (gv1 : 0 ≤ v1.toInt ∧ v1.toInt ≤ 14) (gv2 : 0 ≤ v2.toInt ∧ v2.toInt ≤ 16383) (gf3 : Rg f3 0 16383) (gf4 : Rg f4 0 16383) (gf10 : Rg f10 0 7) (gf12 : Rg f12 0 7) (ge0 : DrOK v1 v2) (ge1 : OuOK v1 f3) (ge2 : OuOK v1 f4) : Met l yX4_add (Cond.code yX4_add cX4_add 4 none :: TB) ({ frames := 1, cells := 0, slots := 0, locals := 20 } : Room) (va_Pc [.ref h0, .int a1, .int a2, .int a3] (PW D c [(h0, .inr (3, [.int v1, .int v2, .ref h3, .ref h4, .ref h5, .ref h6, .ref h7, .ref h1, .ref h2])), (h1, .inl (c 0, 8, .inl f3)), (h2, .inl (c 0, 8, .inl f4)), (h3, .inl (c 0, 14, .inl f10)), (h4, .inl (c 0, 14, .inl f12)), (h5, .inl (c 0, 14, .inl f14)), (h6, .inl (c 0, 14, .inl f16)), (h7, .inl (c 0, 14, .inl f18))] sz)) ((QV (fun A t => ∃ (z900 : Int32) (f901 : Nat → Int32) (f902 : Nat → Int32) (f903 : Nat → Int32) (f904 : Nat → Int32) (f905 : Nat → Int32) (f906 : Nat → Int32) (f907 : Nat → Int32), (0 ≤ z900.toInt ∧ z900.toInt ≤ 14) ∧ (Rg f901 0 16383) ∧ (Rg f902 0 16383) ∧ (Rg f903 0 7) ∧ (Rg f904 0 7) ∧ (DrOK z900 v2) ∧ (OuOK z900 f901) ∧ (OuOK z900 f902) ∧ (v1.toInt ≤ z900.toInt) ∧ va_P D vwCl [(h0, .inr (3, [.int z900, .int v2, .ref h3, .ref h4, .ref h5, .ref h6, .ref h7, .ref h1, .ref h2])), (h1, .inl (c 0, 8, .inl f901)), (h2, .inl (c 0, 8, .inl f902)), (h3, .inl (c 0, 14, .inl f903)), (h4, .inl (c 0, 14, .inl f904)), (h5, .inl (c 0, 14, .inl f905)), (h6, .inl (c 0, 14, .inl f906)), (h7, .inl (c 0, 14, .inl f907))] t.heap ∧ va_D A [(h0, .inr (3, [.int z900, .int v2, .ref h3, .ref h4, .ref h5, .ref h6, .ref h7, .ref h1, .ref h2])), (h1, .inl (c 0, 8, .inl f901)), (h2, .inl (c 0, 8, .inl f902)), (h3, .inl (c 0, 14, .inl f903)), (h4, .inl (c 0, 14, .inl f904)), (h5, .inl (c 0, 14, .inl f905)), (h6, .inl (c 0, 14, .inl f906)), (h7, .inl (c 0, 14, .inl f907))])) (va_A [(h0, .inr (3, [.int v1, .int v2, .ref h3, .ref h4, .ref h5, .ref h6, .ref h7, .ref h1, .ref h2])), (h1, .inl (c 0, 8, .inl f3)), (h2, .inl (c 0, 8, .inl f4)), (h3, .inl (c 0, 14, .inl f10)), (h4, .inl (c 0, 14, .inl f12)), (h5, .inl (c 0, 14, .inl f14)), (h6, .inl (c 0, 14, .inl f16)), (h7, .inl (c 0, 14, .inl f18))] sz)) 0 0 (va_A [(h0, .inr (3, [.int v1, .int v2, .ref h3, .ref h4, .ref h5, .ref h6, .ref h7, .ref h1, .ref h2])), (h1, .inl (c 0, 8, .inl f3)), (h2, .inl (c 0, 8, .inl f4)), (h3, .inl (c 0, 14, .inl f10)), (h4, .inl (c 0, 14, .inl f12)), (h5, .inl (c 0, 14, .inl f14)), (h6, .inl (c 0, 14, .inl f16)), (h7, .inl (c 0, 14, .inl f18))] sz) := by
  refine start2 (by decide +kernel) (Nat.le_of_ble_eq_true rfl) ?_
  intro p e s m below meth cd A ls Q hx hb hr hml hts hown hlocks hin hA hS hK hP hD hN hl hQ
  have hown : s.vm.findClass RX4 = some m.cls := hown
  have hl : lv_has ls 4 [(0, .ref h0), (1, .int a1), (2, .int a2), (3, .int a3)] := hl
  have hP : va_P D vwCl [(h0, .inr (3, [.int v1, .int v2, .ref h3, .ref h4, .ref h5, .ref h6, .ref h7, .ref h1, .ref h2])), (h1, .inl (c 0, 8, .inl f3)), (h2, .inl (c 0, 8, .inl f4)), (h3, .inl (c 0, 14, .inl f10)), (h4, .inl (c 0, 14, .inl f12)), (h5, .inl (c 0, 14, .inl f14)), (h6, .inl (c 0, 14, .inl f16)), (h7, .inl (c 0, 14, .inl f18))] s.heap := hP
  refine lv_aload_n hx hb dX4_add_0 rfl (lv_at hl 0 rfl) ?_
  refine va_get (D := D) (ci := 3) (v := .int v1) (C := RX4) (T := TX4) (N := 9) hx hb hts i_X4 hown hK hP 0 rfl rfl 0 (by decide) (hts _ kw_212) (fun _ h9 => h9) rfl dX4_add_1 ?_
  refine lv_bipush (v := 14) hx hb dX4_add_4 (by decide) ?_
  refine B_icmp_ge (tgt := 23) (X := v1.toInt) (Y := 14) hx hb dX4_add_6 (by decide) rfl (by decide) (fun hc1001 => ?_) (fun hc1001 => ?_)
  · exact rV hQ hx hb hr hlocks hS (Nat.le_of_ble_eq_true rfl) (Nat.le_of_ble_eq_true rfl) dX4_add_23 (fun t ht => ⟨v1, f3, f4, f10, f12, f14, f16, f18, gv1, gf3, gf4, gf10, gf12, ge0, ge1, ge2, (by omega), by rw [ht]; exact hP, hD⟩)
  · refine lv_iload_n hx hb dX4_add_9 rfl (lv_at hl 1 rfl) ?_
    refine fI (run_SN (n := 1) ⟨hx, hb, hml, hown, hts⟩ (m_X10_isPlace l D c s.heap.size a1) (hP.sub [] rfl) (hD.sub [] (by decide) rfl) hK hN rfl rfl (hN.1 _ (List.mem_of_getElem? (i := 6) rfl)) kw_610 kw_113 kw_611 (by decide +kernel) ⟨(Nat.le_of_ble_eq_true rfl), (Nat.le_of_ble_eq_true rfl)⟩ rfl hl.1 rfl (Nat.le_of_ble_eq_true rfl) dX4_add_10 ⟨(Nat.le_of_ble_eq_true rfl), (Nat.le_of_ble_eq_true rfl)⟩) hP hD hS hA [] rfl (fun z1002 H locs t hB hj hS => ?_)
    obtain ⟨hq1003, hq1004, hP1, hD1⟩ := hB
    obtain ⟨hP, hD⟩ := hj (wr := [(h0, .inr (3, [.int v1, .int v2, .ref h3, .ref h4, .ref h5, .ref h6, .ref h7, .ref h1, .ref h2])), (h1, .inl (c 0, 8, .inl f3)), (h2, .inl (c 0, 8, .inl f4)), (h3, .inl (c 0, 14, .inl f10)), (h4, .inl (c 0, 14, .inl f12)), (h5, .inl (c 0, 14, .inl f14)), (h6, .inl (c 0, 14, .inl f16)), (h7, .inl (c 0, 14, .inl f18))]) (w1 := []) [0, 1, 2, 3, 4, 5, 6, 7] rfl (by decide) (by decide) hP1 hD1
    have hP : va_P D vwCl [(h0, .inr (3, [.int v1, .int v2, .ref h3, .ref h4, .ref h5, .ref h6, .ref h7, .ref h1, .ref h2])), (h1, .inl (c 0, 8, .inl f3)), (h2, .inl (c 0, 8, .inl f4)), (h3, .inl (c 0, 14, .inl f10)), (h4, .inl (c 0, 14, .inl f12)), (h5, .inl (c 0, 14, .inl f14)), (h6, .inl (c 0, 14, .inl f16)), (h7, .inl (c 0, 14, .inl f18))] H := hP
    have hD : va_D A [(h0, .inr (3, [.int v1, .int v2, .ref h3, .ref h4, .ref h5, .ref h6, .ref h7, .ref h1, .ref h2])), (h1, .inl (c 0, 8, .inl f3)), (h2, .inl (c 0, 8, .inl f4)), (h3, .inl (c 0, 14, .inl f10)), (h4, .inl (c 0, 14, .inl f12)), (h5, .inl (c 0, 14, .inl f14)), (h6, .inl (c 0, 14, .inl f16)), (h7, .inl (c 0, 14, .inl f18))] := hD
    refine B_if_eq (tgt := 23) (X := z1002.toInt) hx hb dX4_add_13 (by decide) rfl (fun hc1005 => ?_) (fun hc1005 => ?_)
    · exact rV hQ hx hb hr hlocks hS (Nat.le_of_ble_eq_true rfl) (Nat.le_of_ble_eq_true rfl) dX4_add_23 (fun t ht => ⟨v1, f3, f4, f10, f12, f14, f16, f18, gv1, gf3, gf4, gf10, gf12, ge0, ge1, ge2, (by omega), by rw [ht]; exact hP, hD⟩)
    · refine lv_iload_n hx hb dX4_add_16 rfl (lv_at hl 2 rfl) ?_
      refine fI (run_SN (n := 1) ⟨hx, hb, hml, hown, hts⟩ (m_X10_isPlace l D c H.size a2) (hP.sub [] rfl) (hD.sub [] (by decide) rfl) hK hN rfl rfl (hN.1 _ (List.mem_of_getElem? (i := 6) rfl)) kw_610 kw_113 kw_611 (by decide +kernel) ⟨(Nat.le_of_ble_eq_true rfl), (Nat.le_of_ble_eq_true rfl)⟩ rfl hl.1 rfl (Nat.le_of_ble_eq_true rfl) dX4_add_17 ⟨(Nat.le_of_ble_eq_true rfl), (Nat.le_of_ble_eq_true rfl)⟩) hP hD hS hA [] rfl (fun z1006 H locs t hB hj hS => ?_)
      obtain ⟨hq1007, hq1008, hP1, hD1⟩ := hB
      obtain ⟨hP, hD⟩ := hj (wr := [(h0, .inr (3, [.int v1, .int v2, .ref h3, .ref h4, .ref h5, .ref h6, .ref h7, .ref h1, .ref h2])), (h1, .inl (c 0, 8, .inl f3)), (h2, .inl (c 0, 8, .inl f4)), (h3, .inl (c 0, 14, .inl f10)), (h4, .inl (c 0, 14, .inl f12)), (h5, .inl (c 0, 14, .inl f14)), (h6, .inl (c 0, 14, .inl f16)), (h7, .inl (c 0, 14, .inl f18))]) (w1 := []) [0, 1, 2, 3, 4, 5, 6, 7] rfl (by decide) (by decide) hP1 hD1
      have hP : va_P D vwCl [(h0, .inr (3, [.int v1, .int v2, .ref h3, .ref h4, .ref h5, .ref h6, .ref h7, .ref h1, .ref h2])), (h1, .inl (c 0, 8, .inl f3)), (h2, .inl (c 0, 8, .inl f4)), (h3, .inl (c 0, 14, .inl f10)), (h4, .inl (c 0, 14, .inl f12)), (h5, .inl (c 0, 14, .inl f14)), (h6, .inl (c 0, 14, .inl f16)), (h7, .inl (c 0, 14, .inl f18))] H := hP
      have hD : va_D A [(h0, .inr (3, [.int v1, .int v2, .ref h3, .ref h4, .ref h5, .ref h6, .ref h7, .ref h1, .ref h2])), (h1, .inl (c 0, 8, .inl f3)), (h2, .inl (c 0, 8, .inl f4)), (h3, .inl (c 0, 14, .inl f10)), (h4, .inl (c 0, 14, .inl f12)), (h5, .inl (c 0, 14, .inl f14)), (h6, .inl (c 0, 14, .inl f16)), (h7, .inl (c 0, 14, .inl f18))] := hD
      refine B_if_ne (tgt := 24) (X := z1006.toInt) hx hb dX4_add_20 (by decide) rfl (fun hc1009 => ?_) (fun hc1009 => ?_)
      · refine lv_aload_n hx hb dX4_add_24 rfl (lv_at hl 0 rfl) ?_
        refine va_get (D := D) (ci := 3) (v := .ref h3) (C := RX4) (T := TX4) (N := 9) hx hb hts i_X4 hown hK hP 0 rfl rfl 2 (by decide) (hts _ kw_224) (fun _ h9 => h9) rfl dX4_add_25 ?_
        refine lv_aload_n hx hb dX4_add_28 rfl (lv_at hl 0 rfl) ?_
        refine va_get (D := D) (ci := 3) (v := .int v1) (C := RX4) (T := TX4) (N := 9) hx hb hts i_X4 hown hK hP 0 rfl rfl 0 (by decide) (hts _ kw_212) (fun _ h9 => h9) rfl dX4_add_29 ?_
        refine lv_iload_n hx hb dX4_add_32 rfl (lv_at hl 1 rfl) ?_
        refine va_iast hx hb hK hP hD hS 3 0 rfl rfl (in_of (by omega) (by omega)) dX4_add_33 (fun H locs hP hD hS => ?_)
        obtain ⟨f1010, ef1010, hf1010, hP, hD⟩ : ∃ y : Nat → Int32, y = upd f10 (Int32.toNatClampNeg v1) a1 ∧ Rg y 0 7 ∧ va_P D vwCl [(h0, .inr (3, [.int v1, .int v2, .ref h3, .ref h4, .ref h5, .ref h6, .ref h7, .ref h1, .ref h2])), (h1, .inl (c 0, 8, .inl f3)), (h2, .inl (c 0, 8, .inl f4)), (h3, .inl (c 0, 14, .inl y)), (h4, .inl (c 0, 14, .inl f12)), (h5, .inl (c 0, 14, .inl f14)), (h6, .inl (c 0, 14, .inl f16)), (h7, .inl (c 0, 14, .inl f18))] H ∧ va_D A [(h0, .inr (3, [.int v1, .int v2, .ref h3, .ref h4, .ref h5, .ref h6, .ref h7, .ref h1, .ref h2])), (h1, .inl (c 0, 8, .inl f3)), (h2, .inl (c 0, 8, .inl f4)), (h3, .inl (c 0, 14, .inl y)), (h4, .inl (c 0, 14, .inl f12)), (h5, .inl (c 0, 14, .inl f14)), (h6, .inl (c 0, 14, .inl f16)), (h7, .inl (c 0, 14, .inl f18))] := ⟨_, rfl, (Rg.upd gf10 (by omega) (by omega)), hP, hD⟩
        refine lv_aload_n hx hb dX4_add_34 rfl (lv_at hl 0 rfl) ?_
        refine va_get (D := D) (ci := 3) (v := .ref h4) (C := RX4) (T := TX4) (N := 9) hx hb hts i_X4 hown hK hP 0 rfl rfl 3 (by decide) (hts _ kw_227) (fun _ h9 => h9) rfl dX4_add_35 ?_
        refine lv_aload_n hx hb dX4_add_38 rfl (lv_at hl 0 rfl) ?_
        refine va_get (D := D) (ci := 3) (v := .int v1) (C := RX4) (T := TX4) (N := 9) hx hb hts i_X4 hown hK hP 0 rfl rfl 0 (by decide) (hts _ kw_212) (fun _ h9 => h9) rfl dX4_add_39 ?_
        refine lv_iload_n hx hb dX4_add_42 rfl (lv_at hl 2 rfl) ?_
        refine va_iast hx hb hK hP hD hS 4 0 rfl rfl (in_of (by omega) (by omega)) dX4_add_43 (fun H locs hP hD hS => ?_)
        obtain ⟨f1011, ef1011, hf1011, hP, hD⟩ : ∃ y : Nat → Int32, y = upd f12 (Int32.toNatClampNeg v1) a2 ∧ Rg y 0 7 ∧ va_P D vwCl [(h0, .inr (3, [.int v1, .int v2, .ref h3, .ref h4, .ref h5, .ref h6, .ref h7, .ref h1, .ref h2])), (h1, .inl (c 0, 8, .inl f3)), (h2, .inl (c 0, 8, .inl f4)), (h3, .inl (c 0, 14, .inl f1010)), (h4, .inl (c 0, 14, .inl y)), (h5, .inl (c 0, 14, .inl f14)), (h6, .inl (c 0, 14, .inl f16)), (h7, .inl (c 0, 14, .inl f18))] H ∧ va_D A [(h0, .inr (3, [.int v1, .int v2, .ref h3, .ref h4, .ref h5, .ref h6, .ref h7, .ref h1, .ref h2])), (h1, .inl (c 0, 8, .inl f3)), (h2, .inl (c 0, 8, .inl f4)), (h3, .inl (c 0, 14, .inl f1010)), (h4, .inl (c 0, 14, .inl y)), (h5, .inl (c 0, 14, .inl f14)), (h6, .inl (c 0, 14, .inl f16)), (h7, .inl (c 0, 14, .inl f18))] := ⟨_, rfl, (Rg.upd gf12 (by omega) (by omega)), hP, hD⟩
        refine lv_aload_n hx hb dX4_add_44 rfl (lv_at hl 0 rfl) ?_
        refine va_get (D := D) (ci := 3) (v := .ref h5) (C := RX4) (T := TX4) (N := 9) hx hb hts i_X4 hown hK hP 0 rfl rfl 4 (by decide) (hts _ kw_230) (fun _ h9 => h9) rfl dX4_add_45 ?_
        refine lv_aload_n hx hb dX4_add_48 rfl (lv_at hl 0 rfl) ?_
        refine va_get (D := D) (ci := 3) (v := .int v1) (C := RX4) (T := TX4) (N := 9) hx hb hts i_X4 hown hK hP 0 rfl rfl 0 (by decide) (hts _ kw_212) (fun _ h9 => h9) rfl dX4_add_49 ?_
        refine lv_iload_n hx hb dX4_add_52 rfl (lv_at hl 3 rfl) ?_
        refine va_iast hx hb hK hP hD hS 5 0 rfl rfl (in_of (by omega) (by omega)) dX4_add_53 (fun H locs hP hD hS => ?_)
        obtain ⟨f1012, ef1012, hP, hD⟩ : ∃ y : Nat → Int32, y = upd f14 (Int32.toNatClampNeg v1) a3 ∧ va_P D vwCl [(h0, .inr (3, [.int v1, .int v2, .ref h3, .ref h4, .ref h5, .ref h6, .ref h7, .ref h1, .ref h2])), (h1, .inl (c 0, 8, .inl f3)), (h2, .inl (c 0, 8, .inl f4)), (h3, .inl (c 0, 14, .inl f1010)), (h4, .inl (c 0, 14, .inl f1011)), (h5, .inl (c 0, 14, .inl y)), (h6, .inl (c 0, 14, .inl f16)), (h7, .inl (c 0, 14, .inl f18))] H ∧ va_D A [(h0, .inr (3, [.int v1, .int v2, .ref h3, .ref h4, .ref h5, .ref h6, .ref h7, .ref h1, .ref h2])), (h1, .inl (c 0, 8, .inl f3)), (h2, .inl (c 0, 8, .inl f4)), (h3, .inl (c 0, 14, .inl f1010)), (h4, .inl (c 0, 14, .inl f1011)), (h5, .inl (c 0, 14, .inl y)), (h6, .inl (c 0, 14, .inl f16)), (h7, .inl (c 0, 14, .inl f18))] := ⟨_, rfl, hP, hD⟩
        refine lv_aload_n hx hb dX4_add_54 rfl (lv_at hl 0 rfl) ?_
        refine va_get (D := D) (ci := 3) (v := .ref h6) (C := RX4) (T := TX4) (N := 9) hx hb hts i_X4 hown hK hP 0 rfl rfl 5 (by decide) (hts _ kw_233) (fun _ h9 => h9) rfl dX4_add_55 ?_
        refine lv_aload_n hx hb dX4_add_58 rfl (lv_at hl 0 rfl) ?_
        refine va_get (D := D) (ci := 3) (v := .int v1) (C := RX4) (T := TX4) (N := 9) hx hb hts i_X4 hown hK hP 0 rfl rfl 0 (by decide) (hts _ kw_212) (fun _ h9 => h9) rfl dX4_add_59 ?_
        refine lv_iconst (v := 0) hx hb dX4_add_62 (by decide) ?_
        refine va_iast hx hb hK hP hD hS 6 0 rfl rfl (in_of (by omega) (by omega)) dX4_add_63 (fun H locs hP hD hS => ?_)
        obtain ⟨f1013, ef1013, hP, hD⟩ : ∃ y : Nat → Int32, y = upd f16 (Int32.toNatClampNeg v1) 0 ∧ va_P D vwCl [(h0, .inr (3, [.int v1, .int v2, .ref h3, .ref h4, .ref h5, .ref h6, .ref h7, .ref h1, .ref h2])), (h1, .inl (c 0, 8, .inl f3)), (h2, .inl (c 0, 8, .inl f4)), (h3, .inl (c 0, 14, .inl f1010)), (h4, .inl (c 0, 14, .inl f1011)), (h5, .inl (c 0, 14, .inl f1012)), (h6, .inl (c 0, 14, .inl y)), (h7, .inl (c 0, 14, .inl f18))] H ∧ va_D A [(h0, .inr (3, [.int v1, .int v2, .ref h3, .ref h4, .ref h5, .ref h6, .ref h7, .ref h1, .ref h2])), (h1, .inl (c 0, 8, .inl f3)), (h2, .inl (c 0, 8, .inl f4)), (h3, .inl (c 0, 14, .inl f1010)), (h4, .inl (c 0, 14, .inl f1011)), (h5, .inl (c 0, 14, .inl f1012)), (h6, .inl (c 0, 14, .inl y)), (h7, .inl (c 0, 14, .inl f18))] := ⟨_, rfl, hP, hD⟩
        refine lv_aload_n hx hb dX4_add_64 rfl (lv_at hl 0 rfl) ?_
        refine va_get (D := D) (ci := 3) (v := .ref h7) (C := RX4) (T := TX4) (N := 9) hx hb hts i_X4 hown hK hP 0 rfl rfl 6 (by decide) (hts _ kw_237) (fun _ h9 => h9) rfl dX4_add_65 ?_
        refine lv_aload_n hx hb dX4_add_68 rfl (lv_at hl 0 rfl) ?_
        refine va_get (D := D) (ci := 3) (v := .int v1) (C := RX4) (T := TX4) (N := 9) hx hb hts i_X4 hown hK hP 0 rfl rfl 0 (by decide) (hts _ kw_212) (fun _ h9 => h9) rfl dX4_add_69 ?_
        refine lv_iconst (v := 0) hx hb dX4_add_72 (by decide) ?_
        refine va_iast hx hb hK hP hD hS 7 0 rfl rfl (in_of (by omega) (by omega)) dX4_add_73 (fun H locs hP hD hS => ?_)
        obtain ⟨f1014, ef1014, hP, hD⟩ : ∃ y : Nat → Int32, y = upd f18 (Int32.toNatClampNeg v1) 0 ∧ va_P D vwCl [(h0, .inr (3, [.int v1, .int v2, .ref h3, .ref h4, .ref h5, .ref h6, .ref h7, .ref h1, .ref h2])), (h1, .inl (c 0, 8, .inl f3)), (h2, .inl (c 0, 8, .inl f4)), (h3, .inl (c 0, 14, .inl f1010)), (h4, .inl (c 0, 14, .inl f1011)), (h5, .inl (c 0, 14, .inl f1012)), (h6, .inl (c 0, 14, .inl f1013)), (h7, .inl (c 0, 14, .inl y))] H ∧ va_D A [(h0, .inr (3, [.int v1, .int v2, .ref h3, .ref h4, .ref h5, .ref h6, .ref h7, .ref h1, .ref h2])), (h1, .inl (c 0, 8, .inl f3)), (h2, .inl (c 0, 8, .inl f4)), (h3, .inl (c 0, 14, .inl f1010)), (h4, .inl (c 0, 14, .inl f1011)), (h5, .inl (c 0, 14, .inl f1012)), (h6, .inl (c 0, 14, .inl f1013)), (h7, .inl (c 0, 14, .inl y))] := ⟨_, rfl, hP, hD⟩
        refine lv_aload_n hx hb dX4_add_74 rfl (lv_at hl 0 rfl) ?_
        refine va_get (D := D) (ci := 3) (v := .ref h1) (C := RX4) (T := TX4) (N := 9) hx hb hts i_X4 hown hK hP 0 rfl rfl 7 (by decide) (hts _ kw_242) (fun _ h9 => h9) rfl dX4_add_75 ?_
        refine lv_iload_n hx hb dX4_add_78 rfl (lv_at hl 1 rfl) ?_
        refine lv_dup2_11 hx hb dX4_add_79 rfl rfl ?_
        refine va_iald hx hb hK hP 1 0 rfl rfl (in_of (by omega) (by omega)) dX4_add_80 ?_
        refine rd gf3 (fun z1015 ez1015 hz1015 => ?_)
        refine lv_iconst (v := 1) hx hb dX4_add_81 (by decide) ?_
        refine lv_aload_n hx hb dX4_add_82 rfl (lv_at hl 0 rfl) ?_
        refine va_get (D := D) (ci := 3) (v := .int v1) (C := RX4) (T := TX4) (N := 9) hx hb hts i_X4 hown hK hP 0 rfl rfl 0 (by decide) (hts _ kw_212) (fun _ h9 => h9) rfl dX4_add_83 ?_
        refine lv_ishl hx hb dX4_add_86 ?_
        refine q_shl (X := 1) (Y := v1.toInt) (M := 8192) 1 13 (by decide) rfl (by omega) (by omega) (by omega) (by omega) (by decide) (by decide) (by decide) (fun z1016 ez1016 hz1016 => ?_)
        refine lv_ior hx hb dX4_add_87 ?_
        refine q_or (X := z1015.toInt) (Y := z1016.toInt) (M := 16384) 14 rfl rfl (by decide) (by decide) (by omega) (by omega) (by omega) (by omega) (fun z1017 ez1017 hz1017 => ?_)
        refine va_iast hx hb hK hP hD hS 1 0 rfl rfl (in_of (by omega) (by omega)) dX4_add_88 (fun H locs hP hD hS => ?_)
        obtain ⟨f1018, ef1018, hf1018, hP, hD⟩ : ∃ y : Nat → Int32, y = upd f3 (Int32.toNatClampNeg a1) z1017 ∧ Rg y 0 16383 ∧ va_P D vwCl [(h0, .inr (3, [.int v1, .int v2, .ref h3, .ref h4, .ref h5, .ref h6, .ref h7, .ref h1, .ref h2])), (h1, .inl (c 0, 8, .inl y)), (h2, .inl (c 0, 8, .inl f4)), (h3, .inl (c 0, 14, .inl f1010)), (h4, .inl (c 0, 14, .inl f1011)), (h5, .inl (c 0, 14, .inl f1012)), (h6, .inl (c 0, 14, .inl f1013)), (h7, .inl (c 0, 14, .inl f1014))] H ∧ va_D A [(h0, .inr (3, [.int v1, .int v2, .ref h3, .ref h4, .ref h5, .ref h6, .ref h7, .ref h1, .ref h2])), (h1, .inl (c 0, 8, .inl y)), (h2, .inl (c 0, 8, .inl f4)), (h3, .inl (c 0, 14, .inl f1010)), (h4, .inl (c 0, 14, .inl f1011)), (h5, .inl (c 0, 14, .inl f1012)), (h6, .inl (c 0, 14, .inl f1013)), (h7, .inl (c 0, 14, .inl f1014))] := ⟨_, rfl, (Rg.upd gf3 (by omega) (by omega)), hP, hD⟩
        refine lv_aload_n hx hb dX4_add_89 rfl (lv_at hl 0 rfl) ?_
        refine va_get (D := D) (ci := 3) (v := .ref h2) (C := RX4) (T := TX4) (N := 9) hx hb hts i_X4 hown hK hP 0 rfl rfl 8 (by decide) (hts _ kw_245) (fun _ h9 => h9) rfl dX4_add_90 ?_
        refine lv_iload_n hx hb dX4_add_93 rfl (lv_at hl 2 rfl) ?_
        refine lv_dup2_11 hx hb dX4_add_94 rfl rfl ?_
        refine va_iald hx hb hK hP 2 0 rfl rfl (in_of (by omega) (by omega)) dX4_add_95 ?_
        refine rd gf4 (fun z1019 ez1019 hz1019 => ?_)
        refine lv_iconst (v := 1) hx hb dX4_add_96 (by decide) ?_
        refine lv_aload_n hx hb dX4_add_97 rfl (lv_at hl 0 rfl) ?_
        refine va_get (D := D) (ci := 3) (v := .int v1) (C := RX4) (T := TX4) (N := 9) hx hb hts i_X4 hown hK hP 0 rfl rfl 0 (by decide) (hts _ kw_212) (fun _ h9 => h9) rfl dX4_add_98 ?_
        refine lv_ishl hx hb dX4_add_101 ?_
        refine q_shl (X := 1) (Y := v1.toInt) (M := 8192) 1 13 (by decide) rfl (by omega) (by omega) (by omega) (by omega) (by decide) (by decide) (by decide) (fun z1020 ez1020 hz1020 => ?_)
        refine lv_ior hx hb dX4_add_102 ?_
        refine q_or (X := z1019.toInt) (Y := z1020.toInt) (M := 16384) 14 rfl rfl (by decide) (by decide) (by omega) (by omega) (by omega) (by omega) (fun z1021 ez1021 hz1021 => ?_)
        refine va_iast hx hb hK hP hD hS 2 0 rfl rfl (in_of (by omega) (by omega)) dX4_add_103 (fun H locs hP hD hS => ?_)
        obtain ⟨f1022, ef1022, hf1022, hP, hD⟩ : ∃ y : Nat → Int32, y = upd f4 (Int32.toNatClampNeg a2) z1021 ∧ Rg y 0 16383 ∧ va_P D vwCl [(h0, .inr (3, [.int v1, .int v2, .ref h3, .ref h4, .ref h5, .ref h6, .ref h7, .ref h1, .ref h2])), (h1, .inl (c 0, 8, .inl f1018)), (h2, .inl (c 0, 8, .inl y)), (h3, .inl (c 0, 14, .inl f1010)), (h4, .inl (c 0, 14, .inl f1011)), (h5, .inl (c 0, 14, .inl f1012)), (h6, .inl (c 0, 14, .inl f1013)), (h7, .inl (c 0, 14, .inl f1014))] H ∧ va_D A [(h0, .inr (3, [.int v1, .int v2, .ref h3, .ref h4, .ref h5, .ref h6, .ref h7, .ref h1, .ref h2])), (h1, .inl (c 0, 8, .inl f1018)), (h2, .inl (c 0, 8, .inl y)), (h3, .inl (c 0, 14, .inl f1010)), (h4, .inl (c 0, 14, .inl f1011)), (h5, .inl (c 0, 14, .inl f1012)), (h6, .inl (c 0, 14, .inl f1013)), (h7, .inl (c 0, 14, .inl f1014))] := ⟨_, rfl, (Rg.upd gf4 (by omega) (by omega)), hP, hD⟩
        refine lv_aload_n hx hb dX4_add_104 rfl (lv_at hl 0 rfl) ?_
        refine lv_dup hx hb dX4_add_105 rfl ?_
        refine va_get (D := D) (ci := 3) (v := .int v1) (C := RX4) (T := TX4) (N := 9) hx hb hts i_X4 hown hK hP 0 rfl rfl 0 (by decide) (hts _ kw_212) (fun _ h9 => h9) rfl dX4_add_106 ?_
        refine lv_iconst (v := 1) hx hb dX4_add_109 (by decide) ?_
        refine lv_iadd hx hb dX4_add_110 ?_
        refine q_add (X := v1.toInt) (Y := 1) rfl (by decide) (by omega) (by omega) (fun z1023 ez1023 hz1023 => ?_)
        refine va_put (D := D) (ci := 3) (v := .int z1023) (ty := .int) (C := RX4) (T := TX4) (N := 9) hx hb hts i_X4 tyX4 tyX4_ok nmX4 hown hK hP hD hS 0 rfl rfl 0 (by decide) (hts _ kw_212) (fun _ h9 => h9) rfl (tyX4_ok 0 (by decide)) rfl rfl (Nat.le_of_ble_eq_true rfl) dX4_add_111 (fun H locs hP hD hS => ?_)
        have hP : va_P D vwCl [(h0, .inr (3, [.int z1023, .int v2, .ref h3, .ref h4, .ref h5, .ref h6, .ref h7, .ref h1, .ref h2])), (h1, .inl (c 0, 8, .inl f1018)), (h2, .inl (c 0, 8, .inl f1022)), (h3, .inl (c 0, 14, .inl f1010)), (h4, .inl (c 0, 14, .inl f1011)), (h5, .inl (c 0, 14, .inl f1012)), (h6, .inl (c 0, 14, .inl f1013)), (h7, .inl (c 0, 14, .inl f1014))] H := hP
        have hD : va_D A [(h0, .inr (3, [.int z1023, .int v2, .ref h3, .ref h4, .ref h5, .ref h6, .ref h7, .ref h1, .ref h2])), (h1, .inl (c 0, 8, .inl f1018)), (h2, .inl (c 0, 8, .inl f1022)), (h3, .inl (c 0, 14, .inl f1010)), (h4, .inl (c 0, 14, .inl f1011)), (h5, .inl (c 0, 14, .inl f1012)), (h6, .inl (c 0, 14, .inl f1013)), (h7, .inl (c 0, 14, .inl f1014))] := hD
        have hv1024 : OuOK z1023 f1018 := by rw [ef1018]; exact OuOK.or (w := v1) ge1 (by omega) rfl (by omega) (by omega) (by rw [ez1017, ez1015, ez1016])
        have hv1025 : OuOK z1023 f1022 := by rw [ef1022]; exact OuOK.or (w := v1) ge2 (by omega) rfl (by omega) (by omega) (by rw [ez1021, ez1019, ez1020])
        have etz1015 : z1015.toInt = (f3 (Int32.toNatClampNeg a1)).toInt := congrArg Int32.toInt ez1015
        have etz1019 : z1019.toInt = (f4 (Int32.toNatClampNeg a2)).toInt := congrArg Int32.toInt ez1019
        exact rV hQ hx hb hr hlocks hS (Nat.le_of_ble_eq_true rfl) (Nat.le_of_ble_eq_true rfl) dX4_add_114 (fun t ht => ⟨z1023, f1018, f1022, f1010, f1011, f1012, f1013, f1014, ⟨by omega, by omega⟩, hf1018, hf1022, hf1010, hf1011, (DrOK.mono ge0 (by omega)), hv1024, hv1025, (by omega), by rw [ht]; exact hP, hD⟩)
      · exact rV hQ hx hb hr hlocks hS (Nat.le_of_ble_eq_true rfl) (Nat.le_of_ble_eq_true rfl) dX4_add_23 (fun t ht => ⟨v1, f3, f4, f10, f12, f14, f16, f18, gv1, gf3, gf4, gf10, gf12, ge0, ge1, ge2, (by omega), by rw [ht]; exact hP, hD⟩)
set_option maxHeartbeats 4000000 in
set_option maxRecDepth 100000 in
theorem m_X4_copyFrom (l : Launch) (D : va_G) (c : Nat → ClassId) (h0 h1 h2 h3 h4 h5 h6 h7 h8 h9 h10 h11 h12 h13 h14 h15 : Nat) (sz : Nat) (v1 : Int32) (v2 : Int32) (v3 : Int32) (v4 : Int32) (f5 : Nat → Int32) (f6 : Nat → Int32) (f7 : Nat → Int32) (f8 : Nat → Int32) (f9 : Nat → Int32) (f10 : Nat → Int32) (f12 : Nat → Int32) (f13 : Nat → Int32) (f15 : Nat → Int32) (f16 : Nat → Int32) (f18 : Nat → Int32) (f19 : Nat → Int32) (f21 : Nat → Int32) (f22 : Nat → Int32) (gv1 : 0 ≤ v1.toInt ∧ v1.toInt ≤ 14) (gv2 : 0 ≤ v2.toInt ∧ v2.toInt ≤ 16383) (gv3 : 0 ≤ v3.toInt ∧ v3.toInt ≤ 14) (gv4 : 0 ≤ v4.toInt ∧ v4.toInt ≤ 16383) (gf5 : Rg f5 0 16383) (gf6 : Rg f6 0 16383) (gf7 : Rg f7 0 16383) (gf8 : Rg f8 0 16383) (gf9 : Rg f9 0 7) (gf10 : Rg f10 0 7) (gf12 : Rg f12 0 7) (gf13 : Rg f13 0 7) (ge0 : DrOK v3 v4) (ge1 : OuOK v3 f5) (ge2 : OuOK v3 f6) : Met l yX4_copyFrom (Cond.code yX4_copyFrom cX4_copyFrom 2 none :: TB) ({ frames := 1, cells := 0, slots := 0, locals := 18 } : Room) (va_Pc [.ref h0, .ref h1] (PW D c [(h0, .inr (3, [.int v1, .int v2, .ref h7, .ref h9, .ref h11, .ref h13, .ref h15, .ref h4, .ref h5])), (h1, .inr (3, [.int v3, .int v4, .ref h6, .ref h8, .ref h10, .ref h12, .ref h14, .ref h2, .ref h3])), (h2, .inl (c 0, 8, .inl f5)), (h3, .inl (c 0, 8, .inl f6)), (h4, .inl (c 0, 8, .inl f7)), (h5, .inl (c 0, 8, .inl f8)), (h6, .inl (c 0, 14, .inl f9)), (h7, .inl (c 0, 14, .inl f10)), (h8, .inl (c 0, 14, .inl f12)), (h9, .inl (c 0, 14, .inl f13)), (h10, .inl (c 0, 14, .inl f15)), (h11, .inl (c 0, 14, .inl f16)), (h12, .inl (c 0, 14, .inl f18)), (h13, .inl (c 0, 14, .inl f19)), (h14, .inl (c 0, 14, .inl f21)), (h15, .inl (c 0, 14, .inl f22))] sz)) ((QV (fun A t => ∃ (f900 : Nat → Int32) (f901 : Nat → Int32) (f902 : Nat → Int32) (f903 : Nat → Int32) (f904 : Nat → Int32) (f905 : Nat → Int32) (f906 : Nat → Int32), (Rg f900 0 16383) ∧ (Rg f901 0 16383) ∧ (Rg f902 0 7) ∧ (Rg f903 0 7) ∧ (DrOK v3 v4) ∧ (OuOK v3 f900) ∧ (OuOK v3 f901) ∧ va_P D vwCl [(h0, .inr (3, [.int v3, .int v4, .ref h7, .ref h9, .ref h11, .ref h13, .ref h15, .ref h4, .ref h5])), (h1, .inr (3, [.int v3, .int v4, .ref h6, .ref h8, .ref h10, .ref h12, .ref h14, .ref h2, .ref h3])), (h2, .inl (c 0, 8, .inl f5)), (h3, .inl (c 0, 8, .inl f6)), (h4, .inl (c 0, 8, .inl f900)), (h5, .inl (c 0, 8, .inl f901)), (h6, .inl (c 0, 14, .inl f9)), (h7, .inl (c 0, 14, .inl f902)), (h8, .inl (c 0, 14, .inl f12)), (h9, .inl (c 0, 14, .inl f903)), (h10, .inl (c 0, 14, .inl f15)), (h11, .inl (c 0, 14, .inl f904)), (h12, .inl (c 0, 14, .inl f18)), (h13, .inl (c 0, 14, .inl f905)), (h14, .inl (c 0, 14, .inl f21)), (h15, .inl (c 0, 14, .inl f906))] t.heap ∧ va_D A [(h0, .inr (3, [.int v3, .int v4, .ref h7, .ref h9, .ref h11, .ref h13, .ref h15, .ref h4, .ref h5])), (h1, .inr (3, [.int v3, .int v4, .ref h6, .ref h8, .ref h10, .ref h12, .ref h14, .ref h2, .ref h3])), (h2, .inl (c 0, 8, .inl f5)), (h3, .inl (c 0, 8, .inl f6)), (h4, .inl (c 0, 8, .inl f900)), (h5, .inl (c 0, 8, .inl f901)), (h6, .inl (c 0, 14, .inl f9)), (h7, .inl (c 0, 14, .inl f902)), (h8, .inl (c 0, 14, .inl f12)), (h9, .inl (c 0, 14, .inl f903)), (h10, .inl (c 0, 14, .inl f15)), (h11, .inl (c 0, 14, .inl f904)), (h12, .inl (c 0, 14, .inl f18)), (h13, .inl (c 0, 14, .inl f905)), (h14, .inl (c 0, 14, .inl f21)), (h15, .inl (c 0, 14, .inl f906))])) (va_A [(h0, .inr (3, [.int v1, .int v2, .ref h7, .ref h9, .ref h11, .ref h13, .ref h15, .ref h4, .ref h5])), (h1, .inr (3, [.int v3, .int v4, .ref h6, .ref h8, .ref h10, .ref h12, .ref h14, .ref h2, .ref h3])), (h2, .inl (c 0, 8, .inl f5)), (h3, .inl (c 0, 8, .inl f6)), (h4, .inl (c 0, 8, .inl f7)), (h5, .inl (c 0, 8, .inl f8)), (h6, .inl (c 0, 14, .inl f9)), (h7, .inl (c 0, 14, .inl f10)), (h8, .inl (c 0, 14, .inl f12)), (h9, .inl (c 0, 14, .inl f13)), (h10, .inl (c 0, 14, .inl f15)), (h11, .inl (c 0, 14, .inl f16)), (h12, .inl (c 0, 14, .inl f18)), (h13, .inl (c 0, 14, .inl f19)), (h14, .inl (c 0, 14, .inl f21)), (h15, .inl (c 0, 14, .inl f22))] sz)) 0 0 (va_A [(h0, .inr (3, [.int v1, .int v2, .ref h7, .ref h9, .ref h11, .ref h13, .ref h15, .ref h4, .ref h5])), (h1, .inr (3, [.int v3, .int v4, .ref h6, .ref h8, .ref h10, .ref h12, .ref h14, .ref h2, .ref h3])), (h2, .inl (c 0, 8, .inl f5)), (h3, .inl (c 0, 8, .inl f6)), (h4, .inl (c 0, 8, .inl f7)), (h5, .inl (c 0, 8, .inl f8)), (h6, .inl (c 0, 14, .inl f9)), (h7, .inl (c 0, 14, .inl f10)), (h8, .inl (c 0, 14, .inl f12)), (h9, .inl (c 0, 14, .inl f13)), (h10, .inl (c 0, 14, .inl f15)), (h11, .inl (c 0, 14, .inl f16)), (h12, .inl (c 0, 14, .inl f18)), (h13, .inl (c 0, 14, .inl f19)), (h14, .inl (c 0, 14, .inl f21)), (h15, .inl (c 0, 14, .inl f22))] sz) := by
  refine start2 (by decide +kernel) (Nat.le_of_ble_eq_true rfl) ?_
  intro p e s m below meth cd A ls Q hx hb hr hml hts hown hlocks hin hA hS hK hP hD hN hl hQ
  have hown : s.vm.findClass RX4 = some m.cls := hown
  have hl : lv_has ls 2 [(0, .ref h0), (1, .ref h1)] := hl
  have hP : va_P D vwCl [(h0, .inr (3, [.int v1, .int v2, .ref h7, .ref h9, .ref h11, .ref h13, .ref h15, .ref h4, .ref h5])), (h1, .inr (3, [.int v3, .int v4, .ref h6, .ref h8, .ref h10, .ref h12, .ref h14, .ref h2, .ref h3])), (h2, .inl (c 0, 8, .inl f5)), (h3, .inl (c 0, 8, .inl f6)), (h4, .inl (c 0, 8, .inl f7)), (h5, .inl (c 0, 8, .inl f8)), (h6, .inl (c 0, 14, .inl f9)), (h7, .inl (c 0, 14, .inl f10)), (h8, .inl (c 0, 14, .inl f12)), (h9, .inl (c 0, 14, .inl f13)), (h10, .inl (c 0, 14, .inl f15)), (h11, .inl (c 0, 14, .inl f16)), (h12, .inl (c 0, 14, .inl f18)), (h13, .inl (c 0, 14, .inl f19)), (h14, .inl (c 0, 14, .inl f21)), (h15, .inl (c 0, 14, .inl f22))] s.heap := hP
  refine lv_aload_n hx hb dX4_copyFrom_0 rfl (lv_at hl 0 rfl) ?_
  refine lv_aload_n hx hb dX4_copyFrom_1 rfl (lv_at hl 1 rfl) ?_
  refine va_get (D := D) (ci := 3) (v := .int v3) (C := RX4) (T := TX4) (N := 9) hx hb hts i_X4 hown hK hP 1 rfl rfl 0 (by decide) (hts _ kw_212) (fun _ h9 => h9) rfl dX4_copyFrom_2 ?_
  refine va_put (D := D) (ci := 3) (v := .int v3) (ty := .int) (C := RX4) (T := TX4) (N := 9) hx hb hts i_X4 tyX4 tyX4_ok nmX4 hown hK hP hD hS 0 rfl rfl 0 (by decide) (hts _ kw_212) (fun _ h9 => h9) rfl (tyX4_ok 0 (by decide)) rfl rfl (Nat.le_of_ble_eq_true rfl) dX4_copyFrom_5 (fun H locs hP hD hS => ?_)
  have hP : va_P D vwCl [(h0, .inr (3, [.int v3, .int v2, .ref h7, .ref h9, .ref h11, .ref h13, .ref h15, .ref h4, .ref h5])), (h1, .inr (3, [.int v3, .int v4, .ref h6, .ref h8, .ref h10, .ref h12, .ref h14, .ref h2, .ref h3])), (h2, .inl (c 0, 8, .inl f5)), (h3, .inl (c 0, 8, .inl f6)), (h4, .inl (c 0, 8, .inl f7)), (h5, .inl (c 0, 8, .inl f8)), (h6, .inl (c 0, 14, .inl f9)), (h7, .inl (c 0, 14, .inl f10)), (h8, .inl (c 0, 14, .inl f12)), (h9, .inl (c 0, 14, .inl f13)), (h10, .inl (c 0, 14, .inl f15)), (h11, .inl (c 0, 14, .inl f16)), (h12, .inl (c 0, 14, .inl f18)), (h13, .inl (c 0, 14, .inl f19)), (h14, .inl (c 0, 14, .inl f21)), (h15, .inl (c 0, 14, .inl f22))] H := hP
  have hD : va_D A [(h0, .inr (3, [.int v3, .int v2, .ref h7, .ref h9, .ref h11, .ref h13, .ref h15, .ref h4, .ref h5])), (h1, .inr (3, [.int v3, .int v4, .ref h6, .ref h8, .ref h10, .ref h12, .ref h14, .ref h2, .ref h3])), (h2, .inl (c 0, 8, .inl f5)), (h3, .inl (c 0, 8, .inl f6)), (h4, .inl (c 0, 8, .inl f7)), (h5, .inl (c 0, 8, .inl f8)), (h6, .inl (c 0, 14, .inl f9)), (h7, .inl (c 0, 14, .inl f10)), (h8, .inl (c 0, 14, .inl f12)), (h9, .inl (c 0, 14, .inl f13)), (h10, .inl (c 0, 14, .inl f15)), (h11, .inl (c 0, 14, .inl f16)), (h12, .inl (c 0, 14, .inl f18)), (h13, .inl (c 0, 14, .inl f19)), (h14, .inl (c 0, 14, .inl f21)), (h15, .inl (c 0, 14, .inl f22))] := hD
  refine lv_aload_n hx hb dX4_copyFrom_8 rfl (lv_at hl 0 rfl) ?_
  refine lv_aload_n hx hb dX4_copyFrom_9 rfl (lv_at hl 1 rfl) ?_
  refine va_get (D := D) (ci := 3) (v := .int v4) (C := RX4) (T := TX4) (N := 9) hx hb hts i_X4 hown hK hP 1 rfl rfl 1 (by decide) (hts _ kw_218) (fun _ h9 => h9) rfl dX4_copyFrom_10 ?_
  refine va_put (D := D) (ci := 3) (v := .int v4) (ty := .int) (C := RX4) (T := TX4) (N := 9) hx hb hts i_X4 tyX4 tyX4_ok nmX4 hown hK hP hD hS 0 rfl rfl 1 (by decide) (hts _ kw_218) (fun _ h9 => h9) rfl (tyX4_ok 1 (by decide)) rfl rfl (Nat.le_of_ble_eq_true rfl) dX4_copyFrom_13 (fun H locs hP hD hS => ?_)
  have hP : va_P D vwCl [(h0, .inr (3, [.int v3, .int v4, .ref h7, .ref h9, .ref h11, .ref h13, .ref h15, .ref h4, .ref h5])), (h1, .inr (3, [.int v3, .int v4, .ref h6, .ref h8, .ref h10, .ref h12, .ref h14, .ref h2, .ref h3])), (h2, .inl (c 0, 8, .inl f5)), (h3, .inl (c 0, 8, .inl f6)), (h4, .inl (c 0, 8, .inl f7)), (h5, .inl (c 0, 8, .inl f8)), (h6, .inl (c 0, 14, .inl f9)), (h7, .inl (c 0, 14, .inl f10)), (h8, .inl (c 0, 14, .inl f12)), (h9, .inl (c 0, 14, .inl f13)), (h10, .inl (c 0, 14, .inl f15)), (h11, .inl (c 0, 14, .inl f16)), (h12, .inl (c 0, 14, .inl f18)), (h13, .inl (c 0, 14, .inl f19)), (h14, .inl (c 0, 14, .inl f21)), (h15, .inl (c 0, 14, .inl f22))] H := hP
  have hD : va_D A [(h0, .inr (3, [.int v3, .int v4, .ref h7, .ref h9, .ref h11, .ref h13, .ref h15, .ref h4, .ref h5])), (h1, .inr (3, [.int v3, .int v4, .ref h6, .ref h8, .ref h10, .ref h12, .ref h14, .ref h2, .ref h3])), (h2, .inl (c 0, 8, .inl f5)), (h3, .inl (c 0, 8, .inl f6)), (h4, .inl (c 0, 8, .inl f7)), (h5, .inl (c 0, 8, .inl f8)), (h6, .inl (c 0, 14, .inl f9)), (h7, .inl (c 0, 14, .inl f10)), (h8, .inl (c 0, 14, .inl f12)), (h9, .inl (c 0, 14, .inl f13)), (h10, .inl (c 0, 14, .inl f15)), (h11, .inl (c 0, 14, .inl f16)), (h12, .inl (c 0, 14, .inl f18)), (h13, .inl (c 0, 14, .inl f19)), (h14, .inl (c 0, 14, .inl f21)), (h15, .inl (c 0, 14, .inl f22))] := hD
  refine lv_aload_n hx hb dX4_copyFrom_16 rfl (lv_at hl 1 rfl) ?_
  refine va_get (D := D) (ci := 3) (v := .ref h6) (C := RX4) (T := TX4) (N := 9) hx hb hts i_X4 hown hK hP 1 rfl rfl 2 (by decide) (hts _ kw_224) (fun _ h9 => h9) rfl dX4_copyFrom_17 ?_
  refine lv_iconst (v := 0) hx hb dX4_copyFrom_20 (by decide) ?_
  refine lv_aload_n hx hb dX4_copyFrom_21 rfl (lv_at hl 0 rfl) ?_
  refine va_get (D := D) (ci := 3) (v := .ref h7) (C := RX4) (T := TX4) (N := 9) hx hb hts i_X4 hown hK hP 0 rfl rfl 2 (by decide) (hts _ kw_224) (fun _ h9 => h9) rfl dX4_copyFrom_22 ?_
  refine lv_iconst (v := 0) hx hb dX4_copyFrom_25 (by decide) ?_
  refine lv_aload_n hx hb dX4_copyFrom_26 rfl (lv_at hl 0 rfl) ?_
  refine va_get (D := D) (ci := 3) (v := .int v3) (C := RX4) (T := TX4) (N := 9) hx hb hts i_X4 hown hK hP 0 rfl rfl 0 (by decide) (hts _ kw_212) (fun _ h9 => h9) rfl dX4_copyFrom_27 ?_
  refine va_copyi (ty := .int) hx hb (by rw [hml]; exact hl.1.symm) hown (hts _ kw_627) (hts _ kw_629) (hts _ kw_628) (hts _ kw_128) hK hP hD hS 6 7 0 0 rfl rfl rfl rfl rfl (by decide) (by decide) (nl_of (X := v3.toInt) (Y := 0) rfl (by decide) (by omega)) (cp0 (by omega) (by omega)) (cp0 (by omega) (by omega)) (fun _ _ => rfl) (Nat.le_of_ble_eq_true rfl) (Nat.le_of_ble_eq_true rfl) dX4_copyFrom_30 (fun H locs hP hD hS => ?_)
  obtain ⟨f1001, ef1001, hf1001, hP, hD⟩ : ∃ y : Nat → Int32, y = va_cpy f9 f10 (Int32.toNatClampNeg 0) (Int32.toNatClampNeg 0) (Int32.toNatClampNeg v3) ∧ Rg y 0 7 ∧ va_P D vwCl [(h0, .inr (3, [.int v3, .int v4, .ref h7, .ref h9, .ref h11, .ref h13, .ref h15, .ref h4, .ref h5])), (h1, .inr (3, [.int v3, .int v4, .ref h6, .ref h8, .ref h10, .ref h12, .ref h14, .ref h2, .ref h3])), (h2, .inl (c 0, 8, .inl f5)), (h3, .inl (c 0, 8, .inl f6)), (h4, .inl (c 0, 8, .inl f7)), (h5, .inl (c 0, 8, .inl f8)), (h6, .inl (c 0, 14, .inl f9)), (h7, .inl (c 0, 14, .inl y)), (h8, .inl (c 0, 14, .inl f12)), (h9, .inl (c 0, 14, .inl f13)), (h10, .inl (c 0, 14, .inl f15)), (h11, .inl (c 0, 14, .inl f16)), (h12, .inl (c 0, 14, .inl f18)), (h13, .inl (c 0, 14, .inl f19)), (h14, .inl (c 0, 14, .inl f21)), (h15, .inl (c 0, 14, .inl f22))] H ∧ va_D A [(h0, .inr (3, [.int v3, .int v4, .ref h7, .ref h9, .ref h11, .ref h13, .ref h15, .ref h4, .ref h5])), (h1, .inr (3, [.int v3, .int v4, .ref h6, .ref h8, .ref h10, .ref h12, .ref h14, .ref h2, .ref h3])), (h2, .inl (c 0, 8, .inl f5)), (h3, .inl (c 0, 8, .inl f6)), (h4, .inl (c 0, 8, .inl f7)), (h5, .inl (c 0, 8, .inl f8)), (h6, .inl (c 0, 14, .inl f9)), (h7, .inl (c 0, 14, .inl y)), (h8, .inl (c 0, 14, .inl f12)), (h9, .inl (c 0, 14, .inl f13)), (h10, .inl (c 0, 14, .inl f15)), (h11, .inl (c 0, 14, .inl f16)), (h12, .inl (c 0, 14, .inl f18)), (h13, .inl (c 0, 14, .inl f19)), (h14, .inl (c 0, 14, .inl f21)), (h15, .inl (c 0, 14, .inl f22))] := ⟨_, rfl, (Rg.cpy gf9 gf10), hP, hD⟩
  refine lv_aload_n hx hb dX4_copyFrom_33 rfl (lv_at hl 1 rfl) ?_
  refine va_get (D := D) (ci := 3) (v := .ref h8) (C := RX4) (T := TX4) (N := 9) hx hb hts i_X4 hown hK hP 1 rfl rfl 3 (by decide) (hts _ kw_227) (fun _ h9 => h9) rfl dX4_copyFrom_34 ?_
  refine lv_iconst (v := 0) hx hb dX4_copyFrom_37 (by decide) ?_
  refine lv_aload_n hx hb dX4_copyFrom_38 rfl (lv_at hl 0 rfl) ?_
  refine va_get (D := D) (ci := 3) (v := .ref h9) (C := RX4) (T := TX4) (N := 9) hx hb hts i_X4 hown hK hP 0 rfl rfl 3 (by decide) (hts _ kw_227) (fun _ h9 => h9) rfl dX4_copyFrom_39 ?_
  refine lv_iconst (v := 0) hx hb dX4_copyFrom_42 (by decide) ?_
  refine lv_aload_n hx hb dX4_copyFrom_43 rfl (lv_at hl 0 rfl) ?_
  refine va_get (D := D) (ci := 3) (v := .int v3) (C := RX4) (T := TX4) (N := 9) hx hb hts i_X4 hown hK hP 0 rfl rfl 0 (by decide) (hts _ kw_212) (fun _ h9 => h9) rfl dX4_copyFrom_44 ?_
  refine va_copyi (ty := .int) hx hb (by rw [hml]; exact hl.1.symm) hown (hts _ kw_627) (hts _ kw_629) (hts _ kw_628) (hts _ kw_128) hK hP hD hS 8 9 0 0 rfl rfl rfl rfl rfl (by decide) (by decide) (nl_of (X := v3.toInt) (Y := 0) rfl (by decide) (by omega)) (cp0 (by omega) (by omega)) (cp0 (by omega) (by omega)) (fun _ _ => rfl) (Nat.le_of_ble_eq_true rfl) (Nat.le_of_ble_eq_true rfl) dX4_copyFrom_47 (fun H locs hP hD hS => ?_)
  obtain ⟨f1002, ef1002, hf1002, hP, hD⟩ : ∃ y : Nat → Int32, y = va_cpy f12 f13 (Int32.toNatClampNeg 0) (Int32.toNatClampNeg 0) (Int32.toNatClampNeg v3) ∧ Rg y 0 7 ∧ va_P D vwCl [(h0, .inr (3, [.int v3, .int v4, .ref h7, .ref h9, .ref h11, .ref h13, .ref h15, .ref h4, .ref h5])), (h1, .inr (3, [.int v3, .int v4, .ref h6, .ref h8, .ref h10, .ref h12, .ref h14, .ref h2, .ref h3])), (h2, .inl (c 0, 8, .inl f5)), (h3, .inl (c 0, 8, .inl f6)), (h4, .inl (c 0, 8, .inl f7)), (h5, .inl (c 0, 8, .inl f8)), (h6, .inl (c 0, 14, .inl f9)), (h7, .inl (c 0, 14, .inl f1001)), (h8, .inl (c 0, 14, .inl f12)), (h9, .inl (c 0, 14, .inl y)), (h10, .inl (c 0, 14, .inl f15)), (h11, .inl (c 0, 14, .inl f16)), (h12, .inl (c 0, 14, .inl f18)), (h13, .inl (c 0, 14, .inl f19)), (h14, .inl (c 0, 14, .inl f21)), (h15, .inl (c 0, 14, .inl f22))] H ∧ va_D A [(h0, .inr (3, [.int v3, .int v4, .ref h7, .ref h9, .ref h11, .ref h13, .ref h15, .ref h4, .ref h5])), (h1, .inr (3, [.int v3, .int v4, .ref h6, .ref h8, .ref h10, .ref h12, .ref h14, .ref h2, .ref h3])), (h2, .inl (c 0, 8, .inl f5)), (h3, .inl (c 0, 8, .inl f6)), (h4, .inl (c 0, 8, .inl f7)), (h5, .inl (c 0, 8, .inl f8)), (h6, .inl (c 0, 14, .inl f9)), (h7, .inl (c 0, 14, .inl f1001)), (h8, .inl (c 0, 14, .inl f12)), (h9, .inl (c 0, 14, .inl y)), (h10, .inl (c 0, 14, .inl f15)), (h11, .inl (c 0, 14, .inl f16)), (h12, .inl (c 0, 14, .inl f18)), (h13, .inl (c 0, 14, .inl f19)), (h14, .inl (c 0, 14, .inl f21)), (h15, .inl (c 0, 14, .inl f22))] := ⟨_, rfl, (Rg.cpy gf12 gf13), hP, hD⟩
  refine lv_aload_n hx hb dX4_copyFrom_50 rfl (lv_at hl 1 rfl) ?_
  refine va_get (D := D) (ci := 3) (v := .ref h10) (C := RX4) (T := TX4) (N := 9) hx hb hts i_X4 hown hK hP 1 rfl rfl 4 (by decide) (hts _ kw_230) (fun _ h9 => h9) rfl dX4_copyFrom_51 ?_
  refine lv_iconst (v := 0) hx hb dX4_copyFrom_54 (by decide) ?_
  refine lv_aload_n hx hb dX4_copyFrom_55 rfl (lv_at hl 0 rfl) ?_
  refine va_get (D := D) (ci := 3) (v := .ref h11) (C := RX4) (T := TX4) (N := 9) hx hb hts i_X4 hown hK hP 0 rfl rfl 4 (by decide) (hts _ kw_230) (fun _ h9 => h9) rfl dX4_copyFrom_56 ?_
  refine lv_iconst (v := 0) hx hb dX4_copyFrom_59 (by decide) ?_
  refine lv_aload_n hx hb dX4_copyFrom_60 rfl (lv_at hl 0 rfl) ?_
  refine va_get (D := D) (ci := 3) (v := .int v3) (C := RX4) (T := TX4) (N := 9) hx hb hts i_X4 hown hK hP 0 rfl rfl 0 (by decide) (hts _ kw_212) (fun _ h9 => h9) rfl dX4_copyFrom_61 ?_
  refine va_copyi (ty := .int) hx hb (by rw [hml]; exact hl.1.symm) hown (hts _ kw_627) (hts _ kw_629) (hts _ kw_628) (hts _ kw_128) hK hP hD hS 10 11 0 0 rfl rfl rfl rfl rfl (by decide) (by decide) (nl_of (X := v3.toInt) (Y := 0) rfl (by decide) (by omega)) (cp0 (by omega) (by omega)) (cp0 (by omega) (by omega)) (fun _ _ => rfl) (Nat.le_of_ble_eq_true rfl) (Nat.le_of_ble_eq_true rfl) dX4_copyFrom_64 (fun H locs hP hD hS => ?_)
  obtain ⟨f1003, ef1003, hP, hD⟩ : ∃ y : Nat → Int32, y = va_cpy f15 f16 (Int32.toNatClampNeg 0) (Int32.toNatClampNeg 0) (Int32.toNatClampNeg v3) ∧ va_P D vwCl [(h0, .inr (3, [.int v3, .int v4, .ref h7, .ref h9, .ref h11, .ref h13, .ref h15, .ref h4, .ref h5])), (h1, .inr (3, [.int v3, .int v4, .ref h6, .ref h8, .ref h10, .ref h12, .ref h14, .ref h2, .ref h3])), (h2, .inl (c 0, 8, .inl f5)), (h3, .inl (c 0, 8, .inl f6)), (h4, .inl (c 0, 8, .inl f7)), (h5, .inl (c 0, 8, .inl f8)), (h6, .inl (c 0, 14, .inl f9)), (h7, .inl (c 0, 14, .inl f1001)), (h8, .inl (c 0, 14, .inl f12)), (h9, .inl (c 0, 14, .inl f1002)), (h10, .inl (c 0, 14, .inl f15)), (h11, .inl (c 0, 14, .inl y)), (h12, .inl (c 0, 14, .inl f18)), (h13, .inl (c 0, 14, .inl f19)), (h14, .inl (c 0, 14, .inl f21)), (h15, .inl (c 0, 14, .inl f22))] H ∧ va_D A [(h0, .inr (3, [.int v3, .int v4, .ref h7, .ref h9, .ref h11, .ref h13, .ref h15, .ref h4, .ref h5])), (h1, .inr (3, [.int v3, .int v4, .ref h6, .ref h8, .ref h10, .ref h12, .ref h14, .ref h2, .ref h3])), (h2, .inl (c 0, 8, .inl f5)), (h3, .inl (c 0, 8, .inl f6)), (h4, .inl (c 0, 8, .inl f7)), (h5, .inl (c 0, 8, .inl f8)), (h6, .inl (c 0, 14, .inl f9)), (h7, .inl (c 0, 14, .inl f1001)), (h8, .inl (c 0, 14, .inl f12)), (h9, .inl (c 0, 14, .inl f1002)), (h10, .inl (c 0, 14, .inl f15)), (h11, .inl (c 0, 14, .inl y)), (h12, .inl (c 0, 14, .inl f18)), (h13, .inl (c 0, 14, .inl f19)), (h14, .inl (c 0, 14, .inl f21)), (h15, .inl (c 0, 14, .inl f22))] := ⟨_, rfl, hP, hD⟩
  refine lv_aload_n hx hb dX4_copyFrom_67 rfl (lv_at hl 1 rfl) ?_
  refine va_get (D := D) (ci := 3) (v := .ref h12) (C := RX4) (T := TX4) (N := 9) hx hb hts i_X4 hown hK hP 1 rfl rfl 5 (by decide) (hts _ kw_233) (fun _ h9 => h9) rfl dX4_copyFrom_68 ?_
  refine lv_iconst (v := 0) hx hb dX4_copyFrom_71 (by decide) ?_
  refine lv_aload_n hx hb dX4_copyFrom_72 rfl (lv_at hl 0 rfl) ?_
  refine va_get (D := D) (ci := 3) (v := .ref h13) (C := RX4) (T := TX4) (N := 9) hx hb hts i_X4 hown hK hP 0 rfl rfl 5 (by decide) (hts _ kw_233) (fun _ h9 => h9) rfl dX4_copyFrom_73 ?_
  refine lv_iconst (v := 0) hx hb dX4_copyFrom_76 (by decide) ?_
  refine lv_aload_n hx hb dX4_copyFrom_77 rfl (lv_at hl 0 rfl) ?_
  refine va_get (D := D) (ci := 3) (v := .int v3) (C := RX4) (T := TX4) (N := 9) hx hb hts i_X4 hown hK hP 0 rfl rfl 0 (by decide) (hts _ kw_212) (fun _ h9 => h9) rfl dX4_copyFrom_78 ?_
  refine va_copyi (ty := .int) hx hb (by rw [hml]; exact hl.1.symm) hown (hts _ kw_627) (hts _ kw_629) (hts _ kw_628) (hts _ kw_128) hK hP hD hS 12 13 0 0 rfl rfl rfl rfl rfl (by decide) (by decide) (nl_of (X := v3.toInt) (Y := 0) rfl (by decide) (by omega)) (cp0 (by omega) (by omega)) (cp0 (by omega) (by omega)) (fun _ _ => rfl) (Nat.le_of_ble_eq_true rfl) (Nat.le_of_ble_eq_true rfl) dX4_copyFrom_81 (fun H locs hP hD hS => ?_)
  obtain ⟨f1004, ef1004, hP, hD⟩ : ∃ y : Nat → Int32, y = va_cpy f18 f19 (Int32.toNatClampNeg 0) (Int32.toNatClampNeg 0) (Int32.toNatClampNeg v3) ∧ va_P D vwCl [(h0, .inr (3, [.int v3, .int v4, .ref h7, .ref h9, .ref h11, .ref h13, .ref h15, .ref h4, .ref h5])), (h1, .inr (3, [.int v3, .int v4, .ref h6, .ref h8, .ref h10, .ref h12, .ref h14, .ref h2, .ref h3])), (h2, .inl (c 0, 8, .inl f5)), (h3, .inl (c 0, 8, .inl f6)), (h4, .inl (c 0, 8, .inl f7)), (h5, .inl (c 0, 8, .inl f8)), (h6, .inl (c 0, 14, .inl f9)), (h7, .inl (c 0, 14, .inl f1001)), (h8, .inl (c 0, 14, .inl f12)), (h9, .inl (c 0, 14, .inl f1002)), (h10, .inl (c 0, 14, .inl f15)), (h11, .inl (c 0, 14, .inl f1003)), (h12, .inl (c 0, 14, .inl f18)), (h13, .inl (c 0, 14, .inl y)), (h14, .inl (c 0, 14, .inl f21)), (h15, .inl (c 0, 14, .inl f22))] H ∧ va_D A [(h0, .inr (3, [.int v3, .int v4, .ref h7, .ref h9, .ref h11, .ref h13, .ref h15, .ref h4, .ref h5])), (h1, .inr (3, [.int v3, .int v4, .ref h6, .ref h8, .ref h10, .ref h12, .ref h14, .ref h2, .ref h3])), (h2, .inl (c 0, 8, .inl f5)), (h3, .inl (c 0, 8, .inl f6)), (h4, .inl (c 0, 8, .inl f7)), (h5, .inl (c 0, 8, .inl f8)), (h6, .inl (c 0, 14, .inl f9)), (h7, .inl (c 0, 14, .inl f1001)), (h8, .inl (c 0, 14, .inl f12)), (h9, .inl (c 0, 14, .inl f1002)), (h10, .inl (c 0, 14, .inl f15)), (h11, .inl (c 0, 14, .inl f1003)), (h12, .inl (c 0, 14, .inl f18)), (h13, .inl (c 0, 14, .inl y)), (h14, .inl (c 0, 14, .inl f21)), (h15, .inl (c 0, 14, .inl f22))] := ⟨_, rfl, hP, hD⟩
  refine lv_aload_n hx hb dX4_copyFrom_84 rfl (lv_at hl 1 rfl) ?_
  refine va_get (D := D) (ci := 3) (v := .ref h14) (C := RX4) (T := TX4) (N := 9) hx hb hts i_X4 hown hK hP 1 rfl rfl 6 (by decide) (hts _ kw_237) (fun _ h9 => h9) rfl dX4_copyFrom_85 ?_
  refine lv_iconst (v := 0) hx hb dX4_copyFrom_88 (by decide) ?_
  refine lv_aload_n hx hb dX4_copyFrom_89 rfl (lv_at hl 0 rfl) ?_
  refine va_get (D := D) (ci := 3) (v := .ref h15) (C := RX4) (T := TX4) (N := 9) hx hb hts i_X4 hown hK hP 0 rfl rfl 6 (by decide) (hts _ kw_237) (fun _ h9 => h9) rfl dX4_copyFrom_90 ?_
  refine lv_iconst (v := 0) hx hb dX4_copyFrom_93 (by decide) ?_
  refine lv_aload_n hx hb dX4_copyFrom_94 rfl (lv_at hl 0 rfl) ?_
  refine va_get (D := D) (ci := 3) (v := .int v3) (C := RX4) (T := TX4) (N := 9) hx hb hts i_X4 hown hK hP 0 rfl rfl 0 (by decide) (hts _ kw_212) (fun _ h9 => h9) rfl dX4_copyFrom_95 ?_
  refine va_copyi (ty := .int) hx hb (by rw [hml]; exact hl.1.symm) hown (hts _ kw_627) (hts _ kw_629) (hts _ kw_628) (hts _ kw_128) hK hP hD hS 14 15 0 0 rfl rfl rfl rfl rfl (by decide) (by decide) (nl_of (X := v3.toInt) (Y := 0) rfl (by decide) (by omega)) (cp0 (by omega) (by omega)) (cp0 (by omega) (by omega)) (fun _ _ => rfl) (Nat.le_of_ble_eq_true rfl) (Nat.le_of_ble_eq_true rfl) dX4_copyFrom_98 (fun H locs hP hD hS => ?_)
  obtain ⟨f1005, ef1005, hP, hD⟩ : ∃ y : Nat → Int32, y = va_cpy f21 f22 (Int32.toNatClampNeg 0) (Int32.toNatClampNeg 0) (Int32.toNatClampNeg v3) ∧ va_P D vwCl [(h0, .inr (3, [.int v3, .int v4, .ref h7, .ref h9, .ref h11, .ref h13, .ref h15, .ref h4, .ref h5])), (h1, .inr (3, [.int v3, .int v4, .ref h6, .ref h8, .ref h10, .ref h12, .ref h14, .ref h2, .ref h3])), (h2, .inl (c 0, 8, .inl f5)), (h3, .inl (c 0, 8, .inl f6)), (h4, .inl (c 0, 8, .inl f7)), (h5, .inl (c 0, 8, .inl f8)), (h6, .inl (c 0, 14, .inl f9)), (h7, .inl (c 0, 14, .inl f1001)), (h8, .inl (c 0, 14, .inl f12)), (h9, .inl (c 0, 14, .inl f1002)), (h10, .inl (c 0, 14, .inl f15)), (h11, .inl (c 0, 14, .inl f1003)), (h12, .inl (c 0, 14, .inl f18)), (h13, .inl (c 0, 14, .inl f1004)), (h14, .inl (c 0, 14, .inl f21)), (h15, .inl (c 0, 14, .inl y))] H ∧ va_D A [(h0, .inr (3, [.int v3, .int v4, .ref h7, .ref h9, .ref h11, .ref h13, .ref h15, .ref h4, .ref h5])), (h1, .inr (3, [.int v3, .int v4, .ref h6, .ref h8, .ref h10, .ref h12, .ref h14, .ref h2, .ref h3])), (h2, .inl (c 0, 8, .inl f5)), (h3, .inl (c 0, 8, .inl f6)), (h4, .inl (c 0, 8, .inl f7)), (h5, .inl (c 0, 8, .inl f8)), (h6, .inl (c 0, 14, .inl f9)), (h7, .inl (c 0, 14, .inl f1001)), (h8, .inl (c 0, 14, .inl f12)), (h9, .inl (c 0, 14, .inl f1002)), (h10, .inl (c 0, 14, .inl f15)), (h11, .inl (c 0, 14, .inl f1003)), (h12, .inl (c 0, 14, .inl f18)), (h13, .inl (c 0, 14, .inl f1004)), (h14, .inl (c 0, 14, .inl f21)), (h15, .inl (c 0, 14, .inl y))] := ⟨_, rfl, hP, hD⟩
  refine lv_aload_n hx hb dX4_copyFrom_101 rfl (lv_at hl 1 rfl) ?_
  refine va_get (D := D) (ci := 3) (v := .ref h2) (C := RX4) (T := TX4) (N := 9) hx hb hts i_X4 hown hK hP 1 rfl rfl 7 (by decide) (hts _ kw_242) (fun _ h9 => h9) rfl dX4_copyFrom_102 ?_
  refine lv_iconst (v := 0) hx hb dX4_copyFrom_105 (by decide) ?_
  refine lv_aload_n hx hb dX4_copyFrom_106 rfl (lv_at hl 0 rfl) ?_
  refine va_get (D := D) (ci := 3) (v := .ref h4) (C := RX4) (T := TX4) (N := 9) hx hb hts i_X4 hown hK hP 0 rfl rfl 7 (by decide) (hts _ kw_242) (fun _ h9 => h9) rfl dX4_copyFrom_107 ?_
  refine lv_iconst (v := 0) hx hb dX4_copyFrom_110 (by decide) ?_
  refine lv_bipush (v := 8) hx hb dX4_copyFrom_111 (by decide) ?_
  refine va_copyi (ty := .int) hx hb (by rw [hml]; exact hl.1.symm) hown (hts _ kw_627) (hts _ kw_629) (hts _ kw_628) (hts _ kw_128) hK hP hD hS 2 4 0 0 rfl rfl rfl rfl rfl (by decide) (by decide) (by decide) (by decide) (by decide) (fun _ _ => rfl) (Nat.le_of_ble_eq_true rfl) (Nat.le_of_ble_eq_true rfl) dX4_copyFrom_113 (fun H locs hP hD hS => ?_)
  obtain ⟨f1006, ef1006, hf1006, hP, hD⟩ : ∃ y : Nat → Int32, y = va_cpy f5 f7 (Int32.toNatClampNeg 0) (Int32.toNatClampNeg 0) (Int32.toNatClampNeg 8) ∧ Rg y 0 16383 ∧ va_P D vwCl [(h0, .inr (3, [.int v3, .int v4, .ref h7, .ref h9, .ref h11, .ref h13, .ref h15, .ref h4, .ref h5])), (h1, .inr (3, [.int v3, .int v4, .ref h6, .ref h8, .ref h10, .ref h12, .ref h14, .ref h2, .ref h3])), (h2, .inl (c 0, 8, .inl f5)), (h3, .inl (c 0, 8, .inl f6)), (h4, .inl (c 0, 8, .inl y)), (h5, .inl (c 0, 8, .inl f8)), (h6, .inl (c 0, 14, .inl f9)), (h7, .inl (c 0, 14, .inl f1001)), (h8, .inl (c 0, 14, .inl f12)), (h9, .inl (c 0, 14, .inl f1002)), (h10, .inl (c 0, 14, .inl f15)), (h11, .inl (c 0, 14, .inl f1003)), (h12, .inl (c 0, 14, .inl f18)), (h13, .inl (c 0, 14, .inl f1004)), (h14, .inl (c 0, 14, .inl f21)), (h15, .inl (c 0, 14, .inl f1005))] H ∧ va_D A [(h0, .inr (3, [.int v3, .int v4, .ref h7, .ref h9, .ref h11, .ref h13, .ref h15, .ref h4, .ref h5])), (h1, .inr (3, [.int v3, .int v4, .ref h6, .ref h8, .ref h10, .ref h12, .ref h14, .ref h2, .ref h3])), (h2, .inl (c 0, 8, .inl f5)), (h3, .inl (c 0, 8, .inl f6)), (h4, .inl (c 0, 8, .inl y)), (h5, .inl (c 0, 8, .inl f8)), (h6, .inl (c 0, 14, .inl f9)), (h7, .inl (c 0, 14, .inl f1001)), (h8, .inl (c 0, 14, .inl f12)), (h9, .inl (c 0, 14, .inl f1002)), (h10, .inl (c 0, 14, .inl f15)), (h11, .inl (c 0, 14, .inl f1003)), (h12, .inl (c 0, 14, .inl f18)), (h13, .inl (c 0, 14, .inl f1004)), (h14, .inl (c 0, 14, .inl f21)), (h15, .inl (c 0, 14, .inl f1005))] := ⟨_, rfl, (Rg.cpy gf5 gf7), hP, hD⟩
  refine lv_aload_n hx hb dX4_copyFrom_116 rfl (lv_at hl 1 rfl) ?_
  refine va_get (D := D) (ci := 3) (v := .ref h3) (C := RX4) (T := TX4) (N := 9) hx hb hts i_X4 hown hK hP 1 rfl rfl 8 (by decide) (hts _ kw_245) (fun _ h9 => h9) rfl dX4_copyFrom_117 ?_
  refine lv_iconst (v := 0) hx hb dX4_copyFrom_120 (by decide) ?_
  refine lv_aload_n hx hb dX4_copyFrom_121 rfl (lv_at hl 0 rfl) ?_
  refine va_get (D := D) (ci := 3) (v := .ref h5) (C := RX4) (T := TX4) (N := 9) hx hb hts i_X4 hown hK hP 0 rfl rfl 8 (by decide) (hts _ kw_245) (fun _ h9 => h9) rfl dX4_copyFrom_122 ?_
  refine lv_iconst (v := 0) hx hb dX4_copyFrom_125 (by decide) ?_
  refine lv_bipush (v := 8) hx hb dX4_copyFrom_126 (by decide) ?_
  refine va_copyi (ty := .int) hx hb (by rw [hml]; exact hl.1.symm) hown (hts _ kw_627) (hts _ kw_629) (hts _ kw_628) (hts _ kw_128) hK hP hD hS 3 5 0 0 rfl rfl rfl rfl rfl (by decide) (by decide) (by decide) (by decide) (by decide) (fun _ _ => rfl) (Nat.le_of_ble_eq_true rfl) (Nat.le_of_ble_eq_true rfl) dX4_copyFrom_128 (fun H locs hP hD hS => ?_)
  obtain ⟨f1007, ef1007, hf1007, hP, hD⟩ : ∃ y : Nat → Int32, y = va_cpy f6 f8 (Int32.toNatClampNeg 0) (Int32.toNatClampNeg 0) (Int32.toNatClampNeg 8) ∧ Rg y 0 16383 ∧ va_P D vwCl [(h0, .inr (3, [.int v3, .int v4, .ref h7, .ref h9, .ref h11, .ref h13, .ref h15, .ref h4, .ref h5])), (h1, .inr (3, [.int v3, .int v4, .ref h6, .ref h8, .ref h10, .ref h12, .ref h14, .ref h2, .ref h3])), (h2, .inl (c 0, 8, .inl f5)), (h3, .inl (c 0, 8, .inl f6)), (h4, .inl (c 0, 8, .inl f1006)), (h5, .inl (c 0, 8, .inl y)), (h6, .inl (c 0, 14, .inl f9)), (h7, .inl (c 0, 14, .inl f1001)), (h8, .inl (c 0, 14, .inl f12)), (h9, .inl (c 0, 14, .inl f1002)), (h10, .inl (c 0, 14, .inl f15)), (h11, .inl (c 0, 14, .inl f1003)), (h12, .inl (c 0, 14, .inl f18)), (h13, .inl (c 0, 14, .inl f1004)), (h14, .inl (c 0, 14, .inl f21)), (h15, .inl (c 0, 14, .inl f1005))] H ∧ va_D A [(h0, .inr (3, [.int v3, .int v4, .ref h7, .ref h9, .ref h11, .ref h13, .ref h15, .ref h4, .ref h5])), (h1, .inr (3, [.int v3, .int v4, .ref h6, .ref h8, .ref h10, .ref h12, .ref h14, .ref h2, .ref h3])), (h2, .inl (c 0, 8, .inl f5)), (h3, .inl (c 0, 8, .inl f6)), (h4, .inl (c 0, 8, .inl f1006)), (h5, .inl (c 0, 8, .inl y)), (h6, .inl (c 0, 14, .inl f9)), (h7, .inl (c 0, 14, .inl f1001)), (h8, .inl (c 0, 14, .inl f12)), (h9, .inl (c 0, 14, .inl f1002)), (h10, .inl (c 0, 14, .inl f15)), (h11, .inl (c 0, 14, .inl f1003)), (h12, .inl (c 0, 14, .inl f18)), (h13, .inl (c 0, 14, .inl f1004)), (h14, .inl (c 0, 14, .inl f21)), (h15, .inl (c 0, 14, .inl f1005))] := ⟨_, rfl, (Rg.cpy gf6 gf8), hP, hD⟩
  have hv1008 : OuOK v3 f1006 := by rw [ef1006]; exact OuOK.cpy ge1
  have hv1009 : OuOK v3 f1007 := by rw [ef1007]; exact OuOK.cpy ge2
  exact rV hQ hx hb hr hlocks hS (Nat.le_of_ble_eq_true rfl) (Nat.le_of_ble_eq_true rfl) dX4_copyFrom_131 (fun t ht => ⟨f1006, f1007, f1001, f1002, f1003, f1004, f1005, hf1006, hf1007, hf1001, hf1002, ge0, hv1008, hv1009, by rw [ht]; exact hP, hD⟩)
