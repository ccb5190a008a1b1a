set_option maxHeartbeats 4000000 in
set_option maxRecDepth 100000 in
theorem m_X7_shift (l : Launch) (D : va_G) (c : Nat → ClassId) (h0 : Nat) (sz : Nat) (u10 : Value) (u11 : Value) (v1 : Int32) (v2 : Int32) (u12 : Value) (v3 : Int32) (u13 : Value) (u14 : Value) (v4 : Int32) (v5 : Int32) (v6 : Int32) (v7 : Int32) (a1 : Int32) (gv1 : 0 ≤ v1.toInt ∧ v1.toInt ≤ 1048576) (gv2 : 0 ≤ v2.toInt ∧ v2.toInt ≤ 1048576) (gv3 : 0 ≤ v3.toInt ∧ v3.toInt ≤ 6) (gv4 : 0 ≤ v4.toInt ∧ v4.toInt ≤ 14) (gv6 : 0 ≤ v6.toInt ∧ v6.toInt ≤ 1048575) (gv7 : 0 ≤ v7.toInt ∧ v7.toInt ≤ 255) (ga1 : 0 ≤ a1.toInt ∧ a1.toInt ≤ 6) : Met l yX7_shift (Cond.code yX7_shift cX7_shift 2 (some .int) :: TB) ({ frames := 0, cells := 0, slots := 0, locals := 0 } : Room) (va_Pc [.ref h0, .int a1] (PW D c [(h0, .inr (6, [u10, u11, .int v1, .int v2, u12, .int v3, u13, u14, .int v4, .int v5, .int v6, .int v7]))] sz)) ((QIx (fun A r t => (0 ≤ r.toInt ∧ r.toInt ≤ 32) ∧ (r.toInt = v4.toInt + 3 * a1.toInt) ∧ va_P D vwCl [(h0, .inr (6, [u10, u11, .int v1, .int v2, u12, .int v3, u13, u14, .int v4, .int v5, .int v6, .int v7]))] t.heap ∧ va_D A [(h0, .inr (6, [u10, u11, .int v1, .int v2, u12, .int v3, u13, u14, .int v4, .int v5, .int v6, .int v7]))])) (va_A [(h0, .inr (6, [u10, u11, .int v1, .int v2, u12, .int v3, u13, u14, .int v4, .int v5, .int v6, .int v7]))] sz)) 0 0 (va_A [(h0, .inr (6, [u10, u11, .int v1, .int v2, u12, .int v3, u13, u14, .int v4, .int v5, .int v6, .int v7]))] sz) := by
  refine start2 (by decide +kernel) (Nat.le_of_ble_eq_true rfl) ?_
  intro p e s m below meth cd A ls Q hx hb hr hml hts hown hlocks hin hA hS hK hP hD hN hl hQ
  have hown : s.vm.findClass RX7 = some m.cls := hown
  have hl : lv_has ls 2 [(0, .ref h0), (1, .int a1)] := hl
  have hP : va_P D vwCl [(h0, .inr (6, [u10, u11, .int v1, .int v2, u12, .int v3, u13, u14, .int v4, .int v5, .int v6, .int v7]))] s.heap := hP
  refine lv_aload_n hx hb dX7_shift_0 rfl (lv_at hl 0 rfl) ?_
  refine va_get (D := D) (ci := 6) (v := .int v4) (C := RX7) (T := TX7) (N := 12) hx hb hts i_X7 hown hK hP 0 rfl rfl 8 (by decide) (hts _ kw_408) (fun _ h9 => h9) rfl dX7_shift_1 ?_
  refine lv_iconst (v := 3) hx hb dX7_shift_4 (by decide) ?_
  refine lv_iload_n hx hb dX7_shift_5 rfl (lv_at hl 1 rfl) ?_
  refine lv_imul hx hb dX7_shift_6 ?_
  refine q_mul (X := 3) (Y := a1.toInt) (by decide) rfl rfl (by omega) (by omega) (fun z1001 ez1001 hz1001 => ?_)
  refine lv_iadd hx hb dX7_shift_7 ?_
  refine q_add (X := v4.toInt) (Y := z1001.toInt) rfl rfl (by omega) (by omega) (fun z1002 ez1002 hz1002 => ?_)
  exact rI hQ hx hb hr hlocks rfl hS (Nat.le_of_ble_eq_true rfl) (Nat.le_of_ble_eq_true rfl) dX7_shift_8 (fun t ht => ⟨⟨by omega, by omega⟩, (by omega), by rw [ht]; exact hP, hD⟩)
set_option maxHeartbeats 4000000 in
set_option maxRecDepth 100000 in
theorem m_X7_leading (l : Launch) (D : va_G) (c : Nat → ClassId) (h0 h1 h2 h3 h4 h5 h6 h7 : Nat) (sz : Nat) (v1 : Int32) (v2 : Int32) (v3 : Int32) (v4 : Int32) (v5 : Int32) (v6 : Int32) (v7 : Int32) (v8 : Int32) (v9 : Int32) (u22 : Value) (u23 : Value) (u24 : Value) (u25 : Value) (u26 : Value) (f10 : Nat → Int32) (f11 : Nat → Int32) (a1 : Int32) (a2 : Int32) (gv1 : 0 ≤ v1.toInt ∧ v1.toInt ≤ 1048576) (gv2 : 0 ≤ v2.toInt ∧ v2.toInt ≤ 1048576) (gv3 : 0 ≤ v3.toInt ∧ v3.toInt ≤ 6) (gv4 : 0 ≤ v4.toInt ∧ v4.toInt ≤ 14) (gv6 : 0 ≤ v6.toInt ∧ v6.toInt ≤ 1048575) (gv7 : 0 ≤ v7.toInt ∧ v7.toInt ≤ 255) (gv8 : 0 ≤ v8.toInt ∧ v8.toInt ≤ 14) (gv9 : 0 ≤ v9.toInt ∧ v9.toInt ≤ 16383) (gf10 : Rg f10 0 16383) (gf11 : Rg f11 0 16383) (ga1 : 0 ≤ a1.toInt ∧ a1.toInt ≤ 1048575) (ga2 : 0 ≤ a2.toInt ∧ a2.toInt ≤ 5) (ge0 : OuOK v4 f10) (ge1 : OuOK v4 f11) : Met l yX7_leading (Cond.code yX7_leading cX7_leading 4 (some .int) :: TB) ({ frames := 1, cells := 0, slots := 0, locals := 21 } : Room) (va_Pc [.ref h0, .int a1, .int a2] (PW D c [(h0, .inr (6, [.ref h5, .ref h6, .int v1, .int v2, .ref h7, .int v3, .ref h1, .ref h4, .int v4, .int v5, .int v6, .int v7])), (h1, .inr (3, [.int v8, .int v9, u22, u23, u24, u25, u26, .ref h2, .ref h3])), (h2, .inl (c 0, 8, .inl f10)), (h3, .inl (c 0, 8, .inl f11))] sz)) ((QIx (fun A r t => (0 ≤ r.toInt ∧ r.toInt ≤ 16383) ∧ (r.toInt < P2 v4) ∧ va_P D vwCl [(h0, .inr (6, [.ref h5, .ref h6, .int v1, .int v2, .ref h7, .int v3, .ref h1, .ref h4, .int v4, .int v5, .int v6, .int v7])), (h1, .inr (3, [.int v8, .int v9, u22, u23, u24, u25, u26, .ref h2, .ref h3])), (h2, .inl (c 0, 8, .inl f10)), (h3, .inl (c 0, 8, .inl f11))] t.heap ∧ va_D A [(h0, .inr (6, [.ref h5, .ref h6, .int v1, .int v2, .ref h7, .int v3, .ref h1, .ref h4, .int v4, .int v5, .int v6, .int v7])), (h1, .inr (3, [.int v8, .int v9, u22, u23, u24, u25, u26, .ref h2, .ref h3])), (h2, .inl (c 0, 8, .inl f10)), (h3, .inl (c 0, 8, .inl f11))])) (va_A [(h0, .inr (6, [.ref h5, .ref h6, .int v1, .int v2, .ref h7, .int v3, .ref h1, .ref h4, .int v4, .int v5, .int v6, .int v7])), (h1, .inr (3, [.int v8, .int v9, u22, u23, u24, u25, u26, .ref h2, .ref h3])), (h2, .inl (c 0, 8, .inl f10)), (h3, .inl (c 0, 8, .inl f11))] sz)) 0 0 (va_A [(h0, .inr (6, [.ref h5, .ref h6, .int v1, .int v2, .ref h7, .int v3, .ref h1, .ref h4, .int v4, .int v5, .int v6, .int v7])), (h1, .inr (3, [.int v8, .int v9, u22, u23, u24, u25, u26, .ref h2, .ref h3])), (h2, .inl (c 0, 8, .inl f10)), (h3, .inl (c 0, 8, .inl f11))] sz) := by
  refine start2 (by decide +kernel) (Nat.le_of_ble_eq_true rfl) ?_
  intro p e s m below meth cd A ls Q hx hb hr hml hts hown hlocks hin hA hS hK hP hD hN hl hQ
  have hown : s.vm.findClass RX7 = some m.cls := hown
  have hl : lv_has ls 4 [(0, .ref h0), (1, .int a1), (2, .int a2)] := hl
  have hP : va_P D vwCl [(h0, .inr (6, [.ref h5, .ref h6, .int v1, .int v2, .ref h7, .int v3, .ref h1, .ref h4, .int v4, .int v5, .int v6, .int v7])), (h1, .inr (3, [.int v8, .int v9, u22, u23, u24, u25, u26, .ref h2, .ref h3])), (h2, .inl (c 0, 8, .inl f10)), (h3, .inl (c 0, 8, .inl f11))] s.heap := hP
  refine lv_iload_n hx hb dX7_leading_0 rfl (lv_at hl 1 rfl) ?_
  refine lv_aload_n hx hb dX7_leading_1 rfl (lv_at hl 0 rfl) ?_
  refine lv_iload_n hx hb dX7_leading_2 rfl (lv_at hl 2 rfl) ?_
  refine fI (run_V (n := 1) (ci := 6) ⟨hx, hb, hml, hown, hts⟩ (m_X7_shift l D c h0 s.heap.size (.ref h5) (.ref h6) v1 v2 (.ref h7) v3 (.ref h1) (.ref h4) v4 v5 v6 v7 a2 gv1 gv2 gv3 gv4 gv6 gv7 ⟨by omega, by omega⟩) (hP.sub [0] rfl) (hD.sub [0] (by decide) rfl) hK hN rfl rfl kw_833 kw_835 kw_10 kw_120 kw_836 ⟨rfl, by decide +kernel⟩ ⟨(Nat.le_of_ble_eq_true rfl), (Nat.le_of_ble_eq_true rfl)⟩ rfl rfl rfl hl.1 rfl (Nat.le_of_ble_eq_true rfl) dX7_leading_3 ⟨(Nat.le_of_ble_eq_true rfl), (Nat.le_of_ble_eq_true rfl)⟩) hP hD hS hA [0] rfl (fun z1001 H locs t hB hj hS => ?_)
  obtain ⟨hq1002, hq1003, hP1, hD1⟩ := hB
  obtain ⟨hP, hD⟩ := hj (wr := [(h1, .inr (3, [.int v8, .int v9, u22, u23, u24, u25, u26, .ref h2, .ref h3])), (h2, .inl (c 0, 8, .inl f10)), (h3, .inl (c 0, 8, .inl f11))]) (w1 := [(h0, .inr (6, [.ref h5, .ref h6, .int v1, .int v2, .ref h7, .int v3, .ref h1, .ref h4, .int v4, .int v5, .int v6, .int v7]))]) [1, 2, 3] rfl (by decide) (by decide) hP1 hD1
  have hP : va_P D vwCl [(h1, .inr (3, [.int v8, .int v9, u22, u23, u24, u25, u26, .ref h2, .ref h3])), (h2, .inl (c 0, 8, .inl f10)), (h3, .inl (c 0, 8, .inl f11)), (h0, .inr (6, [.ref h5, .ref h6, .int v1, .int v2, .ref h7, .int v3, .ref h1, .ref h4, .int v4, .int v5, .int v6, .int v7]))] H := hP
  have hD : va_D A [(h1, .inr (3, [.int v8, .int v9, u22, u23, u24, u25, u26, .ref h2, .ref h3])), (h2, .inl (c 0, 8, .inl f10)), (h3, .inl (c 0, 8, .inl f11)), (h0, .inr (6, [.ref h5, .ref h6, .int v1, .int v2, .ref h7, .int v3, .ref h1, .ref h4, .int v4, .int v5, .int v6, .int v7]))] := hD
  refine lv_ishr hx hb dX7_leading_6 ?_
  refine q_shr (X := a1.toInt) rfl (by omega) (fun z1004 ez1004 hz1004 => ?_)
  refine lv_bipush (v := 7) hx hb dX7_leading_7 (by decide) ?_
  refine lv_iand hx hb dX7_leading_9 ?_
  refine q_mask (X := z1004.toInt) (M := 8) 3 rfl (by decide) (by decide) (by decide) (fun z1005 ez1005 hz1005 => ?_)
  refine lv_istore_n (lv' := [(3, .int z1005), (0, .ref h0), (1, .int a1), (2, .int a2)]) hx hb dX7_leading_10 rfl hl (by decide) rfl (fun ls hl => ?_)
  refine lv_aload_n hx hb dX7_leading_11 rfl (lv_at hl 1 rfl) ?_
  refine va_get (D := D) (ci := 6) (v := .ref h1) (C := RX7) (T := TX7) (N := 12) hx hb hts i_X7 hown hK hP 3 rfl rfl 6 (by decide) (hts _ kw_406) (fun _ h9 => h9) rfl dX7_leading_12 ?_
  refine va_get (D := D) (ci := 3) (v := .ref h2) (C := RX4) (T := TX4) (N := 9) hx hb hts i_X4 hown hK hP 0 rfl rfl 7 (by decide) (hts _ kw_244) (fun _ h9 => h9) rfl dX7_leading_15 ?_
  refine lv_iload_n hx hb dX7_leading_18 rfl (lv_at hl 0 rfl) ?_
  refine va_iald hx hb hK hP 1 0 rfl rfl (in_of (by omega) (by omega)) dX7_leading_19 ?_
  refine rd gf10 (fun z1006 ez1006 hz1006 => ?_)
  refine lv_iload_n hx hb dX7_leading_20 rfl (lv_at hl 2 rfl) ?_
  refine lv_iconst (v := (-1)) hx hb dX7_leading_21 (by decide) ?_
  refine lv_ixor hx hb dX7_leading_22 ?_
  refine o_any (fun z1007 ez1007 => ?_)
  refine lv_iand hx hb dX7_leading_23 ?_
  refine q_andl (X := z1006.toInt) rfl (by omega) (fun z1008 ez1008 hz1008 => ?_)
  refine lv_aload_n hx hb dX7_leading_24 rfl (lv_at hl 1 rfl) ?_
  refine va_get (D := D) (ci := 6) (v := .ref h1) (C := RX7) (T := TX7) (N := 12) hx hb hts i_X7 hown hK hP 3 rfl rfl 6 (by decide) (hts _ kw_406) (fun _ h9 => h9) rfl dX7_leading_25 ?_
  refine va_get (D := D) (ci := 3) (v := .ref h3) (C := RX4) (T := TX4) (N := 9) hx hb hts i_X4 hown hK hP 0 rfl rfl 8 (by decide) (hts _ kw_247) (fun _ h9 => h9) rfl dX7_leading_28 ?_
  refine lv_iload_n hx hb dX7_leading_31 rfl (lv_at hl 0 rfl) ?_
  refine va_iald hx hb hK hP 2 0 rfl rfl (in_of (by omega) (by omega)) dX7_leading_32 ?_
  refine rd gf11 (fun z1009 ez1009 hz1009 => ?_)
  refine lv_iload_n hx hb dX7_leading_33 rfl (lv_at hl 2 rfl) ?_
  refine lv_iand hx hb dX7_leading_34 ?_
  refine q_and2 (X := z1009.toInt) (Y := a1.toInt) rfl rfl (by omega) (by omega) (fun z1010 ez1010 hz1010 => ?_)
  refine lv_ior hx hb dX7_leading_35 ?_
  refine q_or (X := z1008.toInt) (Y := z1010.toInt) (M := 16384) 14 rfl rfl (by decide) (by decide) (by omega) (by omega) (by omega) (by omega) (fun z1011 ez1011 hz1011 => ?_)
  refine lv_aload_n hx hb dX7_leading_36 rfl (lv_at hl 1 rfl) ?_
  refine va_get (D := D) (ci := 6) (v := .int v5) (C := RX7) (T := TX7) (N := 12) hx hb hts i_X7 hown hK hP 3 rfl rfl 9 (by decide) (hts _ kw_409) (fun _ h9 => h9) rfl dX7_leading_37 ?_
  refine lv_iand hx hb dX7_leading_40 ?_
  refine q_andl (X := z1011.toInt) rfl (by omega) (fun z1012 ez1012 hz1012 => ?_)
  have ci := cl_int (x := z1005) (by omega)
  have hpz1006 : z1006.toInt < P2 v4 := by rw [ez1006]; exact (ge0 _ (by omega)).2
  have ci := cl_int (x := z1005) (by omega)
  have hpz1009 : z1009.toInt < P2 v4 := by rw [ez1009]; exact (ge1 _ (by omega)).2
  have hlx : z1011.toInt < P2 v4 := by rw [ez1011]; exact (or_lt _ (p2_le (n := v4) (by omega)) (by omega) (Int.lt_of_le_of_lt (b := z1006.toInt) (by omega) hpz1006) (by omega) (Int.lt_of_le_of_lt (b := z1009.toInt) (by omega) hpz1009)).2
  have hv1013 : z1012.toInt < P2 v4 := Int.lt_of_le_of_lt (b := z1011.toInt) (by omega) hlx
  have hP := hP.sub (ws' := [(h0, .inr (6, [.ref h5, .ref h6, .int v1, .int v2, .ref h7, .int v3, .ref h1, .ref h4, .int v4, .int v5, .int v6, .int v7])), (h1, .inr (3, [.int v8, .int v9, u22, u23, u24, u25, u26, .ref h2, .ref h3])), (h2, .inl (c 0, 8, .inl f10)), (h3, .inl (c 0, 8, .inl f11))]) [3, 0, 1, 2] rfl
  have hD := hD.sub (ws' := [(h0, .inr (6, [.ref h5, .ref h6, .int v1, .int v2, .ref h7, .int v3, .ref h1, .ref h4, .int v4, .int v5, .int v6, .int v7])), (h1, .inr (3, [.int v8, .int v9, u22, u23, u24, u25, u26, .ref h2, .ref h3])), (h2, .inl (c 0, 8, .inl f10)), (h3, .inl (c 0, 8, .inl f11))]) [3, 0, 1, 2] (by decide) rfl
  exact rI hQ hx hb hr hlocks rfl hS (Nat.le_of_ble_eq_true rfl) (Nat.le_of_ble_eq_true rfl) dX7_leading_41 (fun t ht => ⟨⟨by omega, by omega⟩, hv1013, by rw [ht]; exact hP, hD⟩)
set_option maxHeartbeats 4000000 in
set_option maxRecDepth 100000 in
theorem m_X7_behind (l : Launch) (D : va_G) (c : Nat → ClassId) (h0 h1 h2 h3 h4 h5 h6 h7 : Nat) (sz : Nat) (v1 : Int32) (v2 : Int32) (v3 : Int32) (v4 : Int32) (v5 : Int32) (v6 : Int32) (v7 : Int32) (v10 : Int32) (v11 : Int32) (u28 : Value) (u29 : Value) (u30 : Value) (u31 : Value) (u32 : Value) (f12 : Nat → Int32) (f14 : Nat → Int32) (a1 : Int32) (a2 : Int32) (a3 : Int32) (sn1 : Nat) (sb1 : Int) (gv1 : 0 ≤ v1.toInt ∧ v1.toInt ≤ 1048576) (gv2 : 0 ≤ v2.toInt ∧ v2.toInt ≤ 1048576) (gv3 : 0 ≤ v3.toInt ∧ v3.toInt ≤ 6) (gv4 : 0 ≤ v4.toInt ∧ v4.toInt ≤ 14) (gv6 : 0 ≤ v6.toInt ∧ v6.toInt ≤ 1048575) (gv7 : 0 ≤ v7.toInt ∧ v7.toInt ≤ 255) (gv10 : 0 ≤ v10.toInt ∧ v10.toInt ≤ 14) (gv11 : 0 ≤ v11.toInt ∧ v11.toInt ≤ 16383) (gf12 : Rg f12 0 7) (gf14 : Rg f14 0 7) (ga1 : 0 ≤ a1.toInt ∧ a1.toInt ≤ 1048575) (ga2 : 0 ≤ a2.toInt ∧ a2.toInt ≤ 5) (ga3 : 0 ≤ a3.toInt ∧ a3.toInt ≤ 13) (ge0 : Pm sn1 sb1) (ge1 : a1.toInt < 16 * (sn1 : Int)) (ge2 : v4.toInt + 3 * a2.toInt + 3 ≤ sb1) (ge3 : a3.toInt < v4.toInt) (ge4 : v7.toInt = 0 ∨ v4.toInt + 11 ≤ sb1) (ge5 : sb1 ≤ 20) : Met l yX7_behind (Cond.code yX7_behind cX7_behind 5 (some .int) :: TB) ({ frames := 1, cells := 0, slots := 0, locals := 21 } : Room) (va_Pc [.ref h0, .int a1, .int a2, .int a3] (PW D c [(h0, .inr (6, [.ref h5, .ref h6, .int v1, .int v2, .ref h7, .int v3, .ref h1, .ref h4, .int v4, .int v5, .int v6, .int v7])), (h1, .inr (3, [.int v10, .int v11, .ref h2, .ref h3, u28, u29, u30, u31, u32])), (h2, .inl (c 0, 14, .inl f12)), (h3, .inl (c 0, 14, .inl f14))] sz)) ((QIx (fun A r t => (0 ≤ r.toInt ∧ r.toInt ≤ 1048575) ∧ (r.toInt < 16 * (sn1 : Int)) ∧ va_P D vwCl [(h0, .inr (6, [.ref h5, .ref h6, .int v1, .int v2, .ref h7, .int v3, .ref h1, .ref h4, .int v4, .int v5, .int v6, .int v7])), (h1, .inr (3, [.int v10, .int v11, .ref h2, .ref h3, u28, u29, u30, u31, u32])), (h2, .inl (c 0, 14, .inl f12)), (h3, .inl (c 0, 14, .inl f14))] t.heap ∧ va_D A [(h0, .inr (6, [.ref h5, .ref h6, .int v1, .int v2, .ref h7, .int v3, .ref h1, .ref h4, .int v4, .int v5, .int v6, .int v7])), (h1, .inr (3, [.int v10, .int v11, .ref h2, .ref h3, u28, u29, u30, u31, u32])), (h2, .inl (c 0, 14, .inl f12)), (h3, .inl (c 0, 14, .inl f14))])) (va_A [(h0, .inr (6, [.ref h5, .ref h6, .int v1, .int v2, .ref h7, .int v3, .ref h1, .ref h4, .int v4, .int v5, .int v6, .int v7])), (h1, .inr (3, [.int v10, .int v11, .ref h2, .ref h3, u28, u29, u30, u31, u32])), (h2, .inl (c 0, 14, .inl f12)), (h3, .inl (c 0, 14, .inl f14))] sz)) 0 0 (va_A [(h0, .inr (6, [.ref h5, .ref h6, .int v1, .int v2, .ref h7, .int v3, .ref h1, .ref h4, .int v4, .int v5, .int v6, .int v7])), (h1, .inr (3, [.int v10, .int v11, .ref h2, .ref h3, u28, u29, u30, u31, u32])), (h2, .inl (c 0, 14, .inl f12)), (h3, .inl (c 0, 14, .inl f14))] sz) := by
  refine start2 (by decide +kernel) (Nat.le_of_ble_eq_true rfl) ?_
  intro p e s m below meth cd A ls Q hx hb hr hml hts hown hlocks hin hA hS hK hP hD hN hl hQ
  have hown : s.vm.findClass RX7 = some m.cls := hown
  have hl : lv_has ls 5 [(0, .ref h0), (1, .int a1), (2, .int a2), (3, .int a3)] := hl
  have hP : va_P D vwCl [(h0, .inr (6, [.ref h5, .ref h6, .int v1, .int v2, .ref h7, .int v3, .ref h1, .ref h4, .int v4, .int v5, .int v6, .int v7])), (h1, .inr (3, [.int v10, .int v11, .ref h2, .ref h3, u28, u29, u30, u31, u32])), (h2, .inl (c 0, 14, .inl f12)), (h3, .inl (c 0, 14, .inl f14))] s.heap := hP
  refine lv_iload_n hx hb dX7_behind_0 rfl (lv_at hl 1 rfl) ?_
  refine lv_iconst (v := 1) hx hb dX7_behind_1 (by decide) ?_
  refine lv_iload_n hx hb dX7_behind_2 rfl (lv_at hl 3 rfl) ?_
  refine lv_ishl hx hb dX7_behind_3 ?_
  refine q_shl (X := 1) (Y := a3.toInt) (M := 8192) 1 13 (by decide) rfl (by omega) (by omega) (by omega) (by omega) (by decide) (by decide) (by decide) (fun z1001 ez1001 hz1001 => ?_)
  refine lv_ixor hx hb dX7_behind_4 ?_
  refine q_xor (X := a1.toInt) (Y := z1001.toInt) (M := 1048576) 20 rfl rfl (by decide) (by decide) (by omega) (by omega) (by omega) (by omega) (fun z1002 ez1002 hz1002 => ?_)
  refine lv_aload_n hx hb dX7_behind_5 rfl (lv_at hl 0 rfl) ?_
  refine va_get (D := D) (ci := 6) (v := .ref h1) (C := RX7) (T := TX7) (N := 12) hx hb hts i_X7 hown hK hP 0 rfl rfl 6 (by decide) (hts _ kw_406) (fun _ h9 => h9) rfl dX7_behind_6 ?_
  refine va_get (D := D) (ci := 3) (v := .ref h2) (C := RX4) (T := TX4) (N := 9) hx hb hts i_X4 hown hK hP 1 rfl rfl 2 (by decide) (hts _ kw_226) (fun _ h9 => h9) rfl dX7_behind_9 ?_
  refine lv_iload_n hx hb dX7_behind_12 rfl (lv_at hl 3 rfl) ?_
  refine va_iald hx hb hK hP 2 0 rfl rfl (in_of (by omega) (by omega)) dX7_behind_13 ?_
  refine rd gf12 (fun z1003 ez1003 hz1003 => ?_)
  refine lv_aload_n hx hb dX7_behind_14 rfl (lv_at hl 0 rfl) ?_
  refine va_get (D := D) (ci := 6) (v := .ref h1) (C := RX7) (T := TX7) (N := 12) hx hb hts i_X7 hown hK hP 0 rfl rfl 6 (by decide) (hts _ kw_406) (fun _ h9 => h9) rfl dX7_behind_15 ?_
  refine va_get (D := D) (ci := 3) (v := .ref h3) (C := RX4) (T := TX4) (N := 9) hx hb hts i_X4 hown hK hP 1 rfl rfl 3 (by decide) (hts _ kw_229) (fun _ h9 => h9) rfl dX7_behind_18 ?_
  refine lv_iload_n hx hb dX7_behind_21 rfl (lv_at hl 3 rfl) ?_
  refine va_iald hx hb hK hP 3 0 rfl rfl (in_of (by omega) (by omega)) dX7_behind_22 ?_
  refine rd gf14 (fun z1004 ez1004 hz1004 => ?_)
  refine lv_ixor hx hb dX7_behind_23 ?_
  refine q_xor (X := z1003.toInt) (Y := z1004.toInt) (M := 8) 3 rfl rfl (by decide) (by decide) (by omega) (by omega) (by omega) (by omega) (fun z1005 ez1005 hz1005 => ?_)
  refine lv_aload_n hx hb dX7_behind_24 rfl (lv_at hl 0 rfl) ?_
  refine lv_iload_n hx hb dX7_behind_25 rfl (lv_at hl 2 rfl) ?_
  refine fI (run_V (n := 1) (ci := 6) ⟨hx, hb, hml, hown, hts⟩ (m_X7_shift l D c h0 s.heap.size (.ref h5) (.ref h6) v1 v2 (.ref h7) v3 (.ref h1) (.ref h4) v4 v5 v6 v7 a2 gv1 gv2 gv3 gv4 gv6 gv7 ⟨by omega, by omega⟩) (hP.sub [0] rfl) (hD.sub [0] (by decide) rfl) hK hN rfl rfl kw_833 kw_835 kw_10 kw_120 kw_836 ⟨rfl, by decide +kernel⟩ ⟨(Nat.le_of_ble_eq_true rfl), (Nat.le_of_ble_eq_true rfl)⟩ rfl rfl rfl hl.1 rfl (Nat.le_of_ble_eq_true rfl) dX7_behind_26 ⟨(Nat.le_of_ble_eq_true rfl), (Nat.le_of_ble_eq_true rfl)⟩) hP hD hS hA [0] rfl (fun z1006 H locs t hB hj hS => ?_)
  obtain ⟨hq1007, hq1008, hP1, hD1⟩ := hB
  obtain ⟨hP, hD⟩ := hj (wr := [(h1, .inr (3, [.int v10, .int v11, .ref h2, .ref h3, u28, u29, u30, u31, u32])), (h2, .inl (c 0, 14, .inl f12)), (h3, .inl (c 0, 14, .inl f14))]) (w1 := [(h0, .inr (6, [.ref h5, .ref h6, .int v1, .int v2, .ref h7, .int v3, .ref h1, .ref h4, .int v4, .int v5, .int v6, .int v7]))]) [1, 2, 3] rfl (by decide) (by decide) hP1 hD1
  have hP : va_P D vwCl [(h1, .inr (3, [.int v10, .int v11, .ref h2, .ref h3, u28, u29, u30, u31, u32])), (h2, .inl (c 0, 14, .inl f12)), (h3, .inl (c 0, 14, .inl f14)), (h0, .inr (6, [.ref h5, .ref h6, .int v1, .int v2, .ref h7, .int v3, .ref h1, .ref h4, .int v4, .int v5, .int v6, .int v7]))] H := hP
  have hD : va_D A [(h1, .inr (3, [.int v10, .int v11, .ref h2, .ref h3, u28, u29, u30, u31, u32])), (h2, .inl (c 0, 14, .inl f12)), (h3, .inl (c 0, 14, .inl f14)), (h0, .inr (6, [.ref h5, .ref h6, .int v1, .int v2, .ref h7, .int v3, .ref h1, .ref h4, .int v4, .int v5, .int v6, .int v7]))] := hD
  have hy17 : z1006.toInt ≤ 17 := by omega
  refine lv_ishl hx hb dX7_behind_29 ?_
  refine q_shl (X := z1005.toInt) (Y := z1006.toInt) (M := 917504) 7 17 rfl rfl (by omega) (by omega) (by omega) (by omega) (by decide) (by decide) (by decide) (fun z1009 ez1009 hz1009 => ?_)
  refine lv_ixor hx hb dX7_behind_30 ?_
  refine q_xor (X := z1002.toInt) (Y := z1009.toInt) (M := 1048576) 20 rfl rfl (by decide) (by decide) (by omega) (by omega) (by omega) (by omega) (fun z1010 ez1010 hz1010 => ?_)
  refine lv_istore (lv' := [(4, .int z1010), (0, .ref h0), (1, .int a1), (2, .int a2), (3, .int a3)]) hx hb dX7_behind_31 hl (by decide) rfl (fun ls hl => ?_)
  refine lv_aload_n hx hb dX7_behind_33 rfl (lv_at hl 1 rfl) ?_
  refine va_get (D := D) (ci := 6) (v := .int v7) (C := RX7) (T := TX7) (N := 12) hx hb hts i_X7 hown hK hP 3 rfl rfl 11 (by decide) (hts _ kw_411) (fun _ h9 => h9) rfl dX7_behind_34 ?_
  refine B_if_eq (tgt := 69) (X := v7.toInt) hx hb dX7_behind_37 (by decide) rfl (fun hc1011 => ?_) (fun hc1011 => ?_)
  · refine lv_iload hx hb dX7_behind_69 (lv_at hl 0 rfl) ?_
    obtain ⟨K, k1, k2, k3, k4⟩ := ge0
    have kp : 2 ^ K ≤ 2 ^ 31 := Nat.pow_le_pow_right (by omega) (by omega)
    have k8 : ((2 ^ 3 : Nat) : Int) = 8 := by decide
    have k256 : ((2 ^ 8 : Nat) : Int) = 256 := by decide
    have k2 : ((2 ^ 1 : Nat) : Int) = 2 := by decide
    have kone : (1 : Int32).toInt = 1 := by decide
    have b1 := shl_lt (x := 1) (y := a3) (z := z1001) (a := 1) (K := K) (by omega) (by omega) (by omega) (by omega) (by omega) ez1001
    have b2 := xor_lt (x := a1) (y := z1001) K kp (by omega) (by omega) b1.1 b1.2
    rw [← ez1002] at b2
    have b4 := shl_lt (x := z1005) (y := z1006) (z := z1009) (a := 3) (K := K) (by omega) (by omega) (by omega) (by omega) (by omega) ez1009
    have b5 := xor_lt (x := z1002) (y := z1009) K kp b2.1 b2.2 b4.1 b4.2
    rw [← ez1010] at b5
    have hlast : z1010.toInt < 16 * (sn1 : Int) := by omega
    have k20 := Nat.pow_le_pow_right (n := 2) (by omega) k3
    have hP := hP.sub (ws' := [(h0, .inr (6, [.ref h5, .ref h6, .int v1, .int v2, .ref h7, .int v3, .ref h1, .ref h4, .int v4, .int v5, .int v6, .int v7])), (h1, .inr (3, [.int v10, .int v11, .ref h2, .ref h3, u28, u29, u30, u31, u32])), (h2, .inl (c 0, 14, .inl f12)), (h3, .inl (c 0, 14, .inl f14))]) [3, 0, 1, 2] rfl
    have hD := hD.sub (ws' := [(h0, .inr (6, [.ref h5, .ref h6, .int v1, .int v2, .ref h7, .int v3, .ref h1, .ref h4, .int v4, .int v5, .int v6, .int v7])), (h1, .inr (3, [.int v10, .int v11, .ref h2, .ref h3, u28, u29, u30, u31, u32])), (h2, .inl (c 0, 14, .inl f12)), (h3, .inl (c 0, 14, .inl f14))]) [3, 0, 1, 2] (by decide) rfl
    have etz1003 : z1003.toInt = (f12 (Int32.toNatClampNeg a3)).toInt := congrArg Int32.toInt ez1003
    have etz1004 : z1004.toInt = (f14 (Int32.toNatClampNeg a3)).toInt := congrArg Int32.toInt ez1004
    exact rI hQ hx hb hr hlocks rfl hS (Nat.le_of_ble_eq_true rfl) (Nat.le_of_ble_eq_true rfl) dX7_behind_71 (fun t ht => ⟨⟨by omega, by omega⟩, (by omega), by rw [ht]; exact hP, hD⟩)
  · refine lv_iload hx hb dX7_behind_40 (lv_at hl 0 rfl) ?_
    refine lv_iconst (v := 1) hx hb dX7_behind_42 (by decide) ?_
    refine lv_iload hx hb dX7_behind_43 (lv_at hl 0 rfl) ?_
    refine lv_aload_n hx hb dX7_behind_45 rfl (lv_at hl 1 rfl) ?_
    refine va_get (D := D) (ci := 6) (v := .int v4) (C := RX7) (T := TX7) (N := 12) hx hb hts i_X7 hown hK hP 3 rfl rfl 8 (by decide) (hts _ kw_408) (fun _ h9 => h9) rfl dX7_behind_46 ?_
    refine lv_ishr hx hb dX7_behind_49 ?_
    refine q_shr (X := z1010.toInt) rfl (by omega) (fun z1012 ez1012 hz1012 => ?_)
    refine lv_bipush (v := 7) hx hb dX7_behind_50 (by decide) ?_
    refine lv_iand hx hb dX7_behind_52 ?_
    refine q_mask (X := z1012.toInt) (M := 8) 3 rfl (by decide) (by decide) (by decide) (fun z1013 ez1013 hz1013 => ?_)
    refine lv_ishl hx hb dX7_behind_53 ?_
    refine q_shl (X := 1) (Y := z1013.toInt) (M := 128) 1 7 (by decide) rfl (by omega) (by omega) (by omega) (by omega) (by decide) (by decide) (by decide) (fun z1014 ez1014 hz1014 => ?_)
    refine lv_aload_n hx hb dX7_behind_54 rfl (lv_at hl 1 rfl) ?_
    refine va_get (D := D) (ci := 6) (v := .int v7) (C := RX7) (T := TX7) (N := 12) hx hb hts i_X7 hown hK hP 3 rfl rfl 11 (by decide) (hts _ kw_411) (fun _ h9 => h9) rfl dX7_behind_55 ?_
    refine lv_iand hx hb dX7_behind_58 ?_
    refine q_and2 (X := z1014.toInt) (Y := v7.toInt) rfl rfl (by omega) (by omega) (fun z1015 ez1015 hz1015 => ?_)
    refine lv_aload_n hx hb dX7_behind_59 rfl (lv_at hl 1 rfl) ?_
    refine va_get (D := D) (ci := 6) (v := .int v4) (C := RX7) (T := TX7) (N := 12) hx hb hts i_X7 hown hK hP 3 rfl rfl 8 (by decide) (hts _ kw_408) (fun _ h9 => h9) rfl dX7_behind_60 ?_
    refine lv_iconst (v := 3) hx hb dX7_behind_63 (by decide) ?_
    refine lv_iadd hx hb dX7_behind_64 ?_
    refine q_add (X := v4.toInt) (Y := 3) rfl (by decide) (by omega) (by omega) (fun z1016 ez1016 hz1016 => ?_)
    have hy12 : z1016.toInt ≤ 12 := by omega
    refine lv_ishl hx hb dX7_behind_65 ?_
    refine q_shl (X := z1015.toInt) (Y := z1016.toInt) (M := 524288) 128 12 rfl rfl (by omega) (by omega) (by omega) (by omega) (by decide) (by decide) (by decide) (fun z1017 ez1017 hz1017 => ?_)
    refine lv_ior hx hb dX7_behind_66 ?_
    refine q_or (X := z1010.toInt) (Y := z1017.toInt) (M := 1048576) 20 rfl rfl (by decide) (by decide) (by omega) (by omega) (by omega) (by omega) (fun z1018 ez1018 hz1018 => ?_)
    refine lv_istore (lv' := [(4, .int z1018), (0, .ref h0), (1, .int a1), (2, .int a2), (3, .int a3)]) hx hb dX7_behind_67 hl (by decide) rfl (fun ls hl => ?_)
    refine lv_iload hx hb dX7_behind_69 (lv_at hl 0 rfl) ?_
    obtain ⟨K, k1, k2, k3, k4⟩ := ge0
    have kp : 2 ^ K ≤ 2 ^ 31 := Nat.pow_le_pow_right (by omega) (by omega)
    have k8 : ((2 ^ 3 : Nat) : Int) = 8 := by decide
    have k256 : ((2 ^ 8 : Nat) : Int) = 256 := by decide
    have k2 : ((2 ^ 1 : Nat) : Int) = 2 := by decide
    have kone : (1 : Int32).toInt = 1 := by decide
    have b1 := shl_lt (x := 1) (y := a3) (z := z1001) (a := 1) (K := K) (by omega) (by omega) (by omega) (by omega) (by omega) ez1001
    have b2 := xor_lt (x := a1) (y := z1001) K kp (by omega) (by omega) b1.1 b1.2
    rw [← ez1002] at b2
    have b4 := shl_lt (x := z1005) (y := z1006) (z := z1009) (a := 3) (K := K) (by omega) (by omega) (by omega) (by omega) (by omega) ez1009
    have b5 := xor_lt (x := z1002) (y := z1009) K kp b2.1 b2.2 b4.1 b4.2
    rw [← ez1010] at b5
    have b11 := shl_lt (x := z1015) (y := z1016) (z := z1017) (a := 8) (K := K) (by omega) (by omega) (by omega) (by omega) (by omega) ez1017
    have b12 := or_lt (x := z1010) (y := z1017) K kp b5.1 b5.2 b11.1 b11.2
    rw [← ez1018] at b12
    have hlast : z1018.toInt < 16 * (sn1 : Int) := by omega
    have k20 := Nat.pow_le_pow_right (n := 2) (by omega) k3
    have hP := hP.sub (ws' := [(h0, .inr (6, [.ref h5, .ref h6, .int v1, .int v2, .ref h7, .int v3, .ref h1, .ref h4, .int v4, .int v5, .int v6, .int v7])), (h1, .inr (3, [.int v10, .int v11, .ref h2, .ref h3, u28, u29, u30, u31, u32])), (h2, .inl (c 0, 14, .inl f12)), (h3, .inl (c 0, 14, .inl f14))]) [3, 0, 1, 2] rfl
    have hD := hD.sub (ws' := [(h0, .inr (6, [.ref h5, .ref h6, .int v1, .int v2, .ref h7, .int v3, .ref h1, .ref h4, .int v4, .int v5, .int v6, .int v7])), (h1, .inr (3, [.int v10, .int v11, .ref h2, .ref h3, u28, u29, u30, u31, u32])), (h2, .inl (c 0, 14, .inl f12)), (h3, .inl (c 0, 14, .inl f14))]) [3, 0, 1, 2] (by decide) rfl
    have etz1003 : z1003.toInt = (f12 (Int32.toNatClampNeg a3)).toInt := congrArg Int32.toInt ez1003
    have etz1004 : z1004.toInt = (f14 (Int32.toNatClampNeg a3)).toInt := congrArg Int32.toInt ez1004
    exact rI hQ hx hb hr hlocks rfl hS (Nat.le_of_ble_eq_true rfl) (Nat.le_of_ble_eq_true rfl) dX7_behind_71 (fun t ht => ⟨⟨by omega, by omega⟩, (by omega), by rw [ht]; exact hP, hD⟩)
set_option maxHeartbeats 4000000 in
set_option maxRecDepth 100000 in
theorem m_X7_mark (l : Launch) (D : va_G) (c : Nat → ClassId) (h0 h1 : Nat) (sz : Nat) (u16 : Value) (v1 : Int32) (v2 : Int32) (u17 : Value) (v3 : Int32) (u18 : Value) (u19 : Value) (v4 : Int32) (v5 : Int32) (v6 : Int32) (v7 : Int32) (f9 : Nat → Int32) (n8 : Nat) (a1 : Int32) (gv1 : 0 ≤ v1.toInt ∧ v1.toInt ≤ 1048576) (gv2 : 0 ≤ v2.toInt ∧ v2.toInt ≤ 1048576) (gv3 : 0 ≤ v3.toInt ∧ v3.toInt ≤ 6) (gv4 : 0 ≤ v4.toInt ∧ v4.toInt ≤ 14) (gv6 : 0 ≤ v6.toInt ∧ v6.toInt ≤ 1048575) (gv7 : 0 ≤ v7.toInt ∧ v7.toInt ≤ 255) (ga1 : 0 ≤ a1.toInt ∧ a1.toInt ≤ 1048575) (ge0 : a1.toInt < 16 * (n8 : Int)) : Met l yX7_mark (Cond.code yX7_mark cX7_mark 2 (some .int) :: TB) ({ frames := 0, cells := 0, slots := 0, locals := 0 } : Room) (va_Pc [.ref h0, .int a1] (PW D c [(h0, .inr (6, [.ref h1, u16, .int v1, .int v2, u17, .int v3, u18, u19, .int v4, .int v5, .int v6, .int v7])), (h1, .inl (c 0, n8, .inl f9))] sz)) ((QIx (fun A r t => (0 ≤ r.toInt ∧ r.toInt ≤ 3) ∧ (r.toInt = ((MkV f9 a1 : Nat) : Int)) ∧ va_P D vwCl [(h0, .inr (6, [.ref h1, u16, .int v1, .int v2, u17, .int v3, u18, u19, .int v4, .int v5, .int v6, .int v7])), (h1, .inl (c 0, n8, .inl f9))] t.heap ∧ va_D A [(h0, .inr (6, [.ref h1, u16, .int v1, .int v2, u17, .int v3, u18, u19, .int v4, .int v5, .int v6, .int v7])), (h1, .inl (c 0, n8, .inl f9))])) (va_A [(h0, .inr (6, [.ref h1, u16, .int v1, .int v2, u17, .int v3, u18, u19, .int v4, .int v5, .int v6, .int v7])), (h1, .inl (c 0, n8, .inl f9))] sz)) 0 0 (va_A [(h0, .inr (6, [.ref h1, u16, .int v1, .int v2, u17, .int v3, u18, u19, .int v4, .int v5, .int v6, .int v7])), (h1, .inl (c 0, n8, .inl f9))] sz) := by
  refine start2 (by decide +kernel) (Nat.le_of_ble_eq_true rfl) ?_
  intro p e s m below meth cd A ls Q hx hb hr hml hts hown hlocks hin hA hS hK hP hD hN hl hQ
  have hown : s.vm.findClass RX7 = some m.cls := hown
  have hl : lv_has ls 2 [(0, .ref h0), (1, .int a1)] := hl
  have hP : va_P D vwCl [(h0, .inr (6, [.ref h1, u16, .int v1, .int v2, u17, .int v3, u18, u19, .int v4, .int v5, .int v6, .int v7])), (h1, .inl (c 0, n8, .inl f9))] s.heap := hP
  refine lv_aload_n hx hb dX7_mark_0 rfl (lv_at hl 0 rfl) ?_
  refine va_get (D := D) (ci := 6) (v := .ref h1) (C := RX7) (T := TX7) (N := 12) hx hb hts i_X7 hown hK hP 0 rfl rfl 0 (by decide) (hts _ kw_400) (fun _ h9 => h9) rfl dX7_mark_1 ?_
  refine lv_iload_n hx hb dX7_mark_4 rfl (lv_at hl 1 rfl) ?_
  refine lv_iconst (v := 4) hx hb dX7_mark_5 (by decide) ?_
  refine lv_ishr hx hb dX7_mark_6 ?_
  refine q_shrc (X := a1.toInt) (M := 16) 4 rfl (by decide) (by decide) (fun z1001 ez1001 hz1001 => ?_)
  refine va_iald hx hb hK hP 1 0 rfl rfl (in_of (by omega) (by omega)) dX7_mark_7 ?_
  refine o_any (fun z1002 ez1002 => ?_)
  refine lv_iconst (v := 2) hx hb dX7_mark_8 (by decide) ?_
  refine lv_iload_n hx hb dX7_mark_9 rfl (lv_at hl 1 rfl) ?_
  refine lv_bipush (v := 15) hx hb dX7_mark_10 (by decide) ?_
  refine lv_iand hx hb dX7_mark_12 ?_
  refine q_mask (X := a1.toInt) (M := 16) 4 rfl (by decide) (by decide) (by decide) (fun z1003 ez1003 hz1003 => ?_)
  refine lv_imul hx hb dX7_mark_13 ?_
  refine q_mul (X := 2) (Y := z1003.toInt) (by decide) rfl rfl (by omega) (by omega) (fun z1004 ez1004 hz1004 => ?_)
  refine lv_ishr hx hb dX7_mark_14 ?_
  refine o_any (fun z1005 ez1005 => ?_)
  refine lv_iconst (v := 3) hx hb dX7_mark_15 (by decide) ?_
  refine lv_iand hx hb dX7_mark_16 ?_
  refine q_mask (X := z1005.toInt) (M := 4) 2 rfl (by decide) (by decide) (by decide) (fun z1006 ez1006 hz1006 => ?_)
  have hma := mk_at (w := z1002) (y := z1004) (z := z1005) (k := a1.toInt.toNat % 16) (by omega) (by omega) ez1005
  have hw : z1002 = f9 (a1.toInt.toNat / 16) := by rw [ez1002]; congr 1 <;> (have ci := cl_int (x := z1001) (by omega); omega)
  have hv1007 : z1006.toInt = ((MkV f9 a1 : Nat) : Int) := by unfold MkV; rw [← hw]; omega
  exact rI hQ hx hb hr hlocks rfl hS (Nat.le_of_ble_eq_true rfl) (Nat.le_of_ble_eq_true rfl) dX7_mark_17 (fun t ht => ⟨⟨by omega, by omega⟩, hv1007, by rw [ht]; exact hP, hD⟩)
set_option maxHeartbeats 4000000 in
set_option maxRecDepth 100000 in
theorem m_J7_copyOf_59c91 (l : Launch) (D : va_G) (c : Nat → ClassId) (h0 : Nat) (sz : Nat) (f2 : Nat → Int32) (n1 : Nat) (a1 : Int32) (ga1 : 512 ≤ a1.toInt ∧ a1.toInt ≤ 1048576) (ge0 : (n1 : Int) < a1.toInt) : Met l yJ7_copyOf_59c91 (Cond.code yJ7_copyOf_59c91 cJ7_copyOf_59c91 3 (some (.array .int)) :: TB) ({ frames := 1, cells := 1, slots := a1.toInt.toNat, locals := 18 } : Room) (va_Pc [.ref h0, .int a1] (PW D c [(h0, .inl (c 0, n1, .inl f2))] sz)) ((QQx (fun A r t => ((∃ (q80 : Nat) (f800 : Nat → Int32) (n800 : Nat), r = some q80 ∧ (∀ i : Nat, i < n1 → f800 i = f2 i) ∧ ((n800 : Int) = a1.toInt) ∧ va_P D vwCl [(h0, .inl (c 0, n1, .inl f2)), (q80, .inl (c 0, n800, .inl f800))] t.heap ∧ va_D A [(h0, .inl (c 0, n1, .inl f2)), (q80, .inl (c 0, n800, .inl f800))])))) (va_A [(h0, .inl (c 0, n1, .inl f2))] sz)) (1) (a1.toInt.toNat) (va_A [(h0, .inl (c 0, n1, .inl f2))] sz) := by
  refine start2 (by decide +kernel) (Nat.le_of_ble_eq_true rfl) ?_
  intro p e s m below meth cd A ls Q hx hb hr hml hts hown hlocks hin hA hS hK hP hD hN hl hQ
  have hown : s.vm.findClass RJ7 = some m.cls := hown
  have hl : lv_has ls 3 [(0, .ref h0), (1, .int a1)] := hl
  have hP : va_P D vwCl [(h0, .inl (c 0, n1, .inl f2))] s.heap := hP
  refine W.widen (k := 0) (n := 0) (Nat.zero_le _) (Nat.zero_le _) ?_
  refine lv_iload_n hx hb dJ7_copyOf_59c91_0 rfl (lv_at hl 1 rfl) ?_
  refine lv_aload_n hx hb dJ7_copyOf_59c91_1 rfl (lv_at hl 0 rfl) ?_
  obtain ⟨z1001, ez1001, hz1001⟩ : ∃ y : Int32, Int32.ofNat n1 = y ∧ y.toInt = (n1 : Int) := ⟨_, rfl, nI_toInt (by omega)⟩
  refine va_alen (v := z1001) hx hb hK hP 0 0 rfl rfl ez1001 dJ7_copyOf_59c91_2 ?_
  refine B_icmp_ne (tgt := 14) (X := a1.toInt) (Y := z1001.toInt) hx hb dJ7_copyOf_59c91_3 (by decide) rfl rfl (fun _ => ?_) (fun hc1002 => absurd hc1002 (by omega))
  refine lv_iload_n hx hb dJ7_copyOf_59c91_14 rfl (lv_at hl 1 rfl) ?_
  obtain ⟨n1004, en1004, hn1004⟩ : ∃ y : Nat, Int32.toNatClampNeg a1 = y ∧ (y : Int) = a1.toInt := ⟨_, rfl, cl_int (by omega)⟩
  refine nw_arr (c := c) (a0 := (n1004, .inl (fun _ => 0))) (atype := .int) hx hb (hts _ kw_175) rfl 0 rfl (by intro C h; cases h) hK hP hD hS hA (fun _ => rfl) (nl_of (X := a1.toInt) (Y := 0) rfl (by decide) (by omega)) en1004 (show n1004 * 4 ≤ 536870912 by omega) (show 0 + 1 ≤ 1 by omega) (show 0 + n1004 ≤ a1.toInt.toNat by omega) dJ7_copyOf_59c91_15 (fun q1003 H hP hD hS => ?_)
  have hP : va_P D vwCl [(h0, .inl (c 0, n1, .inl f2)), (q1003, .inl (c 0, n1004, .inl (fun _ => 0)))] H := hP
  have hD : va_D A [(h0, .inl (c 0, n1, .inl f2)), (q1003, .inl (c 0, n1004, .inl (fun _ => 0)))] := hD
  refine W.widen (k := 1) (n := n1004) (by omega) (by omega) ?_
  refine lv_astore_n (lv' := [(2, .ref q1003), (0, .ref h0), (1, .int a1)]) hx hb dJ7_copyOf_59c91_17 rfl hl (by decide) rfl (fun ls hl => ?_)
  refine lv_aload_n hx hb dJ7_copyOf_59c91_18 rfl (lv_at hl 1 rfl) ?_
  refine lv_iconst (v := 0) hx hb dJ7_copyOf_59c91_19 (by decide) ?_
  refine lv_aload_n hx hb dJ7_copyOf_59c91_20 rfl (lv_at hl 0 rfl) ?_
  refine lv_iconst (v := 0) hx hb dJ7_copyOf_59c91_21 (by decide) ?_
  refine lv_aload_n hx hb dJ7_copyOf_59c91_22 rfl (lv_at hl 1 rfl) ?_
  obtain ⟨z1005, ez1005, hz1005⟩ : ∃ y : Int32, Int32.ofNat n1 = y ∧ y.toInt = (n1 : Int) := ⟨_, rfl, nI_toInt (by omega)⟩
  refine va_alen (v := z1005) hx hb hK hP 0 0 rfl rfl ez1005 dJ7_copyOf_59c91_23 ?_
  refine lv_iload_n hx hb dJ7_copyOf_59c91_24 rfl (lv_at hl 2 rfl) ?_
  refine va_mmin hx hb (by rw [hml]; exact hl.1.symm) hown (hts _ kw_862) (hts _ kw_846) (hts _ kw_131) (hts _ kw_847) (Nat.le_of_ble_eq_true rfl) (Nat.le_of_ble_eq_true rfl) (show 1 ≤ 1 by omega) (show n1004 ≤ a1.toInt.toNat by omega) dJ7_copyOf_59c91_25 ?_
  refine o_min (X := z1005.toInt) (Y := a1.toInt) rfl rfl (fun z1006 hz1006 => ?_)
  refine va_copyi (ty := .int) hx hb (by rw [hml]; exact hl.1.symm) hown (hts _ kw_863) (hts _ kw_629) (hts _ kw_628) (hts _ kw_128) hK hP hD hS 0 1 0 0 rfl rfl rfl rfl rfl (by decide) (by decide) (nl_of (X := z1006.toInt) (Y := 0) rfl (by decide) (by omega)) (cp0 (by omega) (by omega)) (cp0 (by omega) (by omega)) (fun _ _ => rfl) (Nat.le_of_ble_eq_true rfl) (Nat.le_of_ble_eq_true rfl) dJ7_copyOf_59c91_28 (fun H locs hP hD hS => ?_)
  obtain ⟨f1007, ef1007, hP, hD⟩ : ∃ y : Nat → Int32, y = va_cpy f2 (fun _ => 0) (Int32.toNatClampNeg 0) (Int32.toNatClampNeg 0) (Int32.toNatClampNeg z1006) ∧ va_P D vwCl [(h0, .inl (c 0, n1, .inl f2)), (q1003, .inl (c 0, n1004, .inl y))] H ∧ va_D A [(h0, .inl (c 0, n1, .inl f2)), (q1003, .inl (c 0, n1004, .inl y))] := ⟨_, rfl, hP, hD⟩
  refine lv_aload_n hx hb dJ7_copyOf_59c91_31 rfl (lv_at hl 0 rfl) ?_
  have hv1008 : ∀ i : Nat, i < n1 → f1007 i = f2 i := fun i hi => by rw [ef1007]; exact cpy_at (by omega)
  exact rQ (k := some q1003) hQ hx hb hr (Or.inr ⟨_, rfl⟩) hlocks hS (by omega) (by omega) dJ7_copyOf_59c91_32 (fun t ht => ⟨q1003, f1007, n1004, rfl, hv1008, (by omega), by rw [ht]; exact hP, hD⟩)
set_option maxHeartbeats 4000000 in
set_option maxRecDepth 100000 in
theorem m_X7_note (l : Launch) (D : va_G) (c : Nat → ClassId) (h0 h1 h2 : Nat) (sz : Nat) (ts0 : Nat) (v1 : Int32) (v2 : Int32) (u32 : Value) (v3 : Int32) (u33 : Value) (u34 : Value) (v4 : Int32) (v5 : Int32) (v6 : Int32) (v7 : Int32) (f9 : Nat → Int32) (n8 : Nat) (f11 : Nat → Int32) (n10 : Nat) (a1 : Int32) (a2 : Int32) (gv1 : 0 ≤ v1.toInt ∧ v1.toInt ≤ 1048576) (gv2 : 0 ≤ v2.toInt ∧ v2.toInt ≤ 1048576) (gv3 : 0 ≤ v3.toInt ∧ v3.toInt ≤ 6) (gv4 : 0 ≤ v4.toInt ∧ v4.toInt ≤ 14) (gv6 : 0 ≤ v6.toInt ∧ v6.toInt ≤ 1048575) (gv7 : 0 ≤ v7.toInt ∧ v7.toInt ≤ 255) (ga1 : 0 ≤ a1.toInt ∧ a1.toInt ≤ 1048575) (ga2 : 1 ≤ a2.toInt ∧ a2.toInt ≤ 3) (ge0 : 16 * (n8 : Int) ≤ 1048576) (ge1 : a1.toInt < 16 * (n8 : Int)) (ge2 : QOK f9 f11 v1 n8) (ge3 : NewQ f11 v1 a1) (ge4 : Pq n10) (ge5 : v1.toInt ≤ (n10 : Int)) : Met l yX7_note (Cond.code yX7_note cX7_note 3 none :: TB) ({ frames := 2, cells := 69632 - (n8 + n10 / 256), slots := 2228224 - (2 * n8 + 2 * n10), locals := 40 } : Room) (va_Pc [.ref h0, .int a1, .int a2] (PWt D c [(h0, .inr (6, [.ref h1, .ref h2, .int v1, .int v2, u32, .int v3, u33, u34, .int v4, .int v5, .int v6, .int v7])), (h1, .inl (c 0, n8, .inl f9)), (h2, .inl (c 0, n10, .inl f11))] sz ts0)) ((QV (fun A t => ∃ (z900 : Int32) (f901 : Nat → Int32) (q902 : Nat) (n903 : Nat) (f904 : Nat → Int32), (0 ≤ z900.toInt ∧ z900.toInt ≤ 1048576) ∧ (QOK f901 f904 z900 n8) ∧ (z900.toInt = v1.toInt + 1) ∧ (Pq n903) ∧ (z900.toInt ≤ (n903 : Int)) ∧ (n10 ≤ n903) ∧ (∀ i : Nat, i ≠ v1.toInt.toNat → i < n10 → f904 i = f11 i) ∧ (f904 v1.toInt.toNat = a1) ∧ (TS t.heap + (2 * n8 + 2 * n10) ≤ ts0 + (2 * n8 + 2 * n903)) ∧ (t.heap.size + (n8 + n10 / 256) ≤ sz + (n8 + n903 / 256)) ∧ va_P D vwCl [(h0, .inr (6, [.ref h1, .ref q902, .int z900, .int v2, u32, .int v3, u33, u34, .int v4, .int v5, .int v6, .int v7])), (h1, .inl (c 0, n8, .inl f901)), (q902, .inl (c 0, n903, .inl f904))] t.heap ∧ va_D A [(h0, .inr (6, [.ref h1, .ref q902, .int z900, .int v2, u32, .int v3, u33, u34, .int v4, .int v5, .int v6, .int v7])), (h1, .inl (c 0, n8, .inl f901)), (q902, .inl (c 0, n903, .inl f904))])) (va_A [(h0, .inr (6, [.ref h1, .ref h2, .int v1, .int v2, u32, .int v3, u33, u34, .int v4, .int v5, .int v6, .int v7])), (h1, .inl (c 0, n8, .inl f9)), (h2, .inl (c 0, n10, .inl f11))] sz)) (69632 - (n8 + n10 / 256)) (2228224 - (2 * n8 + 2 * n10)) (va_A [(h0, .inr (6, [.ref h1, .ref h2, .int v1, .int v2, u32, .int v3, u33, u34, .int v4, .int v5, .int v6, .int v7])), (h1, .inl (c 0, n8, .inl f9)), (h2, .inl (c 0, n10, .inl f11))] sz) := by
  refine start2p (by decide +kernel) (Nat.le_of_ble_eq_true rfl) ?_
  intro p e s m below meth cd A ls Q hx hb hr hml hts hown hlocks hin hA hS hK hP hD hN hz0 hT0 hl hQ
  have hown : s.vm.findClass RX7 = some m.cls := hown
  have hl : lv_has ls 3 [(0, .ref h0), (1, .int a1), (2, .int a2)] := hl
  have hP : va_P D vwCl [(h0, .inr (6, [.ref h1, .ref h2, .int v1, .int v2, u32, .int v3, u33, u34, .int v4, .int v5, .int v6, .int v7])), (h1, .inl (c 0, n8, .inl f9)), (h2, .inl (c 0, n10, .inl f11))] s.heap := hP
  have hle1001 := ge4.le
  refine W.widen (k := (n8 + n10 / 256 - (n8 + n10 / 256))) (n := (2 * n8 + 2 * n10 - (2 * n8 + 2 * n10))) (Nat.zero_le _) (Nat.zero_le _) ?_
  refine lv_aload_n hx hb dX7_note_0 rfl (lv_at hl 0 rfl) ?_
  refine va_get (D := D) (ci := 6) (v := .ref h1) (C := RX7) (T := TX7) (N := 12) hx hb hts i_X7 hown hK hP 0 rfl rfl 0 (by decide) (hts _ kw_400) (fun _ h9 => h9) rfl dX7_note_1 ?_
  refine lv_iload_n hx hb dX7_note_4 rfl (lv_at hl 1 rfl) ?_
  refine lv_iconst (v := 4) hx hb dX7_note_5 (by decide) ?_
  refine lv_ishr hx hb dX7_note_6 ?_
  refine q_shrc (X := a1.toInt) (M := 16) 4 rfl (by decide) (by decide) (fun z1002 ez1002 hz1002 => ?_)
  refine lv_dup2_11 hx hb dX7_note_7 rfl rfl ?_
  refine va_iald hx hb hK hP 1 0 rfl rfl (in_of (by omega) (by omega)) dX7_note_8 ?_
  refine o_any (fun z1003 ez1003 => ?_)
  refine lv_iload_n hx hb dX7_note_9 rfl (lv_at hl 2 rfl) ?_
  refine lv_iconst (v := 2) hx hb dX7_note_10 (by decide) ?_
  refine lv_iload_n hx hb dX7_note_11 rfl (lv_at hl 1 rfl) ?_
  refine lv_bipush (v := 15) hx hb dX7_note_12 (by decide) ?_
  refine lv_iand hx hb dX7_note_14 ?_
  refine q_mask (X := a1.toInt) (M := 16) 4 rfl (by decide) (by decide) (by decide) (fun z1004 ez1004 hz1004 => ?_)
  refine lv_imul hx hb dX7_note_15 ?_
  refine q_mul (X := 2) (Y := z1004.toInt) (by decide) rfl rfl (by omega) (by omega) (fun z1005 ez1005 hz1005 => ?_)
  refine lv_ishl hx hb dX7_note_16 ?_
  refine o_any (fun z1006 ez1006 => ?_)
  refine lv_ior hx hb dX7_note_17 ?_
  refine o_any (fun z1007 ez1007 => ?_)
  refine va_iast hx hb hK hP hD hS 1 0 rfl rfl (in_of (by omega) (by omega)) dX7_note_18 (fun H locs hP hD hS => ?_)
  obtain ⟨f1008, ef1008, hP, hD⟩ : ∃ y : Nat → Int32, y = upd f9 (Int32.toNatClampNeg z1002) z1007 ∧ va_P D vwCl [(h0, .inr (6, [.ref h1, .ref h2, .int v1, .int v2, u32, .int v3, u33, u34, .int v4, .int v5, .int v6, .int v7])), (h1, .inl (c 0, n8, .inl y)), (h2, .inl (c 0, n10, .inl f11))] H ∧ va_D A [(h0, .inr (6, [.ref h1, .ref h2, .int v1, .int v2, u32, .int v3, u33, u34, .int v4, .int v5, .int v6, .int v7])), (h1, .inl (c 0, n8, .inl y)), (h2, .inl (c 0, n10, .inl f11))] := ⟨_, rfl, hP, hD⟩
  have ci := cl_int (x := z1002) (by omega)
  have hix : Int32.toNatClampNeg z1002 = a1.toInt.toNat / 16 := by omega
  have hw2 : z1007 = f9 (Int32.toNatClampNeg z1002) ||| z1006 := by rw [ez1007, ez1003]
  have hup : MkUp f9 f1008 := by rw [ef1008]; exact MkUp.put hw2
  have hmb := mk_bit (m := a2) (y := z1005) (z := z1006) (k := a1.toInt.toNat % 16) (by omega) (by omega) (by omega) (by omega) ez1006
  have hmx : MkV f1008 a1 ≠ 0 := by rw [ef1008]; exact mk_put hix hw2 (by omega)
  have hroom := QOK.room ge2 ge3 (by omega) (by omega)
  have hpq := ge4.le
  refine lv_aload_n hx hb dX7_note_19 rfl (lv_at hl 0 rfl) ?_
  refine va_get (D := D) (ci := 6) (v := .int v1) (C := RX7) (T := TX7) (N := 12) hx hb hts i_X7 hown hK hP 0 rfl rfl 2 (by decide) (hts _ kw_402) (fun _ h9 => h9) rfl dX7_note_20 ?_
  refine lv_aload_n hx hb dX7_note_23 rfl (lv_at hl 0 rfl) ?_
  refine va_get (D := D) (ci := 6) (v := .ref h2) (C := RX7) (T := TX7) (N := 12) hx hb hts i_X7 hown hK hP 0 rfl rfl 1 (by decide) (hts _ kw_401) (fun _ h9 => h9) rfl dX7_note_24 ?_
  obtain ⟨z1009, ez1009, hz1009⟩ : ∃ y : Int32, Int32.ofNat n10 = y ∧ y.toInt = (n10 : Int) := ⟨_, rfl, nI_toInt (by omega)⟩
  refine va_alen (v := z1009) hx hb hK hP 2 0 rfl rfl ez1009 dX7_note_27 ?_
  refine B_icmp_ne (tgt := 48) (X := v1.toInt) (Y := z1009.toInt) hx hb dX7_note_28 (by decide) rfl rfl (fun hc1010 => ?_) (fun hc1010 => ?_)
  · refine lv_aload_n hx hb dX7_note_48 rfl (lv_at hl 0 rfl) ?_
    refine va_get (D := D) (ci := 6) (v := .ref h2) (C := RX7) (T := TX7) (N := 12) hx hb hts i_X7 hown hK hP 0 rfl rfl 1 (by decide) (hts _ kw_401) (fun _ h9 => h9) rfl dX7_note_49 ?_
    refine lv_aload_n hx hb dX7_note_52 rfl (lv_at hl 0 rfl) ?_
    refine va_get (D := D) (ci := 6) (v := .int v1) (C := RX7) (T := TX7) (N := 12) hx hb hts i_X7 hown hK hP 0 rfl rfl 2 (by decide) (hts _ kw_402) (fun _ h9 => h9) rfl dX7_note_53 ?_
    refine lv_iload_n hx hb dX7_note_56 rfl (lv_at hl 1 rfl) ?_
    refine va_iast hx hb hK hP hD hS 2 0 rfl rfl (in_of (by omega) (by omega)) dX7_note_57 (fun H locs hP hD hS => ?_)
    obtain ⟨f1011, ef1011, hP, hD⟩ : ∃ y : Nat → Int32, y = upd f11 (Int32.toNatClampNeg v1) a1 ∧ va_P D vwCl [(h0, .inr (6, [.ref h1, .ref h2, .int v1, .int v2, u32, .int v3, u33, u34, .int v4, .int v5, .int v6, .int v7])), (h1, .inl (c 0, n8, .inl f1008)), (h2, .inl (c 0, n10, .inl y))] H ∧ va_D A [(h0, .inr (6, [.ref h1, .ref h2, .int v1, .int v2, u32, .int v3, u33, u34, .int v4, .int v5, .int v6, .int v7])), (h1, .inl (c 0, n8, .inl f1008)), (h2, .inl (c 0, n10, .inl y))] := ⟨_, rfl, hP, hD⟩
    refine lv_aload_n hx hb dX7_note_58 rfl (lv_at hl 0 rfl) ?_
    refine lv_dup hx hb dX7_note_59 rfl ?_
    refine va_get (D := D) (ci := 6) (v := .int v1) (C := RX7) (T := TX7) (N := 12) hx hb hts i_X7 hown hK hP 0 rfl rfl 2 (by decide) (hts _ kw_402) (fun _ h9 => h9) rfl dX7_note_60 ?_
    refine lv_iconst (v := 1) hx hb dX7_note_63 (by decide) ?_
    refine lv_iadd hx hb dX7_note_64 ?_
    refine q_add (X := v1.toInt) (Y := 1) rfl (by decide) (by omega) (by omega) (fun z1012 ez1012 hz1012 => ?_)
    refine va_put (D := D) (ci := 6) (v := .int z1012) (ty := .int) (C := RX7) (T := TX7) (N := 12) hx hb hts i_X7 tyX7 tyX7_ok nmX7 hown hK hP hD hS 0 rfl rfl 2 (by decide) (hts _ kw_402) (fun _ h9 => h9) rfl (tyX7_ok 2 (by decide)) rfl rfl (Nat.le_of_ble_eq_true rfl) dX7_note_65 (fun H locs hP hD hS => ?_)
    have hP : va_P D vwCl [(h0, .inr (6, [.ref h1, .ref h2, .int z1012, .int v2, u32, .int v3, u33, u34, .int v4, .int v5, .int v6, .int v7])), (h1, .inl (c 0, n8, .inl f1008)), (h2, .inl (c 0, n10, .inl f1011))] H := hP
    have hD : va_D A [(h0, .inr (6, [.ref h1, .ref h2, .int z1012, .int v2, u32, .int v3, u33, u34, .int v4, .int v5, .int v6, .int v7])), (h1, .inl (c 0, n8, .inl f1008)), (h2, .inl (c 0, n10, .inl f1011))] := hD
    have cn := cl_int (x := v1) (by omega)
    have hv1013 : ∀ i : Nat, i ≠ v1.toInt.toNat → i < n10 → f1011 i = f11 i := fun i hi hj => by rw [ef1011, pk_un (by omega)]
    have hv1014 : f1011 v1.toInt.toNat = a1 := by rw [ef1011, show v1.toInt.toNat = Int32.toNatClampNeg v1 by omega]; exact pk_us
    have hv1015 : QOK f1008 f1011 z1012 n8 := QOK.put ge2 ge3 (by omega) (by omega) (by omega) (by omega) hup hmx (fun i hi => hv1013 i (by omega) (by omega)) hv1014
    refine W.ofTS (fun hTr hZr => ?_)
    exact rV hQ hx hb hr hlocks hS (by omega) (by omega) dX7_note_68 (fun t ht => ⟨z1012, f1008, h2, n10, f1011, ⟨by omega, by omega⟩, hv1015, (by omega), ge4, (by omega), (by omega), hv1013, hv1014, (by rw [ht]; omega), (by rw [ht]; omega), by rw [ht]; exact hP, hD⟩)
  · refine lv_aload_n hx hb dX7_note_31 rfl (lv_at hl 0 rfl) ?_
    refine lv_aload_n hx hb dX7_note_32 rfl (lv_at hl 0 rfl) ?_
    refine va_get (D := D) (ci := 6) (v := .ref h2) (C := RX7) (T := TX7) (N := 12) hx hb hts i_X7 hown hK hP 0 rfl rfl 1 (by decide) (hts _ kw_401) (fun _ h9 => h9) rfl dX7_note_33 ?_
    refine lv_iconst (v := 2) hx hb dX7_note_36 (by decide) ?_
    refine lv_aload_n hx hb dX7_note_37 rfl (lv_at hl 0 rfl) ?_
    refine va_get (D := D) (ci := 6) (v := .int v1) (C := RX7) (T := TX7) (N := 12) hx hb hts i_X7 hown hK hP 0 rfl rfl 2 (by decide) (hts _ kw_402) (fun _ h9 => h9) rfl dX7_note_38 ?_
    refine lv_imul hx hb dX7_note_41 ?_
    refine q_mul (X := 2) (Y := v1.toInt) (by decide) rfl rfl (by omega) (by omega) (fun z1016 ez1016 hz1016 => ?_)
    have hp2 := (Pq.two ge4 (by omega) rfl).le
    refine fQ (run_S (n := 2) ⟨hx, hb, hml, hown, hts⟩ (m_J7_copyOf_59c91 l D c h2 H.size f11 n10 z1016 ⟨by omega, by omega⟩ (by omega)) (hP.sub [2] rfl) (hD.sub [2] (by decide) rfl) hK hN rfl rfl kw_852 kw_853 kw_132 kw_854 (by decide +kernel) ⟨(Nat.le_of_ble_eq_true rfl), (Nat.le_of_ble_eq_true rfl)⟩ rfl hl.1 rfl (Nat.le_of_ble_eq_true rfl) dX7_note_42 ⟨show (n8 + n10 / 256 - (n8 + n10 / 256)) + (1) ≤ 69632 - (n8 + n10 / 256) by omega, show (2 * n8 + 2 * n10 - (2 * n8 + 2 * n10)) + (z1016.toInt.toNat) ≤ 2228224 - (2 * n8 + 2 * n10) by omega⟩) hP hD hS hA [2] rfl (fun r1017 H locs t hB hj hS => ?_)
    obtain ⟨q1018, f1019, n1020, rfl, hq1021, hq1022, hP1, hD1⟩ := hB
    obtain ⟨hP, hD⟩ := hj (wr := [(h0, .inr (6, [.ref h1, .ref h2, .int v1, .int v2, u32, .int v3, u33, u34, .int v4, .int v5, .int v6, .int v7])), (h1, .inl (c 0, n8, .inl f1008))]) (w1 := [(h2, .inl (c 0, n10, .inl f11)), (q1018, .inl (c 0, n1020, .inl f1019))]) [0, 1] rfl (by decide) (by decide) hP1 hD1
    have hP : va_P D vwCl [(h0, .inr (6, [.ref h1, .ref h2, .int v1, .int v2, u32, .int v3, u33, u34, .int v4, .int v5, .int v6, .int v7])), (h1, .inl (c 0, n8, .inl f1008)), (h2, .inl (c 0, n10, .inl f11)), (q1018, .inl (c 0, n1020, .inl f1019))] H := hP
    have hD : va_D A [(h0, .inr (6, [.ref h1, .ref h2, .int v1, .int v2, u32, .int v3, u33, u34, .int v4, .int v5, .int v6, .int v7])), (h1, .inl (c 0, n8, .inl f1008)), (h2, .inl (c 0, n10, .inl f11)), (q1018, .inl (c 0, n1020, .inl f1019))] := hD
    refine W.widen (k := (n8 + n10 / 256 - (n8 + n10 / 256) + 1)) (n := (2 * n8 + 2 * n10 - (2 * n8 + 2 * n10) + z1016.toInt.toNat)) (by omega) (by omega) ?_
    refine tpv (.ref q1018) rfl ?_
    refine va_put (D := D) (ci := 6) (v := .ref q1018) (ty := .array .int) (C := RX7) (T := TX7) (N := 12) hx hb hts i_X7 tyX7 tyX7_ok nmX7 hown hK hP hD hS 0 rfl rfl 1 (by decide) (hts _ kw_401) (fun _ h9 => h9) rfl (tyX7_ok 1 (by decide)) rfl rfl (Nat.le_of_ble_eq_true rfl) dX7_note_45 (fun H locs hP hD hS => ?_)
    have hP : va_P D vwCl [(h0, .inr (6, [.ref h1, .ref q1018, .int v1, .int v2, u32, .int v3, u33, u34, .int v4, .int v5, .int v6, .int v7])), (h1, .inl (c 0, n8, .inl f1008)), (h2, .inl (c 0, n10, .inl f11)), (q1018, .inl (c 0, n1020, .inl f1019))] H := hP
    have hD : va_D A [(h0, .inr (6, [.ref h1, .ref q1018, .int v1, .int v2, u32, .int v3, u33, u34, .int v4, .int v5, .int v6, .int v7])), (h1, .inl (c 0, n8, .inl f1008)), (h2, .inl (c 0, n10, .inl f11)), (q1018, .inl (c 0, n1020, .inl f1019))] := hD
    have hP := hP.sub (ws' := [(h0, .inr (6, [.ref h1, .ref q1018, .int v1, .int v2, u32, .int v3, u33, u34, .int v4, .int v5, .int v6, .int v7])), (h1, .inl (c 0, n8, .inl f1008)), (q1018, .inl (c 0, n1020, .inl f1019))]) [0, 1, 3] rfl
    have hD := hD.sub (ws' := [(h0, .inr (6, [.ref h1, .ref q1018, .int v1, .int v2, u32, .int v3, u33, u34, .int v4, .int v5, .int v6, .int v7])), (h1, .inl (c 0, n8, .inl f1008)), (q1018, .inl (c 0, n1020, .inl f1019))]) [0, 1, 3] (by decide) rfl
    have hv1023 : Pq n1020 := Pq.two ge4 (by omega) (by omega)
    have hNl := hv1023.le
    refine W.widen (k := (n8 + n1020 / 256 - (n8 + n10 / 256))) (n := (2 * n8 + 2 * n1020 - (2 * n8 + 2 * n10))) (by omega) (by omega) ?_
    refine lv_aload_n hx hb dX7_note_48 rfl (lv_at hl 0 rfl) ?_
    refine va_get (D := D) (ci := 6) (v := .ref q1018) (C := RX7) (T := TX7) (N := 12) hx hb hts i_X7 hown hK hP 0 rfl rfl 1 (by decide) (hts _ kw_401) (fun _ h9 => h9) rfl dX7_note_49 ?_
    refine lv_aload_n hx hb dX7_note_52 rfl (lv_at hl 0 rfl) ?_
    refine va_get (D := D) (ci := 6) (v := .int v1) (C := RX7) (T := TX7) (N := 12) hx hb hts i_X7 hown hK hP 0 rfl rfl 2 (by decide) (hts _ kw_402) (fun _ h9 => h9) rfl dX7_note_53 ?_
    refine lv_iload_n hx hb dX7_note_56 rfl (lv_at hl 1 rfl) ?_
    refine va_iast hx hb hK hP hD hS 2 0 rfl rfl (in_of (by omega) (by omega)) dX7_note_57 (fun H locs hP hD hS => ?_)
    obtain ⟨f1024, ef1024, hP, hD⟩ : ∃ y : Nat → Int32, y = upd f1019 (Int32.toNatClampNeg v1) a1 ∧ va_P D vwCl [(h0, .inr (6, [.ref h1, .ref q1018, .int v1, .int v2, u32, .int v3, u33, u34, .int v4, .int v5, .int v6, .int v7])), (h1, .inl (c 0, n8, .inl f1008)), (q1018, .inl (c 0, n1020, .inl y))] H ∧ va_D A [(h0, .inr (6, [.ref h1, .ref q1018, .int v1, .int v2, u32, .int v3, u33, u34, .int v4, .int v5, .int v6, .int v7])), (h1, .inl (c 0, n8, .inl f1008)), (q1018, .inl (c 0, n1020, .inl y))] := ⟨_, rfl, hP, hD⟩
    refine lv_aload_n hx hb dX7_note_58 rfl (lv_at hl 0 rfl) ?_
    refine lv_dup hx hb dX7_note_59 rfl ?_
    refine va_get (D := D) (ci := 6) (v := .int v1) (C := RX7) (T := TX7) (N := 12) hx hb hts i_X7 hown hK hP 0 rfl rfl 2 (by decide) (hts _ kw_402) (fun _ h9 => h9) rfl dX7_note_60 ?_
    refine lv_iconst (v := 1) hx hb dX7_note_63 (by decide) ?_
    refine lv_iadd hx hb dX7_note_64 ?_
    refine q_add (X := v1.toInt) (Y := 1) rfl (by decide) (by omega) (by omega) (fun z1025 ez1025 hz1025 => ?_)
    refine va_put (D := D) (ci := 6) (v := .int z1025) (ty := .int) (C := RX7) (T := TX7) (N := 12) hx hb hts i_X7 tyX7 tyX7_ok nmX7 hown hK hP hD hS 0 rfl rfl 2 (by decide) (hts _ kw_402) (fun _ h9 => h9) rfl (tyX7_ok 2 (by decide)) rfl rfl (Nat.le_of_ble_eq_true rfl) dX7_note_65 (fun H locs hP hD hS => ?_)
    have hP : va_P D vwCl [(h0, .inr (6, [.ref h1, .ref q1018, .int z1025, .int v2, u32, .int v3, u33, u34, .int v4, .int v5, .int v6, .int v7])), (h1, .inl (c 0, n8, .inl f1008)), (q1018, .inl (c 0, n1020, .inl f1024))] H := hP
    have hD : va_D A [(h0, .inr (6, [.ref h1, .ref q1018, .int z1025, .int v2, u32, .int v3, u33, u34, .int v4, .int v5, .int v6, .int v7])), (h1, .inl (c 0, n8, .inl f1008)), (q1018, .inl (c 0, n1020, .inl f1024))] := hD
    have cn := cl_int (x := v1) (by omega)
    have hv1026 : ∀ i : Nat, i ≠ v1.toInt.toNat → i < n10 → f1024 i = f11 i := fun i hi hj => by rw [ef1024, pk_un (by omega)]; exact hq1021 i (by omega)
    have hv1027 : f1024 v1.toInt.toNat = a1 := by rw [ef1024, show v1.toInt.toNat = Int32.toNatClampNeg v1 by omega]; exact pk_us
    have hv1028 : QOK f1008 f1024 z1025 n8 := QOK.put ge2 ge3 (by omega) (by omega) (by omega) (by omega) hup hmx (fun i hi => hv1026 i (by omega) (by omega)) hv1027
    refine W.ofTS (fun hTr hZr => ?_)
    exact rV hQ hx hb hr hlocks hS (by omega) (by omega) dX7_note_68 (fun t ht => ⟨z1025, f1008, q1018, n1020, f1024, ⟨by omega, by omega⟩, hv1028, (by omega), hv1023, (by omega), (by omega), hv1026, hv1027, (by rw [ht]; omega), (by rw [ht]; omega), by rw [ht]; exact hP, hD⟩)
set_option maxHeartbeats 4000000 in
set_option maxRecDepth 100000 in
theorem m_X7_launch (l : Launch) (D : va_G) (c : Nat → ClassId) (h0 h1 h2 h3 h4 h5 : Nat) (sz : Nat) (ts0 : Nat) (v1 : Int32) (v2 : Int32) (v3 : Int32) (v4 : Int32) (v5 : Int32) (v6 : Int32) (v7 : Int32) (f9 : Nat → Int32) (n8 : Nat) (f11 : Nat → Int32) (n10 : Nat) (a1 : Int32) (a2 : Int32) (gv1 : 0 ≤ v1.toInt ∧ v1.toInt ≤ 1048576) (gv2 : 0 ≤ v2.toInt ∧ v2.toInt ≤ 1048576) (gv3 : 0 ≤ v3.toInt ∧ v3.toInt ≤ 6) (gv4 : 0 ≤ v4.toInt ∧ v4.toInt ≤ 14) (gv6 : 0 ≤ v6.toInt ∧ v6.toInt ≤ 1048575) (gv7 : 0 ≤ v7.toInt ∧ v7.toInt ≤ 255) (ga1 : 0 ≤ a1.toInt ∧ a1.toInt ≤ 1048575) (ga2 : 0 ≤ a2.toInt ∧ a2.toInt ≤ 20) (ge0 : Pm0 n8) (ge1 : Pq0 n10) (ge2 : a1.toInt < P2 a2) : Met l yX7_launch (Cond.code yX7_launch cX7_launch 4 none :: TB) ({ frames := 3, cells := 69632 - (n8 + n10 / 256), slots := 2228224 - (2 * n8 + 2 * n10), locals := 62 } : Room) (va_Pc [.ref h0, .int a1, .int a2] (PWt D c [(h0, .inr (6, [.ref h1, .ref h2, .int v1, .int v2, .ref h5, .int v3, .ref h4, .ref h3, .int v4, .int v5, .int v6, .int v7])), (h1, .inl (c 0, n8, .inl f9)), (h2, .inl (c 0, n10, .inl f11))] sz ts0)) ((QV (fun A t => ∃ (z900 : Int32) (q901 : Nat) (n902 : Nat) (f903 : Nat → Int32) (q904 : Nat) (n905 : Nat) (f906 : Nat → Int32), (0 ≤ z900.toInt ∧ z900.toInt ≤ 1048576) ∧ (Pm n902 a2.toInt) ∧ (Pq n905) ∧ (QOK f903 f906 z900 n902) ∧ (z900.toInt = 1) ∧ (z900.toInt ≤ (n905 : Int)) ∧ (n8 ≤ n902) ∧ (n10 ≤ n905) ∧ (TS t.heap + (2 * n8 + 2 * n10) ≤ ts0 + (2 * n902 + 2 * n905)) ∧ (t.heap.size + (n8 + n10 / 256) ≤ sz + (n902 + n905 / 256)) ∧ va_P D vwCl [(h0, .inr (6, [.ref q901, .ref q904, .int z900, .int 0, .ref h5, .int v3, .ref h4, .ref h3, .int v4, .int v5, .int v6, .int v7])), (q901, .inl (c 0, n902, .inl f903)), (q904, .inl (c 0, n905, .inl f906))] t.heap ∧ va_D A [(h0, .inr (6, [.ref q901, .ref q904, .int z900, .int 0, .ref h5, .int v3, .ref h4, .ref h3, .int v4, .int v5, .int v6, .int v7])), (q901, .inl (c 0, n902, .inl f903)), (q904, .inl (c 0, n905, .inl f906))])) (va_A [(h0, .inr (6, [.ref h1, .ref h2, .int v1, .int v2, .ref h5, .int v3, .ref h4, .ref h3, .int v4, .int v5, .int v6, .int v7])), (h1, .inl (c 0, n8, .inl f9)), (h2, .inl (c 0, n10, .inl f11))] sz)) (69632 - (n8 + n10 / 256)) (2228224 - (2 * n8 + 2 * n10)) (va_A [(h0, .inr (6, [.ref h1, .ref h2, .int v1, .int v2, .ref h5, .int v3, .ref h4, .ref h3, .int v4, .int v5, .int v6, .int v7])), (h1, .inl (c 0, n8, .inl f9)), (h2, .inl (c 0, n10, .inl f11))] sz) := by
  refine start2p (by decide +kernel) (Nat.le_of_ble_eq_true rfl) ?_
  intro p e s m below meth cd A ls Q hx hb hr hml hts hown hlocks hin hA hS hK hP hD hN hz0 hT0 hl hQ
  have hown : s.vm.findClass RX7 = some m.cls := hown
  have hl : lv_has ls 4 [(0, .ref h0), (1, .int a1), (2, .int a2)] := hl
  have hP : va_P D vwCl [(h0, .inr (6, [.ref h1, .ref h2, .int v1, .int v2, .ref h5, .int v3, .ref h4, .ref h3, .int v4, .int v5, .int v6, .int v7])), (h1, .inl (c 0, n8, .inl f9)), (h2, .inl (c 0, n10, .inl f11))] s.heap := hP
  have hle1001 := ge0.le
  have hle1002 := ge1.le
  refine W.widen (k := (n8 + n10 / 256 - (n8 + n10 / 256))) (n := (2 * n8 + 2 * n10 - (2 * n8 + 2 * n10))) (Nat.zero_le _) (Nat.zero_le _) ?_
  refine lv_iconst (v := 1) hx hb dX7_launch_0 (by decide) ?_
  refine lv_iload_n hx hb dX7_launch_1 rfl (lv_at hl 2 rfl) ?_
  refine lv_bipush (v := 20) hx hb dX7_launch_2 (by decide) ?_
  refine va_mmin hx hb (by rw [hml]; exact hl.1.symm) hown (hts _ kw_845) (hts _ kw_846) (hts _ kw_131) (hts _ kw_847) (Nat.le_of_ble_eq_true rfl) (Nat.le_of_ble_eq_true rfl) (show (n8 + n10 / 256 - (n8 + n10 / 256)) ≤ 69632 - (n8 + n10 / 256) by omega) (show (2 * n8 + 2 * n10 - (2 * n8 + 2 * n10)) ≤ 2228224 - (2 * n8 + 2 * n10) by omega) dX7_launch_4 ?_
  refine o_min (X := a2.toInt) (Y := 20) rfl (by decide) (fun z1003 hz1003 => ?_)
  refine lv_ishl hx hb dX7_launch_7 ?_
  refine q_shl (X := 1) (Y := z1003.toInt) (M := 1048576) 1 20 (by decide) rfl (by omega) (by omega) (by omega) (by omega) (by decide) (by decide) (by decide) (fun z1004 ez1004 hz1004 => ?_)
  refine lv_bipush (v := 15) hx hb dX7_launch_8 (by decide) ?_
  refine lv_iadd hx hb dX7_launch_10 ?_
  refine q_add (X := z1004.toInt) (Y := 15) rfl (by decide) (by omega) (by omega) (fun z1005 ez1005 hz1005 => ?_)
  refine lv_iconst (v := 4) hx hb dX7_launch_11 (by decide) ?_
  refine lv_ishr hx hb dX7_launch_12 ?_
  refine q_shrc (X := z1005.toInt) (M := 16) 4 rfl (by decide) (by decide) (fun z1006 ez1006 hz1006 => ?_)
  refine lv_istore_n (lv' := [(3, .int z1006), (0, .ref h0), (1, .int a1), (2, .int a2)]) hx hb dX7_launch_13 rfl hl (by decide) rfl (fun ls hl => ?_)
  have hz1 := one_shl (y := z1003) (z := z1004) (by omega) (by omega) ez1004
  have hpw : Pm z1006.toInt.toNat ((a2.toInt.toNat : Nat) : Int) := Pm.words (by omega) (by rw [show z1003.toInt.toNat = a2.toInt.toNat by omega] at hz1; omega)
  have hpl := ge0.le
  have hql := ge1.le
  have hwl := hpw.le
  refine lv_aload_n hx hb dX7_launch_14 rfl (lv_at hl 1 rfl) ?_
  refine va_get (D := D) (ci := 6) (v := .ref h1) (C := RX7) (T := TX7) (N := 12) hx hb hts i_X7 hown hK hP 0 rfl rfl 0 (by decide) (hts _ kw_400) (fun _ h9 => h9) rfl dX7_launch_15 ?_
  obtain ⟨z1007, ez1007, hz1007⟩ : ∃ y : Int32, Int32.ofNat n8 = y ∧ y.toInt = (n8 : Int) := ⟨_, rfl, nI_toInt (by omega)⟩
  refine va_alen (v := z1007) hx hb hK hP 1 0 rfl rfl ez1007 dX7_launch_18 ?_
  refine lv_iload_n hx hb dX7_launch_19 rfl (lv_at hl 0 rfl) ?_
  refine B_icmp_ge (tgt := 30) (X := z1007.toInt) (Y := z1006.toInt) hx hb dX7_launch_20 (by decide) rfl rfl (fun hc1008 => ?_) (fun hc1008 => ?_)
  · have hv1009 : Pm n8 a2.toInt := Pm.raise ge0 (Pm.less hpw (by omega)) (by omega)
    refine lv_aload_n hx hb dX7_launch_30 rfl (lv_at hl 1 rfl) ?_
    refine va_get (D := D) (ci := 6) (v := .ref h2) (C := RX7) (T := TX7) (N := 12) hx hb hts i_X7 hown hK hP 0 rfl rfl 1 (by decide) (hts _ kw_401) (fun _ h9 => h9) rfl dX7_launch_31 ?_
    obtain ⟨z1010, ez1010, hz1010⟩ : ∃ y : Int32, Int32.ofNat n10 = y ∧ y.toInt = (n10 : Int) := ⟨_, rfl, nI_toInt (by omega)⟩
    refine va_alen (v := z1010) hx hb hK hP 2 0 rfl rfl ez1010 dX7_launch_34 ?_
    refine B_if_ne (tgt := 47) (X := z1010.toInt) hx hb dX7_launch_35 (by decide) rfl (fun hc1011 => ?_) (fun hc1011 => ?_)
    · have hv1012 : Pq n10 := ge1.resolve_left (by omega)
      have hple := hv1009.le
      have hp2 := hv1009.p2
      have hqle := hv1012.le
      refine lv_aload_n hx hb dX7_launch_47 rfl (lv_at hl 1 rfl) ?_
      refine lv_iconst (v := 0) hx hb dX7_launch_48 (by decide) ?_
      refine va_put (D := D) (ci := 6) (v := .int 0) (ty := .int) (C := RX7) (T := TX7) (N := 12) hx hb hts i_X7 tyX7 tyX7_ok nmX7 hown hK hP hD hS 0 rfl rfl 2 (by decide) (hts _ kw_402) (fun _ h9 => h9) rfl (tyX7_ok 2 (by decide)) rfl rfl (Nat.le_of_ble_eq_true rfl) dX7_launch_49 (fun H locs hP hD hS => ?_)
      have hP : va_P D vwCl [(h0, .inr (6, [.ref h1, .ref h2, .int 0, .int v2, .ref h5, .int v3, .ref h4, .ref h3, .int v4, .int v5, .int v6, .int v7])), (h1, .inl (c 0, n8, .inl f9)), (h2, .inl (c 0, n10, .inl f11))] H := hP
      have hD : va_D A [(h0, .inr (6, [.ref h1, .ref h2, .int 0, .int v2, .ref h5, .int v3, .ref h4, .ref h3, .int v4, .int v5, .int v6, .int v7])), (h1, .inl (c 0, n8, .inl f9)), (h2, .inl (c 0, n10, .inl f11))] := hD
      refine lv_aload_n hx hb dX7_launch_52 rfl (lv_at hl 1 rfl) ?_
      refine lv_iconst (v := 0) hx hb dX7_launch_53 (by decide) ?_
      refine va_put (D := D) (ci := 6) (v := .int 0) (ty := .int) (C := RX7) (T := TX7) (N := 12) hx hb hts i_X7 tyX7 tyX7_ok nmX7 hown hK hP hD hS 0 rfl rfl 3 (by decide) (hts _ kw_403) (fun _ h9 => h9) rfl (tyX7_ok 3 (by decide)) rfl rfl (Nat.le_of_ble_eq_true rfl) dX7_launch_54 (fun H locs hP hD hS => ?_)
      have hP : va_P D vwCl [(h0, .inr (6, [.ref h1, .ref h2, .int 0, .int 0, .ref h5, .int v3, .ref h4, .ref h3, .int v4, .int v5, .int v6, .int v7])), (h1, .inl (c 0, n8, .inl f9)), (h2, .inl (c 0, n10, .inl f11))] H := hP
      have hD : va_D A [(h0, .inr (6, [.ref h1, .ref h2, .int 0, .int 0, .ref h5, .int v3, .ref h4, .ref h3, .int v4, .int v5, .int v6, .int v7])), (h1, .inl (c 0, n8, .inl f9)), (h2, .inl (c 0, n10, .inl f11))] := hD
      refine lv_aload_n hx hb dX7_launch_57 rfl (lv_at hl 1 rfl) ?_
      refine lv_iload_n hx hb dX7_launch_58 rfl (lv_at hl 2 rfl) ?_
      refine lv_iconst (v := 1) hx hb dX7_launch_59 (by decide) ?_
      refine W.ofTS (fun hTc hZc => ?_)
      have hk0 : (0 : Int32).toInt = 0 := by decide
      have hk0 : (1 : Int32).toInt = 1 := by decide
      refine fin_vp (run_Vp (n := 2) (ci := 6) ⟨hx, hb, hml, hown, hts⟩ (m_X7_note l D c h0 h1 h2 H.size (TS H) 0 0 (.ref h5) v3 (.ref h4) (.ref h3) v4 v5 v6 v7 f9 n8 f11 n10 a1 1 (by decide) (by decide) gv3 gv4 gv6 gv7 ga1 (by decide) (by omega) (by omega) (QOK.none (by decide)) (NewQ.none (by decide)) hv1012 (by omega)) (hP.sub [0, 1, 2] rfl) (hD.sub [0, 1, 2] (by decide) rfl) hK hN rfl rfl kw_848 kw_850 kw_12 kw_120 kw_851 ⟨rfl, by decide +kernel⟩ ⟨(Nat.le_of_ble_eq_true rfl), (Nat.le_of_ble_eq_true rfl)⟩ rfl rfl rfl hl.1 rfl (Nat.le_of_ble_eq_true rfl) dX7_launch_60 ⟨show (n8 + n10 / 256 - (n8 + n10 / 256)) + (69632 - (n8 + n10 / 256)) ≤ 69632 - (n8 + n10 / 256) by omega, show (2 * n8 + 2 * n10 - (2 * n8 + 2 * n10)) + (2228224 - (2 * n8 + 2 * n10)) ≤ 2228224 - (2 * n8 + 2 * n10) by omega⟩) hP hD hS hA [0, 1, 2] rfl (fun H locs t ht hB hj hS => ?_)
      obtain ⟨z1013, f1014, q1015, n1016, f1017, hq1018, hq1019, hq1020, hq1021, hq1022, hq1023, hq1024, hq1025, hq1026, hq1027, hP1, hD1⟩ := hB
      obtain ⟨hP, hD⟩ := hj (wr := []) (w1 := [(h0, .inr (6, [.ref h1, .ref q1015, .int z1013, .int 0, .ref h5, .int v3, .ref h4, .ref h3, .int v4, .int v5, .int v6, .int v7])), (h1, .inl (c 0, n8, .inl f1014)), (q1015, .inl (c 0, n1016, .inl f1017))]) [] rfl (by decide) (by decide) hP1 hD1
      have hP : va_P D vwCl [(h0, .inr (6, [.ref h1, .ref q1015, .int z1013, .int 0, .ref h5, .int v3, .ref h4, .ref h3, .int v4, .int v5, .int v6, .int v7])), (h1, .inl (c 0, n8, .inl f1014)), (q1015, .inl (c 0, n1016, .inl f1017))] H := hP
      have hD : va_D A [(h0, .inr (6, [.ref h1, .ref q1015, .int z1013, .int 0, .ref h5, .int v3, .ref h4, .ref h3, .int v4, .int v5, .int v6, .int v7])), (h1, .inl (c 0, n8, .inl f1014)), (q1015, .inl (c 0, n1016, .inl f1017))] := hD
      refine W.tight (k := (n8 + n1016 / 256 - (n8 + n10 / 256))) (n := (2 * n8 + 2 * n1016 - (2 * n8 + 2 * n10))) (by rw [← ht]; omega) (by rw [← ht]; omega) ?_
      have hle1028 := ge0.le
      have hle1029 := hv1009.le
      have hle1030 := hq1021.le
      refine W.ofTS (fun hTr hZr => ?_)
      exact rV hQ hx hb hr hlocks hS (by omega) (by omega) dX7_launch_63 (fun t ht => ⟨z1013, h1, n8, f1014, q1015, n1016, f1017, hq1018, hv1009, hq1021, hq1019, (by omega), hq1022, (by omega), hq1023, (by rw [ht]; omega), (by rw [ht]; omega), by rw [ht]; exact hP, hD⟩)
    · refine lv_aload_n hx hb dX7_launch_38 rfl (lv_at hl 1 rfl) ?_
      refine lv_sipush (v := 256) hx hb dX7_launch_39 (by decide) ?_
      refine nw_arr (c := c) (a0 := (256, .inl (fun _ => 0))) (atype := .int) hx hb (hts _ kw_175) rfl 0 rfl (by intro C h; cases h) hK hP hD hS hA (fun _ => rfl) (by decide) (by decide +kernel) (by decide) (show (n8 + n10 / 256 - (n8 + n10 / 256)) + 1 ≤ 69632 - (n8 + n10 / 256) by omega) (show (2 * n8 + 2 * n10 - (2 * n8 + 2 * n10)) + 256 ≤ 2228224 - (2 * n8 + 2 * n10) by omega) dX7_launch_42 (fun q1031 H hP hD hS => ?_)
      have hP : va_P D vwCl [(h0, .inr (6, [.ref h1, .ref h2, .int v1, .int v2, .ref h5, .int v3, .ref h4, .ref h3, .int v4, .int v5, .int v6, .int v7])), (h1, .inl (c 0, n8, .inl f9)), (h2, .inl (c 0, n10, .inl f11)), (q1031, .inl (c 0, 256, .inl (fun _ => 0)))] H := hP
      have hD : va_D A [(h0, .inr (6, [.ref h1, .ref h2, .int v1, .int v2, .ref h5, .int v3, .ref h4, .ref h3, .int v4, .int v5, .int v6, .int v7])), (h1, .inl (c 0, n8, .inl f9)), (h2, .inl (c 0, n10, .inl f11)), (q1031, .inl (c 0, 256, .inl (fun _ => 0)))] := hD
      refine W.widen (k := (n8 + n10 / 256 - (n8 + n10 / 256) + 1)) (n := (2 * n8 + 2 * n10 - (2 * n8 + 2 * n10) + 256)) (by omega) (by omega) ?_
      refine va_put (D := D) (ci := 6) (v := .ref q1031) (ty := .array .int) (C := RX7) (T := TX7) (N := 12) hx hb hts i_X7 tyX7 tyX7_ok nmX7 hown hK hP hD hS 0 rfl rfl 1 (by decide) (hts _ kw_401) (fun _ h9 => h9) rfl (tyX7_ok 1 (by decide)) rfl rfl (Nat.le_of_ble_eq_true rfl) dX7_launch_44 (fun H locs hP hD hS => ?_)
      have hP : va_P D vwCl [(h0, .inr (6, [.ref h1, .ref q1031, .int v1, .int v2, .ref h5, .int v3, .ref h4, .ref h3, .int v4, .int v5, .int v6, .int v7])), (h1, .inl (c 0, n8, .inl f9)), (h2, .inl (c 0, n10, .inl f11)), (q1031, .inl (c 0, 256, .inl (fun _ => 0)))] H := hP
      have hD : va_D A [(h0, .inr (6, [.ref h1, .ref q1031, .int v1, .int v2, .ref h5, .int v3, .ref h4, .ref h3, .int v4, .int v5, .int v6, .int v7])), (h1, .inl (c 0, n8, .inl f9)), (h2, .inl (c 0, n10, .inl f11)), (q1031, .inl (c 0, 256, .inl (fun _ => 0)))] := hD
      have hP := hP.sub (ws' := [(h0, .inr (6, [.ref h1, .ref q1031, .int v1, .int v2, .ref h5, .int v3, .ref h4, .ref h3, .int v4, .int v5, .int v6, .int v7])), (h1, .inl (c 0, n8, .inl f9)), (q1031, .inl (c 0, 256, .inl (fun _ => 0)))]) [0, 1, 3] rfl
      have hD := hD.sub (ws' := [(h0, .inr (6, [.ref h1, .ref q1031, .int v1, .int v2, .ref h5, .int v3, .ref h4, .ref h3, .int v4, .int v5, .int v6, .int v7])), (h1, .inl (c 0, n8, .inl f9)), (q1031, .inl (c 0, 256, .inl (fun _ => 0)))]) [0, 1, 3] (by decide) rfl
      have hv1032 : Pq 256 := Pq.first
      refine W.widen (k := (n8 + 256 / 256 - (n8 + n10 / 256))) (n := (2 * n8 + 2 * 256 - (2 * n8 + 2 * n10))) (by omega) (by omega) ?_
      have hple := hv1009.le
      have hp2 := hv1009.p2
      have hqle := hv1032.le
      refine lv_aload_n hx hb dX7_launch_47 rfl (lv_at hl 1 rfl) ?_
      refine lv_iconst (v := 0) hx hb dX7_launch_48 (by decide) ?_
      refine va_put (D := D) (ci := 6) (v := .int 0) (ty := .int) (C := RX7) (T := TX7) (N := 12) hx hb hts i_X7 tyX7 tyX7_ok nmX7 hown hK hP hD hS 0 rfl rfl 2 (by decide) (hts _ kw_402) (fun _ h9 => h9) rfl (tyX7_ok 2 (by decide)) rfl rfl (Nat.le_of_ble_eq_true rfl) dX7_launch_49 (fun H locs hP hD hS => ?_)
      have hP : va_P D vwCl [(h0, .inr (6, [.ref h1, .ref q1031, .int 0, .int v2, .ref h5, .int v3, .ref h4, .ref h3, .int v4, .int v5, .int v6, .int v7])), (h1, .inl (c 0, n8, .inl f9)), (q1031, .inl (c 0, 256, .inl (fun _ => 0)))] H := hP
      have hD : va_D A [(h0, .inr (6, [.ref h1, .ref q1031, .int 0, .int v2, .ref h5, .int v3, .ref h4, .ref h3, .int v4, .int v5, .int v6, .int v7])), (h1, .inl (c 0, n8, .inl f9)), (q1031, .inl (c 0, 256, .inl (fun _ => 0)))] := hD
      refine lv_aload_n hx hb dX7_launch_52 rfl (lv_at hl 1 rfl) ?_
      refine lv_iconst (v := 0) hx hb dX7_launch_53 (by decide) ?_
      refine va_put (D := D) (ci := 6) (v := .int 0) (ty := .int) (C := RX7) (T := TX7) (N := 12) hx hb hts i_X7 tyX7 tyX7_ok nmX7 hown hK hP hD hS 0 rfl rfl 3 (by decide) (hts _ kw_403) (fun _ h9 => h9) rfl (tyX7_ok 3 (by decide)) rfl rfl (Nat.le_of_ble_eq_true rfl) dX7_launch_54 (fun H locs hP hD hS => ?_)
      have hP : va_P D vwCl [(h0, .inr (6, [.ref h1, .ref q1031, .int 0, .int 0, .ref h5, .int v3, .ref h4, .ref h3, .int v4, .int v5, .int v6, .int v7])), (h1, .inl (c 0, n8, .inl f9)), (q1031, .inl (c 0, 256, .inl (fun _ => 0)))] H := hP
      have hD : va_D A [(h0, .inr (6, [.ref h1, .ref q1031, .int 0, .int 0, .ref h5, .int v3, .ref h4, .ref h3, .int v4, .int v5, .int v6, .int v7])), (h1, .inl (c 0, n8, .inl f9)), (q1031, .inl (c 0, 256, .inl (fun _ => 0)))] := hD
      refine lv_aload_n hx hb dX7_launch_57 rfl (lv_at hl 1 rfl) ?_
      refine lv_iload_n hx hb dX7_launch_58 rfl (lv_at hl 2 rfl) ?_
      refine lv_iconst (v := 1) hx hb dX7_launch_59 (by decide) ?_
      refine W.ofTS (fun hTc hZc => ?_)
      have hk0 : (0 : Int32).toInt = 0 := by decide
      have hk0 : (1 : Int32).toInt = 1 := by decide
      refine fin_vp (run_Vp (n := 2) (ci := 6) ⟨hx, hb, hml, hown, hts⟩ (m_X7_note l D c h0 h1 q1031 H.size (TS H) 0 0 (.ref h5) v3 (.ref h4) (.ref h3) v4 v5 v6 v7 f9 n8 (fun _ => 0) 256 a1 1 (by decide) (by decide) gv3 gv4 gv6 gv7 ga1 (by decide) (by omega) (by omega) (QOK.none (by decide)) (NewQ.none (by decide)) hv1032 (by omega)) (hP.sub [0, 1, 2] rfl) (hD.sub [0, 1, 2] (by decide) rfl) hK hN rfl rfl kw_848 kw_850 kw_12 kw_120 kw_851 ⟨rfl, by decide +kernel⟩ ⟨(Nat.le_of_ble_eq_true rfl), (Nat.le_of_ble_eq_true rfl)⟩ rfl rfl rfl hl.1 rfl (Nat.le_of_ble_eq_true rfl) dX7_launch_60 ⟨show (n8 + 256 / 256 - (n8 + n10 / 256)) + (69632 - (n8 + 256 / 256)) ≤ 69632 - (n8 + n10 / 256) by omega, show (2 * n8 + 2 * 256 - (2 * n8 + 2 * n10)) + (2228224 - (2 * n8 + 2 * 256)) ≤ 2228224 - (2 * n8 + 2 * n10) by omega⟩) hP hD hS hA [0, 1, 2] rfl (fun H locs t ht hB hj hS => ?_)
      obtain ⟨z1033, f1034, q1035, n1036, f1037, hq1038, hq1039, hq1040, hq1041, hq1042, hq1043, hq1044, hq1045, hq1046, hq1047, hP1, hD1⟩ := hB
      obtain ⟨hP, hD⟩ := hj (wr := []) (w1 := [(h0, .inr (6, [.ref h1, .ref q1035, .int z1033, .int 0, .ref h5, .int v3, .ref h4, .ref h3, .int v4, .int v5, .int v6, .int v7])), (h1, .inl (c 0, n8, .inl f1034)), (q1035, .inl (c 0, n1036, .inl f1037))]) [] rfl (by decide) (by decide) hP1 hD1
      have hP : va_P D vwCl [(h0, .inr (6, [.ref h1, .ref q1035, .int z1033, .int 0, .ref h5, .int v3, .ref h4, .ref h3, .int v4, .int v5, .int v6, .int v7])), (h1, .inl (c 0, n8, .inl f1034)), (q1035, .inl (c 0, n1036, .inl f1037))] H := hP
      have hD : va_D A [(h0, .inr (6, [.ref h1, .ref q1035, .int z1033, .int 0, .ref h5, .int v3, .ref h4, .ref h3, .int v4, .int v5, .int v6, .int v7])), (h1, .inl (c 0, n8, .inl f1034)), (q1035, .inl (c 0, n1036, .inl f1037))] := hD
      refine W.tight (k := (n8 + n1036 / 256 - (n8 + n10 / 256))) (n := (2 * n8 + 2 * n1036 - (2 * n8 + 2 * n10))) (by rw [← ht]; omega) (by rw [← ht]; omega) ?_
      have hle1048 := ge0.le
      have hle1049 := hv1009.le
      have hle1050 := hq1041.le
      refine W.ofTS (fun hTr hZr => ?_)
      exact rV hQ hx hb hr hlocks hS (by omega) (by omega) dX7_launch_63 (fun t ht => ⟨z1033, h1, n8, f1034, q1035, n1036, f1037, hq1038, hv1009, hq1041, hq1039, (by omega), hq1042, (by omega), (by omega), (by rw [ht]; omega), (by rw [ht]; omega), by rw [ht]; exact hP, hD⟩)
  · refine lv_aload_n hx hb dX7_launch_23 rfl (lv_at hl 1 rfl) ?_
    refine lv_iload_n hx hb dX7_launch_24 rfl (lv_at hl 0 rfl) ?_
    have hgr := Pm.grow ge0 hpw (by omega)
    obtain ⟨n1052, en1052, hn1052⟩ : ∃ y : Nat, Int32.toNatClampNeg z1006 = y ∧ (y : Int) = z1006.toInt := ⟨_, rfl, cl_int (by omega)⟩
    refine nw_arr (c := c) (a0 := (n1052, .inl (fun _ => 0))) (atype := .int) hx hb (hts _ kw_175) rfl 0 rfl (by intro C h; cases h) hK hP hD hS hA (fun _ => rfl) (nl_of (X := z1006.toInt) (Y := 0) rfl (by decide) (by omega)) en1052 (show n1052 * 4 ≤ 536870912 by omega) (show (n8 + n10 / 256 - (n8 + n10 / 256)) + 1 ≤ 69632 - (n8 + n10 / 256) by omega) (show (2 * n8 + 2 * n10 - (2 * n8 + 2 * n10)) + n1052 ≤ 2228224 - (2 * n8 + 2 * n10) by omega) dX7_launch_25 (fun q1051 H hP hD hS => ?_)
    have hP : va_P D vwCl [(h0, .inr (6, [.ref h1, .ref h2, .int v1, .int v2, .ref h5, .int v3, .ref h4, .ref h3, .int v4, .int v5, .int v6, .int v7])), (h1, .inl (c 0, n8, .inl f9)), (h2, .inl (c 0, n10, .inl f11)), (q1051, .inl (c 0, n1052, .inl (fun _ => 0)))] H := hP
    have hD : va_D A [(h0, .inr (6, [.ref h1, .ref h2, .int v1, .int v2, .ref h5, .int v3, .ref h4, .ref h3, .int v4, .int v5, .int v6, .int v7])), (h1, .inl (c 0, n8, .inl f9)), (h2, .inl (c 0, n10, .inl f11)), (q1051, .inl (c 0, n1052, .inl (fun _ => 0)))] := hD
    refine W.widen (k := (n8 + n10 / 256 - (n8 + n10 / 256) + 1)) (n := (2 * n8 + 2 * n10 - (2 * n8 + 2 * n10) + n1052)) (by omega) (by omega) ?_
    refine va_put (D := D) (ci := 6) (v := .ref q1051) (ty := .array .int) (C := RX7) (T := TX7) (N := 12) hx hb hts i_X7 tyX7 tyX7_ok nmX7 hown hK hP hD hS 0 rfl rfl 0 (by decide) (hts _ kw_400) (fun _ h9 => h9) rfl (tyX7_ok 0 (by decide)) rfl rfl (Nat.le_of_ble_eq_true rfl) dX7_launch_27 (fun H locs hP hD hS => ?_)
    have hP : va_P D vwCl [(h0, .inr (6, [.ref q1051, .ref h2, .int v1, .int v2, .ref h5, .int v3, .ref h4, .ref h3, .int v4, .int v5, .int v6, .int v7])), (h1, .inl (c 0, n8, .inl f9)), (h2, .inl (c 0, n10, .inl f11)), (q1051, .inl (c 0, n1052, .inl (fun _ => 0)))] H := hP
    have hD : va_D A [(h0, .inr (6, [.ref q1051, .ref h2, .int v1, .int v2, .ref h5, .int v3, .ref h4, .ref h3, .int v4, .int v5, .int v6, .int v7])), (h1, .inl (c 0, n8, .inl f9)), (h2, .inl (c 0, n10, .inl f11)), (q1051, .inl (c 0, n1052, .inl (fun _ => 0)))] := hD
    have hP := hP.sub (ws' := [(h0, .inr (6, [.ref q1051, .ref h2, .int v1, .int v2, .ref h5, .int v3, .ref h4, .ref h3, .int v4, .int v5, .int v6, .int v7])), (q1051, .inl (c 0, n1052, .inl (fun _ => 0))), (h2, .inl (c 0, n10, .inl f11))]) [0, 3, 2] rfl
    have hD := hD.sub (ws' := [(h0, .inr (6, [.ref q1051, .ref h2, .int v1, .int v2, .ref h5, .int v3, .ref h4, .ref h3, .int v4, .int v5, .int v6, .int v7])), (q1051, .inl (c 0, n1052, .inl (fun _ => 0))), (h2, .inl (c 0, n10, .inl f11))]) [0, 3, 2] (by decide) rfl
    have hv1053 : Pm n1052 a2.toInt := by rw [show n1052 = z1006.toInt.toNat by omega]; exact Pm.less hpw (by omega)
    have hgr := Pm.grow ge0 hv1053 (by omega)
    refine W.widen (k := (n1052 + n10 / 256 - (n8 + n10 / 256))) (n := (2 * n1052 + 2 * n10 - (2 * n8 + 2 * n10))) (by omega) (by omega) ?_
    refine lv_aload_n hx hb dX7_launch_30 rfl (lv_at hl 1 rfl) ?_
    refine va_get (D := D) (ci := 6) (v := .ref h2) (C := RX7) (T := TX7) (N := 12) hx hb hts i_X7 hown hK hP 0 rfl rfl 1 (by decide) (hts _ kw_401) (fun _ h9 => h9) rfl dX7_launch_31 ?_
    obtain ⟨z1054, ez1054, hz1054⟩ : ∃ y : Int32, Int32.ofNat n10 = y ∧ y.toInt = (n10 : Int) := ⟨_, rfl, nI_toInt (by omega)⟩
    refine va_alen (v := z1054) hx hb hK hP 2 0 rfl rfl ez1054 dX7_launch_34 ?_
    refine B_if_ne (tgt := 47) (X := z1054.toInt) hx hb dX7_launch_35 (by decide) rfl (fun hc1055 => ?_) (fun hc1055 => ?_)
    · have hv1056 : Pq n10 := ge1.resolve_left (by omega)
      have hple := hv1053.le
      have hp2 := hv1053.p2
      have hqle := hv1056.le
      refine lv_aload_n hx hb dX7_launch_47 rfl (lv_at hl 1 rfl) ?_
      refine lv_iconst (v := 0) hx hb dX7_launch_48 (by decide) ?_
      refine va_put (D := D) (ci := 6) (v := .int 0) (ty := .int) (C := RX7) (T := TX7) (N := 12) hx hb hts i_X7 tyX7 tyX7_ok nmX7 hown hK hP hD hS 0 rfl rfl 2 (by decide) (hts _ kw_402) (fun _ h9 => h9) rfl (tyX7_ok 2 (by decide)) rfl rfl (Nat.le_of_ble_eq_true rfl) dX7_launch_49 (fun H locs hP hD hS => ?_)
      have hP : va_P D vwCl [(h0, .inr (6, [.ref q1051, .ref h2, .int 0, .int v2, .ref h5, .int v3, .ref h4, .ref h3, .int v4, .int v5, .int v6, .int v7])), (q1051, .inl (c 0, n1052, .inl (fun _ => 0))), (h2, .inl (c 0, n10, .inl f11))] H := hP
      have hD : va_D A [(h0, .inr (6, [.ref q1051, .ref h2, .int 0, .int v2, .ref h5, .int v3, .ref h4, .ref h3, .int v4, .int v5, .int v6, .int v7])), (q1051, .inl (c 0, n1052, .inl (fun _ => 0))), (h2, .inl (c 0, n10, .inl f11))] := hD
      refine lv_aload_n hx hb dX7_launch_52 rfl (lv_at hl 1 rfl) ?_
      refine lv_iconst (v := 0) hx hb dX7_launch_53 (by decide) ?_
      refine va_put (D := D) (ci := 6) (v := .int 0) (ty := .int) (C := RX7) (T := TX7) (N := 12) hx hb hts i_X7 tyX7 tyX7_ok nmX7 hown hK hP hD hS 0 rfl rfl 3 (by decide) (hts _ kw_403) (fun _ h9 => h9) rfl (tyX7_ok 3 (by decide)) rfl rfl (Nat.le_of_ble_eq_true rfl) dX7_launch_54 (fun H locs hP hD hS => ?_)
      have hP : va_P D vwCl [(h0, .inr (6, [.ref q1051, .ref h2, .int 0, .int 0, .ref h5, .int v3, .ref h4, .ref h3, .int v4, .int v5, .int v6, .int v7])), (q1051, .inl (c 0, n1052, .inl (fun _ => 0))), (h2, .inl (c 0, n10, .inl f11))] H := hP
      have hD : va_D A [(h0, .inr (6, [.ref q1051, .ref h2, .int 0, .int 0, .ref h5, .int v3, .ref h4, .ref h3, .int v4, .int v5, .int v6, .int v7])), (q1051, .inl (c 0, n1052, .inl (fun _ => 0))), (h2, .inl (c 0, n10, .inl f11))] := hD
      refine lv_aload_n hx hb dX7_launch_57 rfl (lv_at hl 1 rfl) ?_
      refine lv_iload_n hx hb dX7_launch_58 rfl (lv_at hl 2 rfl) ?_
      refine lv_iconst (v := 1) hx hb dX7_launch_59 (by decide) ?_
      refine W.ofTS (fun hTc hZc => ?_)
      have hk0 : (0 : Int32).toInt = 0 := by decide
      have hk0 : (1 : Int32).toInt = 1 := by decide
      refine fin_vp (run_Vp (n := 2) (ci := 6) ⟨hx, hb, hml, hown, hts⟩ (m_X7_note l D c h0 q1051 h2 H.size (TS H) 0 0 (.ref h5) v3 (.ref h4) (.ref h3) v4 v5 v6 v7 (fun _ => 0) n1052 f11 n10 a1 1 (by decide) (by decide) gv3 gv4 gv6 gv7 ga1 (by decide) (by omega) (by omega) (QOK.none (by decide)) (NewQ.none (by decide)) hv1056 (by omega)) (hP.sub [0, 1, 2] rfl) (hD.sub [0, 1, 2] (by decide) rfl) hK hN rfl rfl kw_848 kw_850 kw_12 kw_120 kw_851 ⟨rfl, by decide +kernel⟩ ⟨(Nat.le_of_ble_eq_true rfl), (Nat.le_of_ble_eq_true rfl)⟩ rfl rfl rfl hl.1 rfl (Nat.le_of_ble_eq_true rfl) dX7_launch_60 ⟨show (n1052 + n10 / 256 - (n8 + n10 / 256)) + (69632 - (n1052 + n10 / 256)) ≤ 69632 - (n8 + n10 / 256) by omega, show (2 * n1052 + 2 * n10 - (2 * n8 + 2 * n10)) + (2228224 - (2 * n1052 + 2 * n10)) ≤ 2228224 - (2 * n8 + 2 * n10) by omega⟩) hP hD hS hA [0, 1, 2] rfl (fun H locs t ht hB hj hS => ?_)
      obtain ⟨z1057, f1058, q1059, n1060, f1061, hq1062, hq1063, hq1064, hq1065, hq1066, hq1067, hq1068, hq1069, hq1070, hq1071, hP1, hD1⟩ := hB
      obtain ⟨hP, hD⟩ := hj (wr := []) (w1 := [(h0, .inr (6, [.ref q1051, .ref q1059, .int z1057, .int 0, .ref h5, .int v3, .ref h4, .ref h3, .int v4, .int v5, .int v6, .int v7])), (q1051, .inl (c 0, n1052, .inl f1058)), (q1059, .inl (c 0, n1060, .inl f1061))]) [] rfl (by decide) (by decide) hP1 hD1
      have hP : va_P D vwCl [(h0, .inr (6, [.ref q1051, .ref q1059, .int z1057, .int 0, .ref h5, .int v3, .ref h4, .ref h3, .int v4, .int v5, .int v6, .int v7])), (q1051, .inl (c 0, n1052, .inl f1058)), (q1059, .inl (c 0, n1060, .inl f1061))] H := hP
      have hD : va_D A [(h0, .inr (6, [.ref q1051, .ref q1059, .int z1057, .int 0, .ref h5, .int v3, .ref h4, .ref h3, .int v4, .int v5, .int v6, .int v7])), (q1051, .inl (c 0, n1052, .inl f1058)), (q1059, .inl (c 0, n1060, .inl f1061))] := hD
      refine W.tight (k := (n1052 + n1060 / 256 - (n8 + n10 / 256))) (n := (2 * n1052 + 2 * n1060 - (2 * n8 + 2 * n10))) (by rw [← ht]; omega) (by rw [← ht]; omega) ?_
      have hle1072 := hv1053.le
      have hle1073 := hq1065.le
      refine W.ofTS (fun hTr hZr => ?_)
      exact rV hQ hx hb hr hlocks hS (by omega) (by omega) dX7_launch_63 (fun t ht => ⟨z1057, q1051, n1052, f1058, q1059, n1060, f1061, hq1062, hv1053, hq1065, hq1063, (by omega), hq1066, (by omega), hq1067, (by rw [ht]; omega), (by rw [ht]; omega), by rw [ht]; exact hP, hD⟩)
    · refine lv_aload_n hx hb dX7_launch_38 rfl (lv_at hl 1 rfl) ?_
      refine lv_sipush (v := 256) hx hb dX7_launch_39 (by decide) ?_
      refine nw_arr (c := c) (a0 := (256, .inl (fun _ => 0))) (atype := .int) hx hb (hts _ kw_175) rfl 0 rfl (by intro C h; cases h) hK hP hD hS hA (fun _ => rfl) (by decide) (by decide +kernel) (by decide) (show (n1052 + n10 / 256 - (n8 + n10 / 256)) + 1 ≤ 69632 - (n8 + n10 / 256) by omega) (show (2 * n1052 + 2 * n10 - (2 * n8 + 2 * n10)) + 256 ≤ 2228224 - (2 * n8 + 2 * n10) by omega) dX7_launch_42 (fun q1074 H hP hD hS => ?_)
      have hP : va_P D vwCl [(h0, .inr (6, [.ref q1051, .ref h2, .int v1, .int v2, .ref h5, .int v3, .ref h4, .ref h3, .int v4, .int v5, .int v6, .int v7])), (q1051, .inl (c 0, n1052, .inl (fun _ => 0))), (h2, .inl (c 0, n10, .inl f11)), (q1074, .inl (c 0, 256, .inl (fun _ => 0)))] H := hP
      have hD : va_D A [(h0, .inr (6, [.ref q1051, .ref h2, .int v1, .int v2, .ref h5, .int v3, .ref h4, .ref h3, .int v4, .int v5, .int v6, .int v7])), (q1051, .inl (c 0, n1052, .inl (fun _ => 0))), (h2, .inl (c 0, n10, .inl f11)), (q1074, .inl (c 0, 256, .inl (fun _ => 0)))] := hD
      refine W.widen (k := (n1052 + n10 / 256 - (n8 + n10 / 256) + 1)) (n := (2 * n1052 + 2 * n10 - (2 * n8 + 2 * n10) + 256)) (by omega) (by omega) ?_
      refine va_put (D := D) (ci := 6) (v := .ref q1074) (ty := .array .int) (C := RX7) (T := TX7) (N := 12) hx hb hts i_X7 tyX7 tyX7_ok nmX7 hown hK hP hD hS 0 rfl rfl 1 (by decide) (hts _ kw_401) (fun _ h9 => h9) rfl (tyX7_ok 1 (by decide)) rfl rfl (Nat.le_of_ble_eq_true rfl) dX7_launch_44 (fun H locs hP hD hS => ?_)
      have hP : va_P D vwCl [(h0, .inr (6, [.ref q1051, .ref q1074, .int v1, .int v2, .ref h5, .int v3, .ref h4, .ref h3, .int v4, .int v5, .int v6, .int v7])), (q1051, .inl (c 0, n1052, .inl (fun _ => 0))), (h2, .inl (c 0, n10, .inl f11)), (q1074, .inl (c 0, 256, .inl (fun _ => 0)))] H := hP
      have hD : va_D A [(h0, .inr (6, [.ref q1051, .ref q1074, .int v1, .int v2, .ref h5, .int v3, .ref h4, .ref h3, .int v4, .int v5, .int v6, .int v7])), (q1051, .inl (c 0, n1052, .inl (fun _ => 0))), (h2, .inl (c 0, n10, .inl f11)), (q1074, .inl (c 0, 256, .inl (fun _ => 0)))] := hD
      have hP := hP.sub (ws' := [(h0, .inr (6, [.ref q1051, .ref q1074, .int v1, .int v2, .ref h5, .int v3, .ref h4, .ref h3, .int v4, .int v5, .int v6, .int v7])), (q1051, .inl (c 0, n1052, .inl (fun _ => 0))), (q1074, .inl (c 0, 256, .inl (fun _ => 0)))]) [0, 1, 3] rfl
      have hD := hD.sub (ws' := [(h0, .inr (6, [.ref q1051, .ref q1074, .int v1, .int v2, .ref h5, .int v3, .ref h4, .ref h3, .int v4, .int v5, .int v6, .int v7])), (q1051, .inl (c 0, n1052, .inl (fun _ => 0))), (q1074, .inl (c 0, 256, .inl (fun _ => 0)))]) [0, 1, 3] (by decide) rfl
      have hv1075 : Pq 256 := Pq.first
      refine W.widen (k := (n1052 + 256 / 256 - (n8 + n10 / 256))) (n := (2 * n1052 + 2 * 256 - (2 * n8 + 2 * n10))) (by omega) (by omega) ?_
      have hple := hv1053.le
      have hp2 := hv1053.p2
      have hqle := hv1075.le
      refine lv_aload_n hx hb dX7_launch_47 rfl (lv_at hl 1 rfl) ?_
      refine lv_iconst (v := 0) hx hb dX7_launch_48 (by decide) ?_
      refine va_put (D := D) (ci := 6) (v := .int 0) (ty := .int) (C := RX7) (T := TX7) (N := 12) hx hb hts i_X7 tyX7 tyX7_ok nmX7 hown hK hP hD hS 0 rfl rfl 2 (by decide) (hts _ kw_402) (fun _ h9 => h9) rfl (tyX7_ok 2 (by decide)) rfl rfl (Nat.le_of_ble_eq_true rfl) dX7_launch_49 (fun H locs hP hD hS => ?_)
      have hP : va_P D vwCl [(h0, .inr (6, [.ref q1051, .ref q1074, .int 0, .int v2, .ref h5, .int v3, .ref h4, .ref h3, .int v4, .int v5, .int v6, .int v7])), (q1051, .inl (c 0, n1052, .inl (fun _ => 0))), (q1074, .inl (c 0, 256, .inl (fun _ => 0)))] H := hP
      have hD : va_D A [(h0, .inr (6, [.ref q1051, .ref q1074, .int 0, .int v2, .ref h5, .int v3, .ref h4, .ref h3, .int v4, .int v5, .int v6, .int v7])), (q1051, .inl (c 0, n1052, .inl (fun _ => 0))), (q1074, .inl (c 0, 256, .inl (fun _ => 0)))] := hD
      refine lv_aload_n hx hb dX7_launch_52 rfl (lv_at hl 1 rfl) ?_
      refine lv_iconst (v := 0) hx hb dX7_launch_53 (by decide) ?_
      refine va_put (D := D) (ci := 6) (v := .int 0) (ty := .int) (C := RX7) (T := TX7) (N := 12) hx hb hts i_X7 tyX7 tyX7_ok nmX7 hown hK hP hD hS 0 rfl rfl 3 (by decide) (hts _ kw_403) (fun _ h9 => h9) rfl (tyX7_ok 3 (by decide)) rfl rfl (Nat.le_of_ble_eq_true rfl) dX7_launch_54 (fun H locs hP hD hS => ?_)
      have hP : va_P D vwCl [(h0, .inr (6, [.ref q1051, .ref q1074, .int 0, .int 0, .ref h5, .int v3, .ref h4, .ref h3, .int v4, .int v5, .int v6, .int v7])), (q1051, .inl (c 0, n1052, .inl (fun _ => 0))), (q1074, .inl (c 0, 256, .inl (fun _ => 0)))] H := hP
      have hD : va_D A [(h0, .inr (6, [.ref q1051, .ref q1074, .int 0, .int 0, .ref h5, .int v3, .ref h4, .ref h3, .int v4, .int v5, .int v6, .int v7])), (q1051, .inl (c 0, n1052, .inl (fun _ => 0))), (q1074, .inl (c 0, 256, .inl (fun _ => 0)))] := hD
      refine lv_aload_n hx hb dX7_launch_57 rfl (lv_at hl 1 rfl) ?_
      refine lv_iload_n hx hb dX7_launch_58 rfl (lv_at hl 2 rfl) ?_
      refine lv_iconst (v := 1) hx hb dX7_launch_59 (by decide) ?_
      refine W.ofTS (fun hTc hZc => ?_)
      have hk0 : (0 : Int32).toInt = 0 := by decide
      have hk0 : (1 : Int32).toInt = 1 := by decide
      refine fin_vp (run_Vp (n := 2) (ci := 6) ⟨hx, hb, hml, hown, hts⟩ (m_X7_note l D c h0 q1051 q1074 H.size (TS H) 0 0 (.ref h5) v3 (.ref h4) (.ref h3) v4 v5 v6 v7 (fun _ => 0) n1052 (fun _ => 0) 256 a1 1 (by decide) (by decide) gv3 gv4 gv6 gv7 ga1 (by decide) (by omega) (by omega) (QOK.none (by decide)) (NewQ.none (by decide)) hv1075 (by omega)) (hP.sub [0, 1, 2] rfl) (hD.sub [0, 1, 2] (by decide) rfl) hK hN rfl rfl kw_848 kw_850 kw_12 kw_120 kw_851 ⟨rfl, by decide +kernel⟩ ⟨(Nat.le_of_ble_eq_true rfl), (Nat.le_of_ble_eq_true rfl)⟩ rfl rfl rfl hl.1 rfl (Nat.le_of_ble_eq_true rfl) dX7_launch_60 ⟨show (n1052 + 256 / 256 - (n8 + n10 / 256)) + (69632 - (n1052 + 256 / 256)) ≤ 69632 - (n8 + n10 / 256) by omega, show (2 * n1052 + 2 * 256 - (2 * n8 + 2 * n10)) + (2228224 - (2 * n1052 + 2 * 256)) ≤ 2228224 - (2 * n8 + 2 * n10) by omega⟩) hP hD hS hA [0, 1, 2] rfl (fun H locs t ht hB hj hS => ?_)
      obtain ⟨z1076, f1077, q1078, n1079, f1080, hq1081, hq1082, hq1083, hq1084, hq1085, hq1086, hq1087, hq1088, hq1089, hq1090, hP1, hD1⟩ := hB
      obtain ⟨hP, hD⟩ := hj (wr := []) (w1 := [(h0, .inr (6, [.ref q1051, .ref q1078, .int z1076, .int 0, .ref h5, .int v3, .ref h4, .ref h3, .int v4, .int v5, .int v6, .int v7])), (q1051, .inl (c 0, n1052, .inl f1077)), (q1078, .inl (c 0, n1079, .inl f1080))]) [] rfl (by decide) (by decide) hP1 hD1
      have hP : va_P D vwCl [(h0, .inr (6, [.ref q1051, .ref q1078, .int z1076, .int 0, .ref h5, .int v3, .ref h4, .ref h3, .int v4, .int v5, .int v6, .int v7])), (q1051, .inl (c 0, n1052, .inl f1077)), (q1078, .inl (c 0, n1079, .inl f1080))] H := hP
      have hD : va_D A [(h0, .inr (6, [.ref q1051, .ref q1078, .int z1076, .int 0, .ref h5, .int v3, .ref h4, .ref h3, .int v4, .int v5, .int v6, .int v7])), (q1051, .inl (c 0, n1052, .inl f1077)), (q1078, .inl (c 0, n1079, .inl f1080))] := hD
      refine W.tight (k := (n1052 + n1079 / 256 - (n8 + n10 / 256))) (n := (2 * n1052 + 2 * n1079 - (2 * n8 + 2 * n10))) (by rw [← ht]; omega) (by rw [← ht]; omega) ?_
      have hle1091 := hv1053.le
      have hle1092 := hq1084.le
      refine W.ofTS (fun hTr hZr => ?_)
      exact rV hQ hx hb hr hlocks hS (by omega) (by omega) dX7_launch_63 (fun t ht => ⟨z1076, q1051, n1052, f1077, q1078, n1079, f1080, hq1081, hv1053, hq1084, hq1082, (by omega), hq1085, (by omega), (by omega), (by rw [ht]; omega), (by rw [ht]; omega), by rw [ht]; exact hP, hD⟩)
