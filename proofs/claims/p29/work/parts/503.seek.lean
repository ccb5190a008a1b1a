set_option maxHeartbeats 4000000 in
set_option maxRecDepth 100000 in
theorem m_J6_bitCount_0f7a4_1 (l : Launch) (D : va_G) (c : Nat → ClassId) (sz : Nat) (a0 : Int32) : Met l yJ6_bitCount_0f7a4 (Cond.code yJ6_bitCount_0f7a4 cJ6_bitCount_0f7a4 1 (some .int) :: TB) ({ frames := 0, cells := 0, slots := 0, locals := 0 } : Room) (va_Pc [.int a0] (PW D c [] sz)) ((QIx (fun A r t => (0 ≤ r.toInt ∧ r.toInt ≤ 63) ∧ (r = BC a0) ∧ va_P D vwCl [] t.heap ∧ va_D A [])) (va_A [] sz)) 0 0 (va_A [] sz) := by
  refine start2 (by decide +kernel) (Nat.le_of_ble_eq_true rfl) ?_
  intro p e s m below meth cd A ls Q hx hb hr hml hts hown hlocks hin hA hS hK hP hD hN hl hQ
  have hown : s.vm.findClass RJ6 = some m.cls := hown
  have hl : lv_has ls 1 [(0, .int a0)] := hl
  have hP : va_P D vwCl [] s.heap := hP
  refine lv_iload_n hx hb dJ6_bitCount_0f7a4_0 rfl (lv_at hl 0 rfl) ?_
  refine lv_iload_n hx hb dJ6_bitCount_0f7a4_1 rfl (lv_at hl 0 rfl) ?_
  refine lv_iconst (v := 1) hx hb dJ6_bitCount_0f7a4_2 (by decide) ?_
  refine lv_iushr hx hb dJ6_bitCount_0f7a4_3 rfl ?_
  refine o_any (fun z1001 ez1001 => ?_)
  refine lv_ldcw (v := 1431655765) hx hb hown (hts _ kw_746) dJ6_bitCount_0f7a4_4 ?_
  refine lv_iand hx hb dJ6_bitCount_0f7a4_7 ?_
  refine q_andr (Y := 1431655765) (by decide) (by omega) (fun z1002 ez1002 hz1002 => ?_)
  refine lv_isub hx hb dJ6_bitCount_0f7a4_8 ?_
  refine o_any (fun z1003 ez1003 => ?_)
  refine lv_istore_n (lv' := [(0, .int z1003)]) hx hb dJ6_bitCount_0f7a4_9 rfl hl (by decide) rfl (fun ls hl => ?_)
  refine lv_iload_n hx hb dJ6_bitCount_0f7a4_10 rfl (lv_at hl 0 rfl) ?_
  refine lv_ldcw (v := 858993459) hx hb hown (hts _ kw_747) dJ6_bitCount_0f7a4_11 ?_
  refine lv_iand hx hb dJ6_bitCount_0f7a4_14 ?_
  refine q_andr (Y := 858993459) (by decide) (by omega) (fun z1004 ez1004 hz1004 => ?_)
  refine lv_iload_n hx hb dJ6_bitCount_0f7a4_15 rfl (lv_at hl 0 rfl) ?_
  refine lv_iconst (v := 2) hx hb dJ6_bitCount_0f7a4_16 (by decide) ?_
  refine lv_iushr hx hb dJ6_bitCount_0f7a4_17 rfl ?_
  refine o_any (fun z1005 ez1005 => ?_)
  refine lv_ldcw (v := 858993459) hx hb hown (hts _ kw_747) dJ6_bitCount_0f7a4_18 ?_
  refine lv_iand hx hb dJ6_bitCount_0f7a4_21 ?_
  refine q_andr (Y := 858993459) (by decide) (by omega) (fun z1006 ez1006 hz1006 => ?_)
  refine lv_iadd hx hb dJ6_bitCount_0f7a4_22 ?_
  refine q_add (X := z1004.toInt) (Y := z1006.toInt) rfl rfl (by omega) (by omega) (fun z1007 ez1007 hz1007 => ?_)
  refine lv_istore_n (lv' := [(0, .int z1007)]) hx hb dJ6_bitCount_0f7a4_23 rfl hl (by decide) rfl (fun ls hl => ?_)
  refine lv_iload_n hx hb dJ6_bitCount_0f7a4_24 rfl (lv_at hl 0 rfl) ?_
  refine lv_iload_n hx hb dJ6_bitCount_0f7a4_25 rfl (lv_at hl 0 rfl) ?_
  refine lv_iconst (v := 4) hx hb dJ6_bitCount_0f7a4_26 (by decide) ?_
  refine lv_iushr hx hb dJ6_bitCount_0f7a4_27 rfl ?_
  refine o_any (fun z1008 ez1008 => ?_)
  refine lv_iadd hx hb dJ6_bitCount_0f7a4_28 ?_
  refine o_any (fun z1009 ez1009 => ?_)
  refine lv_ldcw (v := 252645135) hx hb hown (hts _ kw_748) dJ6_bitCount_0f7a4_29 ?_
  refine lv_iand hx hb dJ6_bitCount_0f7a4_32 ?_
  refine q_andr (Y := 252645135) (by decide) (by omega) (fun z1010 ez1010 hz1010 => ?_)
  refine lv_istore_n (lv' := [(0, .int z1010)]) hx hb dJ6_bitCount_0f7a4_33 rfl hl (by decide) rfl (fun ls hl => ?_)
  refine lv_iload_n hx hb dJ6_bitCount_0f7a4_34 rfl (lv_at hl 0 rfl) ?_
  refine lv_iload_n hx hb dJ6_bitCount_0f7a4_35 rfl (lv_at hl 0 rfl) ?_
  refine lv_bipush (v := 8) hx hb dJ6_bitCount_0f7a4_36 (by decide) ?_
  refine lv_iushr hx hb dJ6_bitCount_0f7a4_38 rfl ?_
  refine o_any (fun z1011 ez1011 => ?_)
  refine lv_iadd hx hb dJ6_bitCount_0f7a4_39 ?_
  refine o_any (fun z1012 ez1012 => ?_)
  refine lv_istore_n (lv' := [(0, .int z1012)]) hx hb dJ6_bitCount_0f7a4_40 rfl hl (by decide) rfl (fun ls hl => ?_)
  refine lv_iload_n hx hb dJ6_bitCount_0f7a4_41 rfl (lv_at hl 0 rfl) ?_
  refine lv_iload_n hx hb dJ6_bitCount_0f7a4_42 rfl (lv_at hl 0 rfl) ?_
  refine lv_bipush (v := 16) hx hb dJ6_bitCount_0f7a4_43 (by decide) ?_
  refine lv_iushr hx hb dJ6_bitCount_0f7a4_45 rfl ?_
  refine o_any (fun z1013 ez1013 => ?_)
  refine lv_iadd hx hb dJ6_bitCount_0f7a4_46 ?_
  refine o_any (fun z1014 ez1014 => ?_)
  refine lv_istore_n (lv' := [(0, .int z1014)]) hx hb dJ6_bitCount_0f7a4_47 rfl hl (by decide) rfl (fun ls hl => ?_)
  refine lv_iload_n hx hb dJ6_bitCount_0f7a4_48 rfl (lv_at hl 0 rfl) ?_
  refine lv_bipush (v := 63) hx hb dJ6_bitCount_0f7a4_49 (by decide) ?_
  refine lv_iand hx hb dJ6_bitCount_0f7a4_51 ?_
  refine q_mask (X := z1014.toInt) (M := 64) 6 rfl (by decide) (by decide) (by decide) (fun z1015 ez1015 hz1015 => ?_)
  have hv1016 : z1015 = BC a0 := by simp only [BC, bc5, bc4, bc3, bc2, bc1, ush, ez1015, ez1014, ez1012, ez1010, ez1009, ez1007, ez1004, ez1003, ez1002, ez1001, ez1006, ez1005, ez1008, ez1011, ez1013]
  exact rI hQ hx hb hr hlocks rfl hS (Nat.le_of_ble_eq_true rfl) (Nat.le_of_ble_eq_true rfl) dJ6_bitCount_0f7a4_52 (fun t ht => ⟨⟨by omega, by omega⟩, hv1016, by rw [ht]; exact hP, hD⟩)
set_option maxHeartbeats 4000000 in
set_option maxRecDepth 100000 in
theorem m_X10_lowestBit_1 (l : Launch) (D : va_G) (c : Nat → ClassId) (sz : Nat) (a0 : Int32) : Met l yX10_lowestBit (Cond.code yX10_lowestBit cX10_lowestBit 1 (some .int) :: TB) ({ frames := 1, cells := 0, slots := 0, locals := 20 } : Room) (va_Pc [.int a0] (PW D c [] sz)) ((QIx (fun A r t => (0 ≤ r.toInt ∧ r.toInt ≤ 63) ∧ (r = BC ((a0 &&& -a0) - 1)) ∧ va_P D vwCl [] t.heap ∧ va_D A [])) (va_A [] sz)) 0 0 (va_A [] sz) := by
  refine start2 (by decide +kernel) (Nat.le_of_ble_eq_true rfl) ?_
  intro p e s m below meth cd A ls Q hx hb hr hml hts hown hlocks hin hA hS hK hP hD hN hl hQ
  have hown : s.vm.findClass RX10 = some m.cls := hown
  have hl : lv_has ls 1 [(0, .int a0)] := hl
  have hP : va_P D vwCl [] s.heap := hP
  refine lv_iload_n hx hb dX10_lowestBit_0 rfl (lv_at hl 0 rfl) ?_
  refine lv_iload_n hx hb dX10_lowestBit_1 rfl (lv_at hl 0 rfl) ?_
  refine lv_ineg hx hb dX10_lowestBit_2 ?_
  refine o_any (fun z1001 ez1001 => ?_)
  refine lv_iand hx hb dX10_lowestBit_3 ?_
  refine o_any (fun z1002 ez1002 => ?_)
  refine lv_iconst (v := 1) hx hb dX10_lowestBit_4 (by decide) ?_
  refine lv_isub hx hb dX10_lowestBit_5 ?_
  refine o_any (fun z1003 ez1003 => ?_)
  refine fI (run_S (n := 1) ⟨hx, hb, hml, hown, hts⟩ (m_J6_bitCount_0f7a4_1 l D c s.heap.size z1003) (hP.sub [] rfl) (hD.sub [] (by decide) rfl) hK hN rfl rfl kw_743 kw_744 kw_130 kw_745 (by decide +kernel) ⟨(Nat.le_of_ble_eq_true rfl), (Nat.le_of_ble_eq_true rfl)⟩ rfl hl.1 rfl (Nat.le_of_ble_eq_true rfl) dX10_lowestBit_6 ⟨(Nat.le_of_ble_eq_true rfl), (Nat.le_of_ble_eq_true rfl)⟩) hP hD hS hA [] rfl (fun z1004 H locs t hB hj hS => ?_)
  obtain ⟨hq1005, hq1006, hP1, hD1⟩ := hB
  obtain ⟨hP, hD⟩ := hj (wr := []) (w1 := []) [] rfl (by decide) (by decide) hP1 hD1
  have hP : va_P D vwCl [] H := hP
  have hD : va_D A [] := hD
  have hv1007 : z1004 = BC ((a0 &&& -a0) - 1) := by rw [hq1006, ez1003, ez1002, ez1001]
  exact rI hQ hx hb hr hlocks rfl hS (Nat.le_of_ble_eq_true rfl) (Nat.le_of_ble_eq_true rfl) dX10_lowestBit_9 (fun t ht => ⟨hq1005, hv1007, by rw [ht]; exact hP, hD⟩)
set_option maxHeartbeats 4000000 in
set_option maxRecDepth 100000 in
theorem m_X7_spreadFrom (l : Launch) (D : va_G) (c : Nat → ClassId) (h0 h1 h2 h3 h4 h5 h6 h7 h8 h9 h10 h11 h12 : Nat) (sz : Nat) (ts0 : Nat) (v1 : Int32) (v2 : Int32) (v3 : Int32) (v4 : Int32) (v5 : Int32) (v6 : Int32) (v7 : Int32) (f9 : Nat → Int32) (n8 : Nat) (f11 : Nat → Int32) (n10 : Nat) (v12 : Int32) (v13 : Int32) (f14 : Nat → Int32) (f15 : Nat → Int32) (f21 : Nat → Int32) (f22 : Nat → Int32) (a1 : Int32) (a2 : Int32) (sb1 : Int) (gv1 : 0 ≤ v1.toInt ∧ v1.toInt ≤ 1048576) (gv2 : 0 ≤ v2.toInt ∧ v2.toInt ≤ 1048576) (gv3 : 0 ≤ v3.toInt ∧ v3.toInt ≤ 6) (gv4 : 0 ≤ v4.toInt ∧ v4.toInt ≤ 14) (gv6 : 0 ≤ v6.toInt ∧ v6.toInt ≤ 1048575) (gv7 : 0 ≤ v7.toInt ∧ v7.toInt ≤ 255) (gv12 : 0 ≤ v12.toInt ∧ v12.toInt ≤ 14) (gv13 : 0 ≤ v13.toInt ∧ v13.toInt ≤ 16383) (gf14 : Rg f14 0 16383) (gf15 : Rg f15 0 16383) (gf21 : Rg f21 0 7) (gf22 : Rg f22 0 7) (ga1 : 0 ≤ a1.toInt ∧ a1.toInt ≤ 1048575) (ga2 : 1 ≤ a2.toInt ∧ a2.toInt ≤ 3) (ge0 : Pm n8 sb1) (ge1 : sb1 ≤ 20) (ge2 : v4.toInt + 3 * v3.toInt ≤ sb1) (ge3 : v7.toInt = 0 ∨ v4.toInt + 11 ≤ sb1) (ge4 : QOK f9 f11 v1 n8) (ge5 : Pq n10) (ge6 : v1.toInt ≤ (n10 : Int)) (ge7 : a1.toInt < 16 * (n8 : Int)) (ge8 : OuOK v4 f14) (ge9 : OuOK v4 f15) : Met l yX7_spreadFrom (Cond.code yX7_spreadFrom cX7_spreadFrom 7 none :: TB) ({ frames := 3, cells := 69632 - (n8 + n10 / 256), slots := 2228224 - (2 * n8 + 2 * n10), locals := 62 } : Room) (va_Pc [.ref h0, .int a1, .int a2] (PWt D c [(h0, .inr (6, [.ref h1, .ref h2, .int v1, .int v2, .ref h12, .int v3, .ref h3, .ref h8, .int v4, .int v5, .int v6, .int v7])), (h1, .inl (c 0, n8, .inl f9)), (h2, .inl (c 0, n10, .inl f11)), (h3, .inr (3, [.int v12, .int v13, .ref h6, .ref h7, .ref h11, .ref h9, .ref h10, .ref h4, .ref h5])), (h4, .inl (c 0, 8, .inl f14)), (h5, .inl (c 0, 8, .inl f15)), (h6, .inl (c 0, 14, .inl f21)), (h7, .inl (c 0, 14, .inl f22))] sz ts0)) ((QV (fun A t => ∃ (z900 : Int32) (f901 : Nat → Int32) (q902 : Nat) (n903 : Nat) (f904 : Nat → Int32), (0 ≤ z900.toInt ∧ z900.toInt ≤ 1048576) ∧ (QOK f901 f904 z900 n8) ∧ (Pq n903) ∧ (z900.toInt ≤ (n903 : Int)) ∧ (n10 ≤ n903) ∧ (v1.toInt ≤ z900.toInt) ∧ (TS t.heap + (2 * n8 + 2 * n10) ≤ ts0 + (2 * n8 + 2 * n903)) ∧ (t.heap.size + (n8 + n10 / 256) ≤ sz + (n8 + n903 / 256)) ∧ va_P D vwCl [(h0, .inr (6, [.ref h1, .ref q902, .int z900, .int v2, .ref h12, .int v3, .ref h3, .ref h8, .int v4, .int v5, .int v6, .int v7])), (h1, .inl (c 0, n8, .inl f901)), (q902, .inl (c 0, n903, .inl f904)), (h3, .inr (3, [.int v12, .int v13, .ref h6, .ref h7, .ref h11, .ref h9, .ref h10, .ref h4, .ref h5])), (h4, .inl (c 0, 8, .inl f14)), (h5, .inl (c 0, 8, .inl f15)), (h6, .inl (c 0, 14, .inl f21)), (h7, .inl (c 0, 14, .inl f22))] t.heap ∧ va_D A [(h0, .inr (6, [.ref h1, .ref q902, .int z900, .int v2, .ref h12, .int v3, .ref h3, .ref h8, .int v4, .int v5, .int v6, .int v7])), (h1, .inl (c 0, n8, .inl f901)), (q902, .inl (c 0, n903, .inl f904)), (h3, .inr (3, [.int v12, .int v13, .ref h6, .ref h7, .ref h11, .ref h9, .ref h10, .ref h4, .ref h5])), (h4, .inl (c 0, 8, .inl f14)), (h5, .inl (c 0, 8, .inl f15)), (h6, .inl (c 0, 14, .inl f21)), (h7, .inl (c 0, 14, .inl f22))])) (va_A [(h0, .inr (6, [.ref h1, .ref h2, .int v1, .int v2, .ref h12, .int v3, .ref h3, .ref h8, .int v4, .int v5, .int v6, .int v7])), (h1, .inl (c 0, n8, .inl f9)), (h2, .inl (c 0, n10, .inl f11)), (h3, .inr (3, [.int v12, .int v13, .ref h6, .ref h7, .ref h11, .ref h9, .ref h10, .ref h4, .ref h5])), (h4, .inl (c 0, 8, .inl f14)), (h5, .inl (c 0, 8, .inl f15)), (h6, .inl (c 0, 14, .inl f21)), (h7, .inl (c 0, 14, .inl f22))] sz)) (69632 - (n8 + n10 / 256)) (2228224 - (2 * n8 + 2 * n10)) (va_A [(h0, .inr (6, [.ref h1, .ref h2, .int v1, .int v2, .ref h12, .int v3, .ref h3, .ref h8, .int v4, .int v5, .int v6, .int v7])), (h1, .inl (c 0, n8, .inl f9)), (h2, .inl (c 0, n10, .inl f11)), (h3, .inr (3, [.int v12, .int v13, .ref h6, .ref h7, .ref h11, .ref h9, .ref h10, .ref h4, .ref h5])), (h4, .inl (c 0, 8, .inl f14)), (h5, .inl (c 0, 8, .inl f15)), (h6, .inl (c 0, 14, .inl f21)), (h7, .inl (c 0, 14, .inl f22))] sz) := by
  refine start2p (by decide +kernel) (Nat.le_of_ble_eq_true rfl) ?_
  intro p e s m below meth cd A ls Q hx hb hr hml hts hown hlocks hin hA hS hK hP hD hN hz0 hT0 hl hQ
  have hown : s.vm.findClass RX7 = some m.cls := hown
  have hl : lv_has ls 7 [(0, .ref h0), (1, .int a1), (2, .int a2)] := hl
  have hP : va_P D vwCl [(h0, .inr (6, [.ref h1, .ref h2, .int v1, .int v2, .ref h12, .int v3, .ref h3, .ref h8, .int v4, .int v5, .int v6, .int v7])), (h1, .inl (c 0, n8, .inl f9)), (h2, .inl (c 0, n10, .inl f11)), (h3, .inr (3, [.int v12, .int v13, .ref h6, .ref h7, .ref h11, .ref h9, .ref h10, .ref h4, .ref h5])), (h4, .inl (c 0, 8, .inl f14)), (h5, .inl (c 0, 8, .inl f15)), (h6, .inl (c 0, 14, .inl f21)), (h7, .inl (c 0, 14, .inl f22))] s.heap := hP
  have hle1001 := ge0.le
  have hle1002 := ge5.le
  refine W.widen (k := (n8 + n10 / 256 - (n8 + n10 / 256))) (n := (2 * n8 + 2 * n10 - (2 * n8 + 2 * n10))) (Nat.zero_le _) (Nat.zero_le _) ?_
  refine lv_iconst (v := 0) hx hb dX7_spreadFrom_0 (by decide) ?_
  refine lv_istore_n (lv' := [(3, .int 0), (0, .ref h0), (1, .int a1), (2, .int a2)]) hx hb dX7_spreadFrom_1 rfl hl (by decide) rfl (fun ls hl => ?_)
  have lp1 : ∀ (n1 : Nat), ∀ (x1975 : Int32) (hx1975 : 0 ≤ x1975.toInt ∧ x1975.toInt ≤ 6) (x1976 : Int32) (hx1976 : 0 ≤ x1976.toInt ∧ x1976.toInt ≤ 1048576) (f1977 : Nat → Int32) (f1978 : Nat → Int32) (n1979 : Nat) (q1980 : Nat) (hi2140 : QOK f1977 f1978 x1976 n8) (hi2141 : Pq n1979) (hi2142 : x1976.toInt ≤ (n1979 : Int)) (hi2143 : n10 ≤ n1979) (hi2144 : v1.toInt ≤ x1976.toInt) (hm1 : (6 : Int) - x1975.toInt < (n1 : Int)) (H : Heap) (locs : List Loc) (hP : va_P D vwCl [(h0, .inr (6, [.ref h1, .ref q1980, .int x1976, .int v2, .ref h12, .int v3, .ref h3, .ref h8, .int v4, .int v5, .int v6, .int v7])), (h1, .inl (c 0, n8, .inl f1977)), (q1980, .inl (c 0, n1979, .inl f1978)), (h3, .inr (3, [.int v12, .int v13, .ref h6, .ref h7, .ref h11, .ref h9, .ref h10, .ref h4, .ref h5])), (h4, .inl (c 0, 8, .inl f14)), (h5, .inl (c 0, 8, .inl f15)), (h6, .inl (c 0, 14, .inl f21)), (h7, .inl (c 0, 14, .inl f22))] H) (hD : va_D A [(h0, .inr (6, [.ref h1, .ref q1980, .int x1976, .int v2, .ref h12, .int v3, .ref h3, .ref h8, .int v4, .int v5, .int v6, .int v7])), (h1, .inl (c 0, n8, .inl f1977)), (q1980, .inl (c 0, n1979, .inl f1978)), (h3, .inr (3, [.int v12, .int v13, .ref h6, .ref h7, .ref h11, .ref h9, .ref h10, .ref h4, .ref h5])), (h4, .inl (c 0, 8, .inl f14)), (h5, .inl (c 0, 8, .inl f15)), (h6, .inl (c 0, 14, .inl f21)), (h7, .inl (c 0, 14, .inl f22))]) (hS : va_S A s.heap H locs) (ls : Array Slot) (hl : lv_has ls 7 [(3, .int x1975), (0, .ref h0), (1, .int a1), (2, .int a2)]), W p l e ({ frames := 3, cells := 69632 - (n8 + n10 / 256), slots := 2228224 - (2 * n8 + 2 * n10), locals := 62 } : Room) s m [.ref h0, .int a1, .int a2].toArray below meth cd H locs (n8 + n1979 / 256 - (n8 + n10 / 256)) (2 * n8 + 2 * n1979 - (2 * n8 + 2 * n10)) Q (F0 m 2 ls []) := by
    intro n1
    induction n1 with
    | zero =>
      intro x1975 hx1975 x1976 hx1976 f1977 f1978 n1979 q1980 hi2140 hi2141 hi2142 hi2143 hi2144 hm1 H locs hP hD hS ls hl
      exact absurd hm1 (by omega)
    | succ n1 ih1 =>
      intro x1975 hx1975 x1976 hx1976 f1977 f1978 n1979 q1980 hi2140 hi2141 hi2142 hi2143 hi2144 hm1 H locs hP hD hS ls hl
      have hle2145 := ge0.le
      have hle2146 := hi2141.le
      refine lv_iload_n hx hb dX7_spreadFrom_2 rfl (lv_at hl 0 rfl) ?_
      refine lv_aload_n hx hb dX7_spreadFrom_3 rfl (lv_at hl 1 rfl) ?_
      refine va_get (D := D) (ci := 6) (v := .int v3) (C := RX7) (T := TX7) (N := 12) hx hb hts i_X7 hown hK hP 0 rfl rfl 5 (by decide) (hts _ kw_405) (fun _ h9 => h9) rfl dX7_spreadFrom_4 ?_
      refine B_icmp_ge (tgt := 83) (X := x1975.toInt) (Y := v3.toInt) hx hb dX7_spreadFrom_7 (by decide) rfl rfl (fun hc2147 => ?_) (fun hc2147 => ?_)
      · refine W.ofTS (fun hTr hZr => ?_)
        exact rV hQ hx hb hr hlocks hS (by omega) (by omega) dX7_spreadFrom_83 (fun t ht => ⟨x1976, f1977, q1980, n1979, f1978, hx1976, hi2140, hi2141, hi2142, hi2143, hi2144, (by rw [ht]; omega), (by rw [ht]; omega), by rw [ht]; exact hP, hD⟩)
      · refine lv_aload_n hx hb dX7_spreadFrom_10 rfl (lv_at hl 1 rfl) ?_
        refine lv_iload_n hx hb dX7_spreadFrom_11 rfl (lv_at hl 2 rfl) ?_
        refine lv_iload_n hx hb dX7_spreadFrom_12 rfl (lv_at hl 0 rfl) ?_
        refine fI (run_V (n := 2) (ci := 6) ⟨hx, hb, hml, hown, hts⟩ (m_X7_leading l D c h0 h3 h4 h5 h8 h1 q1980 h12 H.size x1976 v2 v3 v4 v5 v6 v7 v12 v13 (.ref h6) (.ref h7) (.ref h11) (.ref h9) (.ref h10) f14 f15 a1 x1975 hx1976 gv2 gv3 gv4 gv6 gv7 gv12 gv13 gf14 gf15 ga1 ⟨by omega, by omega⟩ ge8 ge9) (hP.sub [0, 3, 4, 5] rfl) (hD.sub [0, 3, 4, 5] (by decide) rfl) hK hN rfl rfl kw_881 kw_883 kw_17 kw_120 kw_884 ⟨rfl, by decide +kernel⟩ ⟨(Nat.le_of_ble_eq_true rfl), (Nat.le_of_ble_eq_true rfl)⟩ rfl rfl rfl hl.1 rfl (Nat.le_of_ble_eq_true rfl) dX7_spreadFrom_13 ⟨show (n8 + n1979 / 256 - (n8 + n10 / 256)) + 0 ≤ 69632 - (n8 + n10 / 256) by omega, show (2 * n8 + 2 * n1979 - (2 * n8 + 2 * n10)) + 0 ≤ 2228224 - (2 * n8 + 2 * n10) by omega⟩) hP hD hS hA [0, 3, 4, 5] rfl (fun z2148 H locs t hB hj hS => ?_)
        obtain ⟨hq2149, hq2150, hP1, hD1⟩ := hB
        obtain ⟨hP, hD⟩ := hj (wr := [(h1, .inl (c 0, n8, .inl f1977)), (q1980, .inl (c 0, n1979, .inl f1978)), (h6, .inl (c 0, 14, .inl f21)), (h7, .inl (c 0, 14, .inl f22))]) (w1 := [(h0, .inr (6, [.ref h1, .ref q1980, .int x1976, .int v2, .ref h12, .int v3, .ref h3, .ref h8, .int v4, .int v5, .int v6, .int v7])), (h3, .inr (3, [.int v12, .int v13, .ref h6, .ref h7, .ref h11, .ref h9, .ref h10, .ref h4, .ref h5])), (h4, .inl (c 0, 8, .inl f14)), (h5, .inl (c 0, 8, .inl f15))]) [1, 2, 6, 7] rfl (by decide) (by decide) hP1 hD1
        have hP : va_P D vwCl [(h1, .inl (c 0, n8, .inl f1977)), (q1980, .inl (c 0, n1979, .inl f1978)), (h6, .inl (c 0, 14, .inl f21)), (h7, .inl (c 0, 14, .inl f22)), (h0, .inr (6, [.ref h1, .ref q1980, .int x1976, .int v2, .ref h12, .int v3, .ref h3, .ref h8, .int v4, .int v5, .int v6, .int v7])), (h3, .inr (3, [.int v12, .int v13, .ref h6, .ref h7, .ref h11, .ref h9, .ref h10, .ref h4, .ref h5])), (h4, .inl (c 0, 8, .inl f14)), (h5, .inl (c 0, 8, .inl f15))] H := hP
        have hD : va_D A [(h1, .inl (c 0, n8, .inl f1977)), (q1980, .inl (c 0, n1979, .inl f1978)), (h6, .inl (c 0, 14, .inl f21)), (h7, .inl (c 0, 14, .inl f22)), (h0, .inr (6, [.ref h1, .ref q1980, .int x1976, .int v2, .ref h12, .int v3, .ref h3, .ref h8, .int v4, .int v5, .int v6, .int v7])), (h3, .inr (3, [.int v12, .int v13, .ref h6, .ref h7, .ref h11, .ref h9, .ref h10, .ref h4, .ref h5])), (h4, .inl (c 0, 8, .inl f14)), (h5, .inl (c 0, 8, .inl f15))] := hD
        refine lv_istore (lv' := [(4, .int z2148), (3, .int x1975), (0, .ref h0), (1, .int a1), (2, .int a2)]) hx hb dX7_spreadFrom_16 hl (by decide) rfl (fun ls hl => ?_)
        refine lv_iconst (v := 0) hx hb dX7_spreadFrom_18 (by decide) ?_
        refine lv_istore (lv' := [(5, .int 0), (4, .int z2148), (3, .int x1975), (0, .ref h0), (1, .int a1), (2, .int a2)]) hx hb dX7_spreadFrom_19 hl (by decide) rfl (fun ls hl => ?_)
        have lp2 : ∀ (n2 : Nat), ∀ (x2284 : Int32) (hx2284 : 0 ≤ x2284.toInt ∧ x2284.toInt ≤ 14) (x2285 : Int32) (hx2285 : 0 ≤ x2285.toInt ∧ x2285.toInt ≤ 16383) (f2286 : Nat → Int32) (f2287 : Nat → Int32) (n2288 : Nat) (q2289 : Nat) (x2290 : Int32) (hx2290 : 0 ≤ x2290.toInt ∧ x2290.toInt ≤ 1048576) (hi2308 : QOK f2286 f2287 x2290 n8) (hi2309 : Pq n2288) (hi2310 : x2290.toInt ≤ (n2288 : Int)) (hi2311 : n10 ≤ n2288) (hi2312 : v1.toInt ≤ x2290.toInt) (hi2313 : x2285.toInt < P2 v4) (hm2 : (14 : Int) - x2284.toInt < (n2 : Int)) (H : Heap) (locs : List Loc) (hP : va_P D vwCl [(h1, .inl (c 0, n8, .inl f2286)), (q2289, .inl (c 0, n2288, .inl f2287)), (h6, .inl (c 0, 14, .inl f21)), (h7, .inl (c 0, 14, .inl f22)), (h0, .inr (6, [.ref h1, .ref q2289, .int x2290, .int v2, .ref h12, .int v3, .ref h3, .ref h8, .int v4, .int v5, .int v6, .int v7])), (h3, .inr (3, [.int v12, .int v13, .ref h6, .ref h7, .ref h11, .ref h9, .ref h10, .ref h4, .ref h5])), (h4, .inl (c 0, 8, .inl f14)), (h5, .inl (c 0, 8, .inl f15))] H) (hD : va_D A [(h1, .inl (c 0, n8, .inl f2286)), (q2289, .inl (c 0, n2288, .inl f2287)), (h6, .inl (c 0, 14, .inl f21)), (h7, .inl (c 0, 14, .inl f22)), (h0, .inr (6, [.ref h1, .ref q2289, .int x2290, .int v2, .ref h12, .int v3, .ref h3, .ref h8, .int v4, .int v5, .int v6, .int v7])), (h3, .inr (3, [.int v12, .int v13, .ref h6, .ref h7, .ref h11, .ref h9, .ref h10, .ref h4, .ref h5])), (h4, .inl (c 0, 8, .inl f14)), (h5, .inl (c 0, 8, .inl f15))]) (hS : va_S A s.heap H locs) (ls : Array Slot) (hl : lv_has ls 7 [(5, .int x2284), (4, .int x2285), (3, .int x1975), (0, .ref h0), (1, .int a1), (2, .int a2)]), W p l e ({ frames := 3, cells := 69632 - (n8 + n10 / 256), slots := 2228224 - (2 * n8 + 2 * n10), locals := 62 } : Room) s m [.ref h0, .int a1, .int a2].toArray below meth cd H locs (n8 + n2288 / 256 - (n8 + n10 / 256)) (2 * n8 + 2 * n2288 - (2 * n8 + 2 * n10)) Q (F0 m 21 ls []) := by
          intro n2
          induction n2 with
          | zero =>
            intro x2284 hx2284 x2285 hx2285 f2286 f2287 n2288 q2289 x2290 hx2290 hi2308 hi2309 hi2310 hi2311 hi2312 hi2313 hm2 H locs hP hD hS ls hl
            exact absurd hm2 (by omega)
          | succ n2 ih2 =>
            intro x2284 hx2284 x2285 hx2285 f2286 f2287 n2288 q2289 x2290 hx2290 hi2308 hi2309 hi2310 hi2311 hi2312 hi2313 hm2 H locs hP hD hS ls hl
            have hle2314 := ge0.le
            have hle2315 := hi2309.le
            refine lv_iload hx hb dX7_spreadFrom_21 (lv_at hl 0 rfl) ?_
            refine lv_bipush (v := 14) hx hb dX7_spreadFrom_23 (by decide) ?_
            refine B_icmp_ge (tgt := 77) (X := x2284.toInt) (Y := 14) hx hb dX7_spreadFrom_25 (by decide) rfl (by decide) (fun hc2316 => ?_) (fun hc2316 => ?_)
            · obtain ⟨z2317, ez2317, hz2317⟩ : ∃ y : Int32, y = x1975 + Int32.ofInt 1 ∧ y.toInt = x1975.toInt + 1 := ⟨_, rfl, ad_int (A := x1975.toInt) (B := 1) rfl (by decide) (by omega) (by omega)⟩
              refine lv_iinc (v := z2317) (lv' := [(3, .int z2317), (5, .int x2284), (4, .int x2285), (0, .ref h0), (1, .int a1), (2, .int a2)]) hx hb dX7_spreadFrom_77 hl (k := 2) rfl ez2317.symm (by decide) rfl (fun ls hl => ?_)
              refine lv_goto (tgt := 2) hx hb dX7_spreadFrom_80 (by decide) ?_
              exact ih1 z2317 ⟨by omega, by omega⟩ x2290 hx2290 f2286 f2287 n2288 q2289 hi2308 hi2309 hi2310 hi2311 hi2312 (by omega) H locs (hP.sub [4, 0, 1, 5, 6, 7, 2, 3] rfl) (hD.sub [4, 0, 1, 5, 6, 7, 2, 3] (by decide) rfl) hS ls (lv_sub hl [0, 3, 4, 5] rfl)
            · refine lv_iload hx hb dX7_spreadFrom_28 (lv_at hl 1 rfl) ?_
              refine B_if_eq (tgt := 77) (X := x2285.toInt) hx hb dX7_spreadFrom_30 (by decide) rfl (fun hc2318 => ?_) (fun hc2318 => ?_)
              · obtain ⟨z2319, ez2319, hz2319⟩ : ∃ y : Int32, y = x1975 + Int32.ofInt 1 ∧ y.toInt = x1975.toInt + 1 := ⟨_, rfl, ad_int (A := x1975.toInt) (B := 1) rfl (by decide) (by omega) (by omega)⟩
                refine lv_iinc (v := z2319) (lv' := [(3, .int z2319), (5, .int x2284), (4, .int x2285), (0, .ref h0), (1, .int a1), (2, .int a2)]) hx hb dX7_spreadFrom_77 hl (k := 2) rfl ez2319.symm (by decide) rfl (fun ls hl => ?_)
                refine lv_goto (tgt := 2) hx hb dX7_spreadFrom_80 (by decide) ?_
                exact ih1 z2319 ⟨by omega, by omega⟩ x2290 hx2290 f2286 f2287 n2288 q2289 hi2308 hi2309 hi2310 hi2311 hi2312 (by omega) H locs (hP.sub [4, 0, 1, 5, 6, 7, 2, 3] rfl) (hD.sub [4, 0, 1, 5, 6, 7, 2, 3] (by decide) rfl) hS ls (lv_sub hl [0, 3, 4, 5] rfl)
              · refine lv_aload_n hx hb dX7_spreadFrom_33 rfl (lv_at hl 3 rfl) ?_
                refine lv_iload_n hx hb dX7_spreadFrom_34 rfl (lv_at hl 4 rfl) ?_
                refine lv_iload_n hx hb dX7_spreadFrom_35 rfl (lv_at hl 2 rfl) ?_
                refine lv_iload hx hb dX7_spreadFrom_36 (lv_at hl 1 rfl) ?_
                refine fI (run_SN (n := 1) ⟨hx, hb, hml, hown, hts⟩ (m_X10_lowestBit_1 l D c H.size x2285) (hP.sub [] rfl) (hD.sub [] (by decide) rfl) hK hN rfl rfl (hN.1 _ (List.mem_of_getElem? (i := 7) rfl)) kw_886 kw_113 kw_887 (by decide +kernel) ⟨(Nat.le_of_ble_eq_true rfl), (Nat.le_of_ble_eq_true rfl)⟩ rfl hl.1 rfl (Nat.le_of_ble_eq_true rfl) dX7_spreadFrom_38 ⟨show (n8 + n2288 / 256 - (n8 + n10 / 256)) + 0 ≤ 69632 - (n8 + n10 / 256) by omega, show (2 * n8 + 2 * n2288 - (2 * n8 + 2 * n10)) + 0 ≤ 2228224 - (2 * n8 + 2 * n10) by omega⟩) hP hD hS hA [] rfl (fun z2320 H locs t hB hj hS => ?_)
                obtain ⟨hq2321, hq2322, hP1, hD1⟩ := hB
                obtain ⟨hP, hD⟩ := hj (wr := [(h1, .inl (c 0, n8, .inl f2286)), (q2289, .inl (c 0, n2288, .inl f2287)), (h6, .inl (c 0, 14, .inl f21)), (h7, .inl (c 0, 14, .inl f22)), (h0, .inr (6, [.ref h1, .ref q2289, .int x2290, .int v2, .ref h12, .int v3, .ref h3, .ref h8, .int v4, .int v5, .int v6, .int v7])), (h3, .inr (3, [.int v12, .int v13, .ref h6, .ref h7, .ref h11, .ref h9, .ref h10, .ref h4, .ref h5])), (h4, .inl (c 0, 8, .inl f14)), (h5, .inl (c 0, 8, .inl f15))]) (w1 := []) [0, 1, 2, 3, 4, 5, 6, 7] rfl (by decide) (by decide) hP1 hD1
                have hP : va_P D vwCl [(h1, .inl (c 0, n8, .inl f2286)), (q2289, .inl (c 0, n2288, .inl f2287)), (h6, .inl (c 0, 14, .inl f21)), (h7, .inl (c 0, 14, .inl f22)), (h0, .inr (6, [.ref h1, .ref q2289, .int x2290, .int v2, .ref h12, .int v3, .ref h3, .ref h8, .int v4, .int v5, .int v6, .int v7])), (h3, .inr (3, [.int v12, .int v13, .ref h6, .ref h7, .ref h11, .ref h9, .ref h10, .ref h4, .ref h5])), (h4, .inl (c 0, 8, .inl f14)), (h5, .inl (c 0, 8, .inl f15))] H := hP
                have hD : va_D A [(h1, .inl (c 0, n8, .inl f2286)), (q2289, .inl (c 0, n2288, .inl f2287)), (h6, .inl (c 0, 14, .inl f21)), (h7, .inl (c 0, 14, .inl f22)), (h0, .inr (6, [.ref h1, .ref q2289, .int x2290, .int v2, .ref h12, .int v3, .ref h3, .ref h8, .int v4, .int v5, .int v6, .int v7])), (h3, .inr (3, [.int v12, .int v13, .ref h6, .ref h7, .ref h11, .ref h9, .ref h10, .ref h4, .ref h5])), (h4, .inl (c 0, 8, .inl f14)), (h5, .inl (c 0, 8, .inl f15))] := hD
                have hlw := low_lt (x := x2285) (n := v4) (by omega) (by omega) hi2313 rfl rfl hq2322
                refine fI (run_V (n := 3) (ci := 6) ⟨hx, hb, hml, hown, hts⟩ (m_X7_behind l D c h0 h3 h6 h7 h8 h1 q2289 h12 H.size x2290 v2 v3 v4 v5 v6 v7 v12 v13 (.ref h11) (.ref h9) (.ref h10) (.ref h4) (.ref h5) f21 f22 a1 x1975 z2320 n8 sb1 hx2290 gv2 gv3 gv4 gv6 gv7 gv12 gv13 gf21 gf22 ga1 ⟨by omega, by omega⟩ ⟨by omega, by omega⟩ ge0 ge7 (by omega) (by omega) ge3 ge1) (hP.sub [4, 5, 2, 3] rfl) (hD.sub [4, 5, 2, 3] (by decide) rfl) hK hN rfl rfl kw_888 kw_890 kw_18 kw_120 kw_891 ⟨rfl, by decide +kernel⟩ ⟨(Nat.le_of_ble_eq_true rfl), (Nat.le_of_ble_eq_true rfl)⟩ rfl rfl rfl hl.1 rfl (Nat.le_of_ble_eq_true rfl) dX7_spreadFrom_41 ⟨show (n8 + n2288 / 256 - (n8 + n10 / 256)) + 0 ≤ 69632 - (n8 + n10 / 256) by omega, show (2 * n8 + 2 * n2288 - (2 * n8 + 2 * n10)) + 0 ≤ 2228224 - (2 * n8 + 2 * n10) by omega⟩) hP hD hS hA [4, 5, 2, 3] rfl (fun z2323 H locs t hB hj hS => ?_)
                obtain ⟨hq2324, hq2325, hP1, hD1⟩ := hB
                obtain ⟨hP, hD⟩ := hj (wr := [(h1, .inl (c 0, n8, .inl f2286)), (q2289, .inl (c 0, n2288, .inl f2287)), (h4, .inl (c 0, 8, .inl f14)), (h5, .inl (c 0, 8, .inl f15))]) (w1 := [(h0, .inr (6, [.ref h1, .ref q2289, .int x2290, .int v2, .ref h12, .int v3, .ref h3, .ref h8, .int v4, .int v5, .int v6, .int v7])), (h3, .inr (3, [.int v12, .int v13, .ref h6, .ref h7, .ref h11, .ref h9, .ref h10, .ref h4, .ref h5])), (h6, .inl (c 0, 14, .inl f21)), (h7, .inl (c 0, 14, .inl f22))]) [0, 1, 6, 7] rfl (by decide) (by decide) hP1 hD1
                have hP : va_P D vwCl [(h1, .inl (c 0, n8, .inl f2286)), (q2289, .inl (c 0, n2288, .inl f2287)), (h4, .inl (c 0, 8, .inl f14)), (h5, .inl (c 0, 8, .inl f15)), (h0, .inr (6, [.ref h1, .ref q2289, .int x2290, .int v2, .ref h12, .int v3, .ref h3, .ref h8, .int v4, .int v5, .int v6, .int v7])), (h3, .inr (3, [.int v12, .int v13, .ref h6, .ref h7, .ref h11, .ref h9, .ref h10, .ref h4, .ref h5])), (h6, .inl (c 0, 14, .inl f21)), (h7, .inl (c 0, 14, .inl f22))] H := hP
                have hD : va_D A [(h1, .inl (c 0, n8, .inl f2286)), (q2289, .inl (c 0, n2288, .inl f2287)), (h4, .inl (c 0, 8, .inl f14)), (h5, .inl (c 0, 8, .inl f15)), (h0, .inr (6, [.ref h1, .ref q2289, .int x2290, .int v2, .ref h12, .int v3, .ref h3, .ref h8, .int v4, .int v5, .int v6, .int v7])), (h3, .inr (3, [.int v12, .int v13, .ref h6, .ref h7, .ref h11, .ref h9, .ref h10, .ref h4, .ref h5])), (h6, .inl (c 0, 14, .inl f21)), (h7, .inl (c 0, 14, .inl f22))] := hD
                refine lv_istore (lv' := [(6, .int z2323), (5, .int x2284), (4, .int x2285), (3, .int x1975), (0, .ref h0), (1, .int a1), (2, .int a2)]) hx hb dX7_spreadFrom_44 hl (by decide) rfl (fun ls hl => ?_)
                refine lv_iload hx hb dX7_spreadFrom_46 (lv_at hl 2 rfl) ?_
                refine lv_iload hx hb dX7_spreadFrom_48 (lv_at hl 2 rfl) ?_
                refine lv_iconst (v := 1) hx hb dX7_spreadFrom_50 (by decide) ?_
                refine lv_isub hx hb dX7_spreadFrom_51 ?_
                refine q_sub (X := x2285.toInt) (Y := 1) rfl (by decide) (by omega) (by omega) (fun z2326 ez2326 hz2326 => ?_)
                refine lv_iand hx hb dX7_spreadFrom_52 ?_
                refine q_and2 (X := x2285.toInt) (Y := z2326.toInt) rfl rfl (by omega) (by omega) (fun z2327 ez2327 hz2327 => ?_)
                refine lv_istore (lv' := [(4, .int z2327), (6, .int z2323), (5, .int x2284), (3, .int x1975), (0, .ref h0), (1, .int a1), (2, .int a2)]) hx hb dX7_spreadFrom_53 hl (by decide) rfl (fun ls hl => ?_)
                refine lv_aload_n hx hb dX7_spreadFrom_55 rfl (lv_at hl 4 rfl) ?_
                refine lv_iload hx hb dX7_spreadFrom_56 (lv_at hl 1 rfl) ?_
                refine fI (run_V (n := 1) (ci := 6) ⟨hx, hb, hml, hown, hts⟩ (m_X7_mark l D c h0 h1 H.size (.ref q2289) x2290 v2 (.ref h12) v3 (.ref h3) (.ref h8) v4 v5 v6 v7 f2286 n8 z2323 hx2290 gv2 gv3 gv4 gv6 gv7 hq2324 hq2325) (hP.sub [4, 0] rfl) (hD.sub [4, 0] (by decide) rfl) hK hN rfl rfl kw_892 kw_894 kw_19 kw_120 kw_895 ⟨rfl, by decide +kernel⟩ ⟨(Nat.le_of_ble_eq_true rfl), (Nat.le_of_ble_eq_true rfl)⟩ rfl rfl rfl hl.1 rfl (Nat.le_of_ble_eq_true rfl) dX7_spreadFrom_58 ⟨show (n8 + n2288 / 256 - (n8 + n10 / 256)) + 0 ≤ 69632 - (n8 + n10 / 256) by omega, show (2 * n8 + 2 * n2288 - (2 * n8 + 2 * n10)) + 0 ≤ 2228224 - (2 * n8 + 2 * n10) by omega⟩) hP hD hS hA [4, 0] rfl (fun z2328 H locs t hB hj hS => ?_)
                obtain ⟨hq2329, hq2330, hP1, hD1⟩ := hB
                obtain ⟨hP, hD⟩ := hj (wr := [(q2289, .inl (c 0, n2288, .inl f2287)), (h4, .inl (c 0, 8, .inl f14)), (h5, .inl (c 0, 8, .inl f15)), (h3, .inr (3, [.int v12, .int v13, .ref h6, .ref h7, .ref h11, .ref h9, .ref h10, .ref h4, .ref h5])), (h6, .inl (c 0, 14, .inl f21)), (h7, .inl (c 0, 14, .inl f22))]) (w1 := [(h0, .inr (6, [.ref h1, .ref q2289, .int x2290, .int v2, .ref h12, .int v3, .ref h3, .ref h8, .int v4, .int v5, .int v6, .int v7])), (h1, .inl (c 0, n8, .inl f2286))]) [1, 2, 3, 5, 6, 7] rfl (by decide) (by decide) hP1 hD1
                have hP : va_P D vwCl [(q2289, .inl (c 0, n2288, .inl f2287)), (h4, .inl (c 0, 8, .inl f14)), (h5, .inl (c 0, 8, .inl f15)), (h3, .inr (3, [.int v12, .int v13, .ref h6, .ref h7, .ref h11, .ref h9, .ref h10, .ref h4, .ref h5])), (h6, .inl (c 0, 14, .inl f21)), (h7, .inl (c 0, 14, .inl f22)), (h0, .inr (6, [.ref h1, .ref q2289, .int x2290, .int v2, .ref h12, .int v3, .ref h3, .ref h8, .int v4, .int v5, .int v6, .int v7])), (h1, .inl (c 0, n8, .inl f2286))] H := hP
                have hD : va_D A [(q2289, .inl (c 0, n2288, .inl f2287)), (h4, .inl (c 0, 8, .inl f14)), (h5, .inl (c 0, 8, .inl f15)), (h3, .inr (3, [.int v12, .int v13, .ref h6, .ref h7, .ref h11, .ref h9, .ref h10, .ref h4, .ref h5])), (h6, .inl (c 0, 14, .inl f21)), (h7, .inl (c 0, 14, .inl f22)), (h0, .inr (6, [.ref h1, .ref q2289, .int x2290, .int v2, .ref h12, .int v3, .ref h3, .ref h8, .int v4, .int v5, .int v6, .int v7])), (h1, .inl (c 0, n8, .inl f2286))] := hD
                refine B_if_ne (tgt := 71) (X := z2328.toInt) hx hb dX7_spreadFrom_61 (by decide) rfl (fun hc2331 => ?_) (fun hc2331 => ?_)
                · obtain ⟨z2332, ez2332, hz2332⟩ : ∃ y : Int32, y = x2284 + Int32.ofInt 1 ∧ y.toInt = x2284.toInt + 1 := ⟨_, rfl, ad_int (A := x2284.toInt) (B := 1) rfl (by decide) (by omega) (by omega)⟩
                  refine lv_iinc (v := z2332) (lv' := [(5, .int z2332), (4, .int z2327), (6, .int z2323), (3, .int x1975), (0, .ref h0), (1, .int a1), (2, .int a2)]) hx hb dX7_spreadFrom_71 hl (k := 2) rfl ez2332.symm (by decide) rfl (fun ls hl => ?_)
                  refine lv_goto (tgt := 21) hx hb dX7_spreadFrom_74 (by decide) ?_
                  have hv2333 : z2327.toInt < P2 v4 := Int.lt_of_le_of_lt (b := x2285.toInt) (by omega) hi2313
                  exact ih2 z2332 ⟨by omega, by omega⟩ z2327 ⟨by omega, by omega⟩ f2286 f2287 n2288 q2289 x2290 hx2290 hi2308 hi2309 hi2310 hi2311 hi2312 hv2333 (by omega) H locs (hP.sub [7, 0, 4, 5, 6, 3, 1, 2] rfl) (hD.sub [7, 0, 4, 5, 6, 3, 1, 2] (by decide) rfl) hS ls (lv_sub hl [0, 1, 3, 4, 5, 6] rfl)
                · refine lv_aload_n hx hb dX7_spreadFrom_64 rfl (lv_at hl 4 rfl) ?_
                  refine lv_iload hx hb dX7_spreadFrom_65 (lv_at hl 1 rfl) ?_
                  refine lv_iload_n hx hb dX7_spreadFrom_67 rfl (lv_at hl 6 rfl) ?_
                  have hv2334 : NewQ f2287 x2290 z2323 := QOK.new hi2308 (by omega)
                  refine W.ofTS (fun hTc hZc => ?_)
                  refine fin_vp (run_Vp (n := 2) (ci := 6) ⟨hx, hb, hml, hown, hts⟩ (m_X7_note l D c h0 h1 q2289 H.size (TS H) x2290 v2 (.ref h12) v3 (.ref h3) (.ref h8) v4 v5 v6 v7 f2286 n8 f2287 n2288 z2323 a2 hx2290 gv2 gv3 gv4 gv6 gv7 hq2324 ga2 (by omega) hq2325 hi2308 hv2334 hi2309 hi2310) (hP.sub [6, 7, 0] rfl) (hD.sub [6, 7, 0] (by decide) rfl) hK hN rfl rfl kw_848 kw_850 kw_12 kw_120 kw_851 ⟨rfl, by decide +kernel⟩ ⟨(Nat.le_of_ble_eq_true rfl), (Nat.le_of_ble_eq_true rfl)⟩ rfl rfl rfl hl.1 rfl (Nat.le_of_ble_eq_true rfl) dX7_spreadFrom_68 ⟨show (n8 + n2288 / 256 - (n8 + n10 / 256)) + (69632 - (n8 + n2288 / 256)) ≤ 69632 - (n8 + n10 / 256) by omega, show (2 * n8 + 2 * n2288 - (2 * n8 + 2 * n10)) + (2228224 - (2 * n8 + 2 * n2288)) ≤ 2228224 - (2 * n8 + 2 * n10) by omega⟩) hP hD hS hA [6, 7, 0] rfl (fun H locs t ht hB hj hS => ?_)
                  obtain ⟨z2335, f2336, q2337, n2338, f2339, hq2340, hq2341, hq2342, hq2343, hq2344, hq2345, hq2346, hq2347, hq2348, hq2349, hP1, hD1⟩ := hB
                  obtain ⟨hP, hD⟩ := hj (wr := [(h4, .inl (c 0, 8, .inl f14)), (h5, .inl (c 0, 8, .inl f15)), (h3, .inr (3, [.int v12, .int v13, .ref h6, .ref h7, .ref h11, .ref h9, .ref h10, .ref h4, .ref h5])), (h6, .inl (c 0, 14, .inl f21)), (h7, .inl (c 0, 14, .inl f22))]) (w1 := [(h0, .inr (6, [.ref h1, .ref q2337, .int z2335, .int v2, .ref h12, .int v3, .ref h3, .ref h8, .int v4, .int v5, .int v6, .int v7])), (h1, .inl (c 0, n8, .inl f2336)), (q2337, .inl (c 0, n2338, .inl f2339))]) [1, 2, 3, 4, 5] rfl (by decide) (by decide) hP1 hD1
                  have hP : va_P D vwCl [(h4, .inl (c 0, 8, .inl f14)), (h5, .inl (c 0, 8, .inl f15)), (h3, .inr (3, [.int v12, .int v13, .ref h6, .ref h7, .ref h11, .ref h9, .ref h10, .ref h4, .ref h5])), (h6, .inl (c 0, 14, .inl f21)), (h7, .inl (c 0, 14, .inl f22)), (h0, .inr (6, [.ref h1, .ref q2337, .int z2335, .int v2, .ref h12, .int v3, .ref h3, .ref h8, .int v4, .int v5, .int v6, .int v7])), (h1, .inl (c 0, n8, .inl f2336)), (q2337, .inl (c 0, n2338, .inl f2339))] H := hP
                  have hD : va_D A [(h4, .inl (c 0, 8, .inl f14)), (h5, .inl (c 0, 8, .inl f15)), (h3, .inr (3, [.int v12, .int v13, .ref h6, .ref h7, .ref h11, .ref h9, .ref h10, .ref h4, .ref h5])), (h6, .inl (c 0, 14, .inl f21)), (h7, .inl (c 0, 14, .inl f22)), (h0, .inr (6, [.ref h1, .ref q2337, .int z2335, .int v2, .ref h12, .int v3, .ref h3, .ref h8, .int v4, .int v5, .int v6, .int v7])), (h1, .inl (c 0, n8, .inl f2336)), (q2337, .inl (c 0, n2338, .inl f2339))] := hD
                  refine W.tight (k := (n8 + n2338 / 256 - (n8 + n10 / 256))) (n := (2 * n8 + 2 * n2338 - (2 * n8 + 2 * n10))) (by rw [← ht]; omega) (by rw [← ht]; omega) ?_
                  have hle2350 := ge0.le
                  have hle2351 := hq2343.le
                  obtain ⟨z2352, ez2352, hz2352⟩ : ∃ y : Int32, y = x2284 + Int32.ofInt 1 ∧ y.toInt = x2284.toInt + 1 := ⟨_, rfl, ad_int (A := x2284.toInt) (B := 1) rfl (by decide) (by omega) (by omega)⟩
                  refine lv_iinc (v := z2352) (lv' := [(5, .int z2352), (4, .int z2327), (6, .int z2323), (3, .int x1975), (0, .ref h0), (1, .int a1), (2, .int a2)]) hx hb dX7_spreadFrom_71 hl (k := 2) rfl ez2352.symm (by decide) rfl (fun ls hl => ?_)
                  refine lv_goto (tgt := 21) hx hb dX7_spreadFrom_74 (by decide) ?_
                  have hv2353 : z2327.toInt < P2 v4 := Int.lt_of_le_of_lt (b := x2285.toInt) (by omega) hi2313
                  exact ih2 z2352 ⟨by omega, by omega⟩ z2327 ⟨by omega, by omega⟩ f2336 f2339 n2338 q2337 z2335 hq2340 hq2341 hq2343 hq2344 (by omega) (by omega) hv2353 (by omega) H locs (hP.sub [6, 7, 3, 4, 5, 2, 0, 1] rfl) (hD.sub [6, 7, 3, 4, 5, 2, 0, 1] (by decide) rfl) hS ls (lv_sub hl [0, 1, 3, 4, 5, 6] rfl)
        have hk0 : (0 : Int32).toInt = 0 := by decide
        exact lp2 (((14 : Int) - 0).toNat + 1) 0 (by decide) z2148 hq2149 f1977 f1978 n1979 q1980 x1976 hx1976 hi2140 hi2141 hi2142 hi2143 hi2144 hq2150 (by omega) H locs hP hD hS ls (lv_sub hl [0, 1, 2, 3, 4, 5] rfl)
  have hk0 : (0 : Int32).toInt = 0 := by decide
  exact lp1 (((6 : Int) - 0).toNat + 1) 0 (by decide) v1 gv1 f9 f11 n10 h2 ge4 ge5 ge6 (by omega) (by omega) (by omega) s.heap [] hP hD hS ls (lv_sub hl [0, 1, 2, 3] rfl)
set_option maxHeartbeats 4000000 in
set_option maxRecDepth 100000 in
theorem m_X7_seek (l : Launch) (D : va_G) (c : Nat → ClassId) (h0 h1 h2 h3 h4 h5 h6 h7 h8 h9 h10 h11 h12 : Nat) (sz : Nat) (ts0 : Nat) (v1 : Int32) (v2 : Int32) (v3 : Int32) (v4 : Int32) (v5 : Int32) (v6 : Int32) (v7 : Int32) (f9 : Nat → Int32) (n8 : Nat) (f11 : Nat → Int32) (n10 : Nat) (v12 : Int32) (v13 : Int32) (f14 : Nat → Int32) (f15 : Nat → Int32) (f41 : Nat → Int32) (f42 : Nat → Int32) (a1 : Int32) (a2 : Int32) (sb1 : Int) (gv1 : 0 ≤ v1.toInt ∧ v1.toInt ≤ 1048576) (gv2 : 0 ≤ v2.toInt ∧ v2.toInt ≤ 1048576) (gv3 : 0 ≤ v3.toInt ∧ v3.toInt ≤ 6) (gv4 : 0 ≤ v4.toInt ∧ v4.toInt ≤ 14) (gv6 : 0 ≤ v6.toInt ∧ v6.toInt ≤ 1048575) (gv7 : 0 ≤ v7.toInt ∧ v7.toInt ≤ 255) (gv12 : 0 ≤ v12.toInt ∧ v12.toInt ≤ 14) (gv13 : 0 ≤ v13.toInt ∧ v13.toInt ≤ 16383) (gf14 : Rg f14 0 16383) (gf15 : Rg f15 0 16383) (gf41 : Rg f41 0 7) (gf42 : Rg f42 0 7) (ge0 : Pm n8 sb1) (ge1 : sb1 ≤ 20) (ge2 : v4.toInt + 3 * v3.toInt ≤ sb1) (ge3 : v7.toInt = 0 ∨ v4.toInt + 11 ≤ sb1) (ge4 : QOK f9 f11 v1 n8) (ge5 : Pq n10) (ge6 : v1.toInt ≤ (n10 : Int)) (ge7 : v2.toInt ≤ v1.toInt) (ge8 : OuOK v4 f14) (ge9 : OuOK v4 f15) : Met l yX7_seek (Cond.code yX7_seek cX7_seek 6 (some .int) :: TB) ({ frames := 4, cells := 69632 - (n8 + n10 / 256), slots := 2228224 - (2 * n8 + 2 * n10), locals := 88 } : Room) (va_Pc [.ref h0, .int a1, .int a2] (PWt D c [(h0, .inr (6, [.ref h1, .ref h2, .int v1, .int v2, .ref h12, .int v3, .ref h3, .ref h8, .int v4, .int v5, .int v6, .int v7])), (h1, .inl (c 0, n8, .inl f9)), (h2, .inl (c 0, n10, .inl f11)), (h3, .inr (3, [.int v12, .int v13, .ref h6, .ref h7, .ref h11, .ref h9, .ref h10, .ref h4, .ref h5])), (h4, .inl (c 0, 8, .inl f14)), (h5, .inl (c 0, 8, .inl f15)), (h6, .inl (c 0, 14, .inl f41)), (h7, .inl (c 0, 14, .inl f42))] sz ts0)) ((QIx (fun A r t => ∃ (z900 : Int32) (z901 : Int32) (f902 : Nat → Int32) (q903 : Nat) (n904 : Nat) (f905 : Nat → Int32), (0 ≤ z900.toInt ∧ z900.toInt ≤ 1048576) ∧ (0 ≤ z901.toInt ∧ z901.toInt ≤ 1048576) ∧ ((-1) ≤ r.toInt ∧ r.toInt ≤ 1048575) ∧ (QOK f902 f905 z900 n8) ∧ (Pq n904) ∧ (z900.toInt ≤ (n904 : Int)) ∧ (n10 ≤ n904) ∧ (z901.toInt ≤ z900.toInt) ∧ (TS t.heap + (2 * n8 + 2 * n10) ≤ ts0 + (2 * n8 + 2 * n904)) ∧ (t.heap.size + (n8 + n10 / 256) ≤ sz + (n8 + n904 / 256)) ∧ va_P D vwCl [(h0, .inr (6, [.ref h1, .ref q903, .int z900, .int z901, .ref h12, .int v3, .ref h3, .ref h8, .int v4, .int v5, .int v6, .int v7])), (h1, .inl (c 0, n8, .inl f902)), (q903, .inl (c 0, n904, .inl f905)), (h3, .inr (3, [.int v12, .int v13, .ref h6, .ref h7, .ref h11, .ref h9, .ref h10, .ref h4, .ref h5])), (h4, .inl (c 0, 8, .inl f14)), (h5, .inl (c 0, 8, .inl f15)), (h6, .inl (c 0, 14, .inl f41)), (h7, .inl (c 0, 14, .inl f42))] t.heap ∧ va_D A [(h0, .inr (6, [.ref h1, .ref q903, .int z900, .int z901, .ref h12, .int v3, .ref h3, .ref h8, .int v4, .int v5, .int v6, .int v7])), (h1, .inl (c 0, n8, .inl f902)), (q903, .inl (c 0, n904, .inl f905)), (h3, .inr (3, [.int v12, .int v13, .ref h6, .ref h7, .ref h11, .ref h9, .ref h10, .ref h4, .ref h5])), (h4, .inl (c 0, 8, .inl f14)), (h5, .inl (c 0, 8, .inl f15)), (h6, .inl (c 0, 14, .inl f41)), (h7, .inl (c 0, 14, .inl f42))])) (va_A [(h0, .inr (6, [.ref h1, .ref h2, .int v1, .int v2, .ref h12, .int v3, .ref h3, .ref h8, .int v4, .int v5, .int v6, .int v7])), (h1, .inl (c 0, n8, .inl f9)), (h2, .inl (c 0, n10, .inl f11)), (h3, .inr (3, [.int v12, .int v13, .ref h6, .ref h7, .ref h11, .ref h9, .ref h10, .ref h4, .ref h5])), (h4, .inl (c 0, 8, .inl f14)), (h5, .inl (c 0, 8, .inl f15)), (h6, .inl (c 0, 14, .inl f41)), (h7, .inl (c 0, 14, .inl f42))] sz)) (69632 - (n8 + n10 / 256)) (2228224 - (2 * n8 + 2 * n10)) (va_A [(h0, .inr (6, [.ref h1, .ref h2, .int v1, .int v2, .ref h12, .int v3, .ref h3, .ref h8, .int v4, .int v5, .int v6, .int v7])), (h1, .inl (c 0, n8, .inl f9)), (h2, .inl (c 0, n10, .inl f11)), (h3, .inr (3, [.int v12, .int v13, .ref h6, .ref h7, .ref h11, .ref h9, .ref h10, .ref h4, .ref h5])), (h4, .inl (c 0, 8, .inl f14)), (h5, .inl (c 0, 8, .inl f15)), (h6, .inl (c 0, 14, .inl f41)), (h7, .inl (c 0, 14, .inl f42))] sz) := by
  refine start2p (by decide +kernel) (Nat.le_of_ble_eq_true rfl) ?_
  intro p e s m below meth cd A ls Q hx hb hr hml hts hown hlocks hin hA hS hK hP hD hN hz0 hT0 hl hQ
  have hown : s.vm.findClass RX7 = some m.cls := hown
  have hl : lv_has ls 6 [(0, .ref h0), (1, .int a1), (2, .int a2)] := hl
  have hP : va_P D vwCl [(h0, .inr (6, [.ref h1, .ref h2, .int v1, .int v2, .ref h12, .int v3, .ref h3, .ref h8, .int v4, .int v5, .int v6, .int v7])), (h1, .inl (c 0, n8, .inl f9)), (h2, .inl (c 0, n10, .inl f11)), (h3, .inr (3, [.int v12, .int v13, .ref h6, .ref h7, .ref h11, .ref h9, .ref h10, .ref h4, .ref h5])), (h4, .inl (c 0, 8, .inl f14)), (h5, .inl (c 0, 8, .inl f15)), (h6, .inl (c 0, 14, .inl f41)), (h7, .inl (c 0, 14, .inl f42))] s.heap := hP
  have hle1001 := ge0.le
  have hle1002 := ge5.le
  refine W.widen (k := (n8 + n10 / 256 - (n8 + n10 / 256))) (n := (2 * n8 + 2 * n10 - (2 * n8 + 2 * n10))) (Nat.zero_le _) (Nat.zero_le _) ?_
  refine lv_iconst (v := 0) hx hb dX7_seek_0 (by decide) ?_
  refine lv_istore_n (lv' := [(3, .int 0), (0, .ref h0), (1, .int a1), (2, .int a2)]) hx hb dX7_seek_1 rfl hl (by decide) rfl (fun ls hl => ?_)
  have lp1 : ∀ (n1 : Nat), ∀ (x8361 : Int32) (hx8361 : 0 ≤ x8361.toInt ∧ x8361.toInt ≤ 1048576) (hm1 : (1048576 : Int) - x8361.toInt < (n1 : Int)) (H : Heap) (locs : List Loc) (hP : va_P D vwCl [(h0, .inr (6, [.ref h1, .ref h2, .int v1, .int v2, .ref h12, .int v3, .ref h3, .ref h8, .int v4, .int v5, .int v6, .int v7])), (h1, .inl (c 0, n8, .inl f9)), (h2, .inl (c 0, n10, .inl f11)), (h3, .inr (3, [.int v12, .int v13, .ref h6, .ref h7, .ref h11, .ref h9, .ref h10, .ref h4, .ref h5])), (h4, .inl (c 0, 8, .inl f14)), (h5, .inl (c 0, 8, .inl f15)), (h6, .inl (c 0, 14, .inl f41)), (h7, .inl (c 0, 14, .inl f42))] H) (hD : va_D A [(h0, .inr (6, [.ref h1, .ref h2, .int v1, .int v2, .ref h12, .int v3, .ref h3, .ref h8, .int v4, .int v5, .int v6, .int v7])), (h1, .inl (c 0, n8, .inl f9)), (h2, .inl (c 0, n10, .inl f11)), (h3, .inr (3, [.int v12, .int v13, .ref h6, .ref h7, .ref h11, .ref h9, .ref h10, .ref h4, .ref h5])), (h4, .inl (c 0, 8, .inl f14)), (h5, .inl (c 0, 8, .inl f15)), (h6, .inl (c 0, 14, .inl f41)), (h7, .inl (c 0, 14, .inl f42))]) (hS : va_S A s.heap H locs) (ls : Array Slot) (hl : lv_has ls 6 [(3, .int x8361), (0, .ref h0), (1, .int a1), (2, .int a2)]), W p l e ({ frames := 4, cells := 69632 - (n8 + n10 / 256), slots := 2228224 - (2 * n8 + 2 * n10), locals := 88 } : Room) s m [.ref h0, .int a1, .int a2].toArray below meth cd H locs (n8 + n10 / 256 - (n8 + n10 / 256)) (2 * n8 + 2 * n10 - (2 * n8 + 2 * n10)) Q (F0 m 2 ls []) := by
    intro n1
    induction n1 with
    | zero =>
      intro x8361 hx8361 hm1 H locs hP hD hS ls hl
      exact absurd hm1 (by omega)
    | succ n1 ih1 =>
      intro x8361 hx8361 hm1 H locs hP hD hS ls hl
      have hle10197 := ge0.le
      have hle10198 := ge5.le
      refine lv_iload_n hx hb dX7_seek_2 rfl (lv_at hl 0 rfl) ?_
      refine lv_aload_n hx hb dX7_seek_3 rfl (lv_at hl 1 rfl) ?_
      refine va_get (D := D) (ci := 6) (v := .int v1) (C := RX7) (T := TX7) (N := 12) hx hb hts i_X7 hown hK hP 0 rfl rfl 2 (by decide) (hts _ kw_402) (fun _ h9 => h9) rfl dX7_seek_4 ?_
      refine B_icmp_ge (tgt := 30) (X := x8361.toInt) (Y := v1.toInt) hx hb dX7_seek_7 (by decide) rfl rfl (fun hc10199 => ?_) (fun hc10199 => ?_)
      · refine lv_iconst (v := 1) hx hb dX7_seek_30 (by decide) ?_
        refine lv_istore_n (lv' := [(3, .int 1), (0, .ref h0), (1, .int a1), (2, .int a2)]) hx hb dX7_seek_31 rfl hl (by decide) rfl (fun ls hl => ?_)
        have lp2 : ∀ (n2 : Nat), ∀ (x11716 : Int32) (hx11716 : 1 ≤ x11716.toInt ∧ x11716.toInt ≤ 1048576) (x11717 : Int32) (hx11717 : 0 ≤ x11717.toInt ∧ x11717.toInt ≤ 1048576) (x11718 : Int32) (hx11718 : 0 ≤ x11718.toInt ∧ x11718.toInt ≤ 1048576) (f11719 : Nat → Int32) (f11720 : Nat → Int32) (n11721 : Nat) (q11722 : Nat) (hi12030 : QOK f11719 f11720 x11717 n8) (hi12031 : Pq n11721) (hi12032 : x11717.toInt ≤ (n11721 : Int)) (hi12033 : n10 ≤ n11721) (hi12034 : x11718.toInt ≤ x11717.toInt) (hm2 : (1048576 : Int) - x11716.toInt < (n2 : Int)) (H : Heap) (locs : List Loc) (hP : va_P D vwCl [(h0, .inr (6, [.ref h1, .ref q11722, .int x11717, .int x11718, .ref h12, .int v3, .ref h3, .ref h8, .int v4, .int v5, .int v6, .int v7])), (h1, .inl (c 0, n8, .inl f11719)), (q11722, .inl (c 0, n11721, .inl f11720)), (h3, .inr (3, [.int v12, .int v13, .ref h6, .ref h7, .ref h11, .ref h9, .ref h10, .ref h4, .ref h5])), (h4, .inl (c 0, 8, .inl f14)), (h5, .inl (c 0, 8, .inl f15)), (h6, .inl (c 0, 14, .inl f41)), (h7, .inl (c 0, 14, .inl f42))] H) (hD : va_D A [(h0, .inr (6, [.ref h1, .ref q11722, .int x11717, .int x11718, .ref h12, .int v3, .ref h3, .ref h8, .int v4, .int v5, .int v6, .int v7])), (h1, .inl (c 0, n8, .inl f11719)), (q11722, .inl (c 0, n11721, .inl f11720)), (h3, .inr (3, [.int v12, .int v13, .ref h6, .ref h7, .ref h11, .ref h9, .ref h10, .ref h4, .ref h5])), (h4, .inl (c 0, 8, .inl f14)), (h5, .inl (c 0, 8, .inl f15)), (h6, .inl (c 0, 14, .inl f41)), (h7, .inl (c 0, 14, .inl f42))]) (hS : va_S A s.heap H locs) (ls : Array Slot) (hl : lv_has ls 6 [(3, .int x11716), (0, .ref h0), (1, .int a1), (2, .int a2)]), W p l e ({ frames := 4, cells := 69632 - (n8 + n10 / 256), slots := 2228224 - (2 * n8 + 2 * n10), locals := 88 } : Room) s m [.ref h0, .int a1, .int a2].toArray below meth cd H locs (n8 + n11721 / 256 - (n8 + n10 / 256)) (2 * n8 + 2 * n11721 - (2 * n8 + 2 * n10)) Q (F0 m 32 ls []) := by
          intro n2
          induction n2 with
          | zero =>
            intro x11716 hx11716 x11717 hx11717 x11718 hx11718 f11719 f11720 n11721 q11722 hi12030 hi12031 hi12032 hi12033 hi12034 hm2 H locs hP hD hS ls hl
            exact absurd hm2 (by omega)
          | succ n2 ih2 =>
            intro x11716 hx11716 x11717 hx11717 x11718 hx11718 f11719 f11720 n11721 q11722 hi12030 hi12031 hi12032 hi12033 hi12034 hm2 H locs hP hD hS ls hl
            have hle12035 := ge0.le
            have hle12036 := hi12031.le
            refine lv_iload_n hx hb dX7_seek_32 rfl (lv_at hl 0 rfl) ?_
            refine lv_ldc (v := 1048576) hx hb hown (hts _ kw_876) dX7_seek_33 ?_
            refine B_icmp_ge (tgt := 136) (X := x11716.toInt) (Y := 1048576) hx hb dX7_seek_35 (by decide) rfl (by decide) (fun hc12037 => ?_) (fun hc12037 => ?_)
            · refine lv_iconst (v := (-1)) hx hb dX7_seek_136 (by decide) ?_
              refine W.ofTS (fun hTr hZr => ?_)
              have hk0 : ((-1) : Int32).toInt = (-1) := by decide
              exact rI hQ hx hb hr hlocks rfl hS (by omega) (by omega) dX7_seek_137 (fun t ht => ⟨x11717, x11718, f11719, q11722, n11721, f11720, hx11717, hx11718, by decide, hi12030, hi12031, hi12032, hi12033, hi12034, (by rw [ht]; omega), (by rw [ht]; omega), by rw [ht]; exact hP, hD⟩)
            · refine lv_aload_n hx hb dX7_seek_38 rfl (lv_at hl 1 rfl) ?_
              refine va_get (D := D) (ci := 6) (v := .int x11718) (C := RX7) (T := TX7) (N := 12) hx hb hts i_X7 hown hK hP 0 rfl rfl 3 (by decide) (hts _ kw_403) (fun _ h9 => h9) rfl dX7_seek_39 ?_
              refine lv_aload_n hx hb dX7_seek_42 rfl (lv_at hl 1 rfl) ?_
              refine va_get (D := D) (ci := 6) (v := .int x11717) (C := RX7) (T := TX7) (N := 12) hx hb hts i_X7 hown hK hP 0 rfl rfl 2 (by decide) (hts _ kw_402) (fun _ h9 => h9) rfl dX7_seek_43 ?_
              refine B_icmp_ge (tgt := 136) (X := x11718.toInt) (Y := x11717.toInt) hx hb dX7_seek_46 (by decide) rfl rfl (fun hc12038 => ?_) (fun hc12038 => ?_)
              · refine lv_iconst (v := (-1)) hx hb dX7_seek_136 (by decide) ?_
                refine W.ofTS (fun hTr hZr => ?_)
                have hk0 : ((-1) : Int32).toInt = (-1) := by decide
                exact rI hQ hx hb hr hlocks rfl hS (by omega) (by omega) dX7_seek_137 (fun t ht => ⟨x11717, x11718, f11719, q11722, n11721, f11720, hx11717, hx11718, by decide, hi12030, hi12031, hi12032, hi12033, hi12034, (by rw [ht]; omega), (by rw [ht]; omega), by rw [ht]; exact hP, hD⟩)
              · refine lv_aload_n hx hb dX7_seek_49 rfl (lv_at hl 1 rfl) ?_
                refine va_get (D := D) (ci := 6) (v := .int x11717) (C := RX7) (T := TX7) (N := 12) hx hb hts i_X7 hown hK hP 0 rfl rfl 2 (by decide) (hts _ kw_402) (fun _ h9 => h9) rfl dX7_seek_50 ?_
                refine lv_istore (lv' := [(4, .int x11717), (3, .int x11716), (0, .ref h0), (1, .int a1), (2, .int a2)]) hx hb dX7_seek_53 hl (by decide) rfl (fun ls hl => ?_)
                refine lv_aload_n hx hb dX7_seek_55 rfl (lv_at hl 2 rfl) ?_
                refine va_get (D := D) (ci := 6) (v := .int x11718) (C := RX7) (T := TX7) (N := 12) hx hb hts i_X7 hown hK hP 0 rfl rfl 3 (by decide) (hts _ kw_403) (fun _ h9 => h9) rfl dX7_seek_56 ?_
                refine lv_istore (lv' := [(5, .int x11718), (4, .int x11717), (3, .int x11716), (0, .ref h0), (1, .int a1), (2, .int a2)]) hx hb dX7_seek_59 hl (by decide) rfl (fun ls hl => ?_)
                have lp3 : ∀ (n3 : Nat), ∀ (x12287 : Int32) (hx12287 : 0 ≤ x12287.toInt ∧ x12287.toInt ≤ 1048576) (x12288 : Int32) (hx12288 : 0 ≤ x12288.toInt ∧ x12288.toInt ≤ 1048576) (f12289 : Nat → Int32) (f12290 : Nat → Int32) (n12291 : Nat) (q12292 : Nat) (hi12344 : QOK f12289 f12290 x12288 n8) (hi12345 : Pq n12291) (hi12346 : x12288.toInt ≤ (n12291 : Int)) (hi12347 : n10 ≤ n12291) (hi12348 : x11717.toInt ≤ x12288.toInt) (hi12349 : x12287.toInt ≤ x11717.toInt) (hm3 : (1048576 : Int) - x12287.toInt < (n3 : Int)) (H : Heap) (locs : List Loc) (hP : va_P D vwCl [(h0, .inr (6, [.ref h1, .ref q12292, .int x12288, .int x11718, .ref h12, .int v3, .ref h3, .ref h8, .int v4, .int v5, .int v6, .int v7])), (h1, .inl (c 0, n8, .inl f12289)), (q12292, .inl (c 0, n12291, .inl f12290)), (h3, .inr (3, [.int v12, .int v13, .ref h6, .ref h7, .ref h11, .ref h9, .ref h10, .ref h4, .ref h5])), (h4, .inl (c 0, 8, .inl f14)), (h5, .inl (c 0, 8, .inl f15)), (h6, .inl (c 0, 14, .inl f41)), (h7, .inl (c 0, 14, .inl f42))] H) (hD : va_D A [(h0, .inr (6, [.ref h1, .ref q12292, .int x12288, .int x11718, .ref h12, .int v3, .ref h3, .ref h8, .int v4, .int v5, .int v6, .int v7])), (h1, .inl (c 0, n8, .inl f12289)), (q12292, .inl (c 0, n12291, .inl f12290)), (h3, .inr (3, [.int v12, .int v13, .ref h6, .ref h7, .ref h11, .ref h9, .ref h10, .ref h4, .ref h5])), (h4, .inl (c 0, 8, .inl f14)), (h5, .inl (c 0, 8, .inl f15)), (h6, .inl (c 0, 14, .inl f41)), (h7, .inl (c 0, 14, .inl f42))]) (hS : va_S A s.heap H locs) (ls : Array Slot) (hl : lv_has ls 6 [(5, .int x12287), (4, .int x11717), (3, .int x11716), (0, .ref h0), (1, .int a1), (2, .int a2)]), W p l e ({ frames := 4, cells := 69632 - (n8 + n10 / 256), slots := 2228224 - (2 * n8 + 2 * n10), locals := 88 } : Room) s m [.ref h0, .int a1, .int a2].toArray below meth cd H locs (n8 + n12291 / 256 - (n8 + n10 / 256)) (2 * n8 + 2 * n12291 - (2 * n8 + 2 * n10)) Q (F0 m 61 ls []) := by
                  intro n3
                  induction n3 with
                  | zero =>
                    intro x12287 hx12287 x12288 hx12288 f12289 f12290 n12291 q12292 hi12344 hi12345 hi12346 hi12347 hi12348 hi12349 hm3 H locs hP hD hS ls hl
                    exact absurd hm3 (by omega)
                  | succ n3 ih3 =>
                    intro x12287 hx12287 x12288 hx12288 f12289 f12290 n12291 q12292 hi12344 hi12345 hi12346 hi12347 hi12348 hi12349 hm3 H locs hP hD hS ls hl
                    have hle12350 := ge0.le
                    have hle12351 := hi12345.le
                    refine lv_iload hx hb dX7_seek_61 (lv_at hl 0 rfl) ?_
                    refine lv_iload hx hb dX7_seek_63 (lv_at hl 1 rfl) ?_
                    refine B_icmp_ge (tgt := 90) (X := x12287.toInt) (Y := x11717.toInt) hx hb dX7_seek_65 (by decide) rfl rfl (fun hc12352 => ?_) (fun hc12352 => ?_)
                    · refine lv_aload_n hx hb dX7_seek_90 rfl (lv_at hl 3 rfl) ?_
                      refine lv_iload hx hb dX7_seek_91 (lv_at hl 1 rfl) ?_
                      refine va_put (D := D) (ci := 6) (v := .int x11717) (ty := .int) (C := RX7) (T := TX7) (N := 12) hx hb hts i_X7 tyX7 tyX7_ok nmX7 hown hK hP hD hS 0 rfl rfl 3 (by decide) (hts _ kw_403) (fun _ h9 => h9) rfl (tyX7_ok 3 (by decide)) rfl rfl (Nat.le_of_ble_eq_true rfl) dX7_seek_93 (fun H locs hP hD hS => ?_)
                      have hP : va_P D vwCl [(h0, .inr (6, [.ref h1, .ref q12292, .int x12288, .int x11717, .ref h12, .int v3, .ref h3, .ref h8, .int v4, .int v5, .int v6, .int v7])), (h1, .inl (c 0, n8, .inl f12289)), (q12292, .inl (c 0, n12291, .inl f12290)), (h3, .inr (3, [.int v12, .int v13, .ref h6, .ref h7, .ref h11, .ref h9, .ref h10, .ref h4, .ref h5])), (h4, .inl (c 0, 8, .inl f14)), (h5, .inl (c 0, 8, .inl f15)), (h6, .inl (c 0, 14, .inl f41)), (h7, .inl (c 0, 14, .inl f42))] H := hP
                      have hD : va_D A [(h0, .inr (6, [.ref h1, .ref q12292, .int x12288, .int x11717, .ref h12, .int v3, .ref h3, .ref h8, .int v4, .int v5, .int v6, .int v7])), (h1, .inl (c 0, n8, .inl f12289)), (q12292, .inl (c 0, n12291, .inl f12290)), (h3, .inr (3, [.int v12, .int v13, .ref h6, .ref h7, .ref h11, .ref h9, .ref h10, .ref h4, .ref h5])), (h4, .inl (c 0, 8, .inl f14)), (h5, .inl (c 0, 8, .inl f15)), (h6, .inl (c 0, 14, .inl f41)), (h7, .inl (c 0, 14, .inl f42))] := hD
                      refine lv_iload hx hb dX7_seek_96 (lv_at hl 1 rfl) ?_
                      refine lv_istore (lv' := [(5, .int x11717), (4, .int x11717), (3, .int x11716), (0, .ref h0), (1, .int a1), (2, .int a2)]) hx hb dX7_seek_98 hl (by decide) rfl (fun ls hl => ?_)
                      have lp4 : ∀ (n4 : Nat), ∀ (x12387 : Int32) (hx12387 : 0 ≤ x12387.toInt ∧ x12387.toInt ≤ 1048576) (hm4 : (1048576 : Int) - x12387.toInt < (n4 : Int)) (H : Heap) (locs : List Loc) (hP : va_P D vwCl [(h0, .inr (6, [.ref h1, .ref q12292, .int x12288, .int x11717, .ref h12, .int v3, .ref h3, .ref h8, .int v4, .int v5, .int v6, .int v7])), (h1, .inl (c 0, n8, .inl f12289)), (q12292, .inl (c 0, n12291, .inl f12290)), (h3, .inr (3, [.int v12, .int v13, .ref h6, .ref h7, .ref h11, .ref h9, .ref h10, .ref h4, .ref h5])), (h4, .inl (c 0, 8, .inl f14)), (h5, .inl (c 0, 8, .inl f15)), (h6, .inl (c 0, 14, .inl f41)), (h7, .inl (c 0, 14, .inl f42))] H) (hD : va_D A [(h0, .inr (6, [.ref h1, .ref q12292, .int x12288, .int x11717, .ref h12, .int v3, .ref h3, .ref h8, .int v4, .int v5, .int v6, .int v7])), (h1, .inl (c 0, n8, .inl f12289)), (q12292, .inl (c 0, n12291, .inl f12290)), (h3, .inr (3, [.int v12, .int v13, .ref h6, .ref h7, .ref h11, .ref h9, .ref h10, .ref h4, .ref h5])), (h4, .inl (c 0, 8, .inl f14)), (h5, .inl (c 0, 8, .inl f15)), (h6, .inl (c 0, 14, .inl f41)), (h7, .inl (c 0, 14, .inl f42))]) (hS : va_S A s.heap H locs) (ls : Array Slot) (hl : lv_has ls 6 [(5, .int x12387), (3, .int x11716), (0, .ref h0), (1, .int a1), (2, .int a2)]), W p l e ({ frames := 4, cells := 69632 - (n8 + n10 / 256), slots := 2228224 - (2 * n8 + 2 * n10), locals := 88 } : Room) s m [.ref h0, .int a1, .int a2].toArray below meth cd H locs (n8 + n12291 / 256 - (n8 + n10 / 256)) (2 * n8 + 2 * n12291 - (2 * n8 + 2 * n10)) Q (F0 m 100 ls []) := by
                        intro n4
                        induction n4 with
                        | zero =>
                          intro x12387 hx12387 hm4 H locs hP hD hS ls hl
                          exact absurd hm4 (by omega)
                        | succ n4 ih4 =>
                          intro x12387 hx12387 hm4 H locs hP hD hS ls hl
                          have hle12394 := ge0.le
                          have hle12395 := hi12345.le
                          refine lv_iload hx hb dX7_seek_100 (lv_at hl 0 rfl) ?_
                          refine lv_aload_n hx hb dX7_seek_102 rfl (lv_at hl 2 rfl) ?_
                          refine va_get (D := D) (ci := 6) (v := .int x12288) (C := RX7) (T := TX7) (N := 12) hx hb hts i_X7 hown hK hP 0 rfl rfl 2 (by decide) (hts _ kw_402) (fun _ h9 => h9) rfl dX7_seek_103 ?_
                          refine B_icmp_ge (tgt := 130) (X := x12387.toInt) (Y := x12288.toInt) hx hb dX7_seek_106 (by decide) rfl rfl (fun hc12396 => ?_) (fun hc12396 => ?_)
                          · obtain ⟨z12397, ez12397, hz12397⟩ : ∃ y : Int32, y = x11716 + Int32.ofInt 1 ∧ y.toInt = x11716.toInt + 1 := ⟨_, rfl, ad_int (A := x11716.toInt) (B := 1) rfl (by decide) (by omega) (by omega)⟩
                            refine lv_iinc (v := z12397) (lv' := [(3, .int z12397), (5, .int x12387), (0, .ref h0), (1, .int a1), (2, .int a2)]) hx hb dX7_seek_130 hl (k := 1) rfl ez12397.symm (by decide) rfl (fun ls hl => ?_)
                            refine lv_goto (tgt := 32) hx hb dX7_seek_133 (by decide) ?_
                            exact ih2 z12397 ⟨by omega, by omega⟩ x12288 hx12288 x11717 hx11717 f12289 f12290 n12291 q12292 hi12344 hi12345 hi12346 hi12347 hi12348 (by omega) H locs hP hD hS ls (lv_sub hl [0, 2, 3, 4] rfl)
                          · refine lv_aload_n hx hb dX7_seek_109 rfl (lv_at hl 2 rfl) ?_
                            refine va_get (D := D) (ci := 6) (v := .ref q12292) (C := RX7) (T := TX7) (N := 12) hx hb hts i_X7 hown hK hP 0 rfl rfl 1 (by decide) (hts _ kw_401) (fun _ h9 => h9) rfl dX7_seek_110 ?_
                            refine lv_iload hx hb dX7_seek_113 (lv_at hl 0 rfl) ?_
                            refine va_iald hx hb hK hP 2 0 rfl rfl (in_of (by omega) (by omega)) dX7_seek_115 ?_
                            refine o_any (fun z12398 ez12398 => ?_)
                            refine lv_iload_n hx hb dX7_seek_116 rfl (lv_at hl 3 rfl) ?_
                            refine lv_iand hx hb dX7_seek_117 ?_
                            refine o_any (fun z12399 ez12399 => ?_)
                            refine lv_iload_n hx hb dX7_seek_118 rfl (lv_at hl 4 rfl) ?_
                            refine B_icmp_ne (tgt := 124) (X := z12399.toInt) (Y := a2.toInt) hx hb dX7_seek_119 (by decide) rfl rfl (fun hc12400 => ?_) (fun hc12400 => ?_)
                            · obtain ⟨z12401, ez12401, hz12401⟩ : ∃ y : Int32, y = x12387 + Int32.ofInt 1 ∧ y.toInt = x12387.toInt + 1 := ⟨_, rfl, ad_int (A := x12387.toInt) (B := 1) rfl (by decide) (by omega) (by omega)⟩
                              refine lv_iinc (v := z12401) (lv' := [(5, .int z12401), (3, .int x11716), (0, .ref h0), (1, .int a1), (2, .int a2)]) hx hb dX7_seek_124 hl (k := 0) rfl ez12401.symm (by decide) rfl (fun ls hl => ?_)
                              refine lv_goto (tgt := 100) hx hb dX7_seek_127 (by decide) ?_
                              exact ih4 z12401 ⟨by omega, by omega⟩ (by omega) H locs hP hD hS ls (lv_sub hl [0, 1, 2, 3, 4] rfl)
                            · refine lv_iload_n hx hb dX7_seek_122 rfl (lv_at hl 1 rfl) ?_
                              refine W.ofTS (fun hTr hZr => ?_)
                              exact rI hQ hx hb hr hlocks rfl hS (by omega) (by omega) dX7_seek_123 (fun t ht => ⟨x12288, x11717, f12289, q12292, n12291, f12290, hx12288, hx11717, ⟨by omega, by omega⟩, hi12344, hi12345, hi12346, hi12347, hi12348, (by rw [ht]; omega), (by rw [ht]; omega), by rw [ht]; exact hP, hD⟩)
                      exact lp4 (((1048576 : Int) - x11717.toInt).toNat + 1) x11717 hx11717 (by omega) H locs hP hD hS ls (lv_sub hl [0, 2, 3, 4, 5] rfl)
                    · refine lv_aload_n hx hb dX7_seek_68 rfl (lv_at hl 3 rfl) ?_
                      refine lv_aload_n hx hb dX7_seek_69 rfl (lv_at hl 3 rfl) ?_
                      refine va_get (D := D) (ci := 6) (v := .ref q12292) (C := RX7) (T := TX7) (N := 12) hx hb hts i_X7 hown hK hP 0 rfl rfl 1 (by decide) (hts _ kw_401) (fun _ h9 => h9) rfl dX7_seek_70 ?_
                      refine lv_iload hx hb dX7_seek_73 (lv_at hl 0 rfl) ?_
                      refine va_iald hx hb hK hP 2 0 rfl rfl (in_of (by omega) (by omega)) dX7_seek_75 ?_
                      refine o_any (fun z12402 ez12402 => ?_)
                      have hqz12402 := QOK.at hi12344 (by omega) (by omega) ez12402
                      refine lv_iconst (v := 1) hx hb dX7_seek_76 (by decide) ?_
                      refine lv_iload_n hx hb dX7_seek_77 rfl (lv_at hl 2 rfl) ?_
                      refine lv_iconst (v := 3) hx hb dX7_seek_78 (by decide) ?_
                      refine lv_irem hx hb dX7_seek_79 (by decide) ?_
                      refine q_rem (X := x11716.toInt) 3 rfl (by decide) (by decide) (by decide) (by omega) (fun z12403 ez12403 hz12403 => ?_)
                      refine lv_iadd hx hb dX7_seek_80 ?_
                      refine q_add (X := 1) (Y := z12403.toInt) (by decide) rfl (by omega) (by omega) (fun z12404 ez12404 hz12404 => ?_)
                      refine W.ofTS (fun hTc hZc => ?_)
                      refine fin_vp (run_Vp (n := 2) (ci := 6) ⟨hx, hb, hml, hown, hts⟩ (m_X7_spreadFrom l D c h0 h1 q12292 h3 h4 h5 h6 h7 h8 h9 h10 h11 h12 H.size (TS H) x12288 x11718 v3 v4 v5 v6 v7 f12289 n8 f12290 n12291 v12 v13 f14 f15 f41 f42 z12402 z12404 sb1 hx12288 hx11718 gv3 gv4 gv6 gv7 gv12 gv13 gf14 gf15 gf41 gf42 ⟨by omega, by omega⟩ ⟨by omega, by omega⟩ ge0 ge1 ge2 ge3 hi12344 hi12345 hi12346 (by omega) ge8 ge9) (hP.sub [0, 1, 2, 3, 4, 5, 6, 7] rfl) (hD.sub [0, 1, 2, 3, 4, 5, 6, 7] (by decide) rfl) hK hN rfl rfl kw_877 kw_879 kw_16 kw_120 kw_880 ⟨rfl, by decide +kernel⟩ ⟨(Nat.le_of_ble_eq_true rfl), (Nat.le_of_ble_eq_true rfl)⟩ rfl rfl rfl hl.1 rfl (Nat.le_of_ble_eq_true rfl) dX7_seek_81 ⟨show (n8 + n12291 / 256 - (n8 + n10 / 256)) + (69632 - (n8 + n12291 / 256)) ≤ 69632 - (n8 + n10 / 256) by omega, show (2 * n8 + 2 * n12291 - (2 * n8 + 2 * n10)) + (2228224 - (2 * n8 + 2 * n12291)) ≤ 2228224 - (2 * n8 + 2 * n10) by omega⟩) hP hD hS hA [0, 1, 2, 3, 4, 5, 6, 7] rfl (fun H locs t ht hB hj hS => ?_)
                      obtain ⟨z12405, f12406, q12407, n12408, f12409, hq12410, hq12411, hq12412, hq12413, hq12414, hq12415, hq12416, hq12417, hP1, hD1⟩ := hB
                      obtain ⟨hP, hD⟩ := hj (wr := []) (w1 := [(h0, .inr (6, [.ref h1, .ref q12407, .int z12405, .int x11718, .ref h12, .int v3, .ref h3, .ref h8, .int v4, .int v5, .int v6, .int v7])), (h1, .inl (c 0, n8, .inl f12406)), (q12407, .inl (c 0, n12408, .inl f12409)), (h3, .inr (3, [.int v12, .int v13, .ref h6, .ref h7, .ref h11, .ref h9, .ref h10, .ref h4, .ref h5])), (h4, .inl (c 0, 8, .inl f14)), (h5, .inl (c 0, 8, .inl f15)), (h6, .inl (c 0, 14, .inl f41)), (h7, .inl (c 0, 14, .inl f42))]) [] rfl (by decide) (by decide) hP1 hD1
                      have hP : va_P D vwCl [(h0, .inr (6, [.ref h1, .ref q12407, .int z12405, .int x11718, .ref h12, .int v3, .ref h3, .ref h8, .int v4, .int v5, .int v6, .int v7])), (h1, .inl (c 0, n8, .inl f12406)), (q12407, .inl (c 0, n12408, .inl f12409)), (h3, .inr (3, [.int v12, .int v13, .ref h6, .ref h7, .ref h11, .ref h9, .ref h10, .ref h4, .ref h5])), (h4, .inl (c 0, 8, .inl f14)), (h5, .inl (c 0, 8, .inl f15)), (h6, .inl (c 0, 14, .inl f41)), (h7, .inl (c 0, 14, .inl f42))] H := hP
                      have hD : va_D A [(h0, .inr (6, [.ref h1, .ref q12407, .int z12405, .int x11718, .ref h12, .int v3, .ref h3, .ref h8, .int v4, .int v5, .int v6, .int v7])), (h1, .inl (c 0, n8, .inl f12406)), (q12407, .inl (c 0, n12408, .inl f12409)), (h3, .inr (3, [.int v12, .int v13, .ref h6, .ref h7, .ref h11, .ref h9, .ref h10, .ref h4, .ref h5])), (h4, .inl (c 0, 8, .inl f14)), (h5, .inl (c 0, 8, .inl f15)), (h6, .inl (c 0, 14, .inl f41)), (h7, .inl (c 0, 14, .inl f42))] := hD
                      refine W.tight (k := (n8 + n12408 / 256 - (n8 + n10 / 256))) (n := (2 * n8 + 2 * n12408 - (2 * n8 + 2 * n10))) (by rw [← ht]; omega) (by rw [← ht]; omega) ?_
                      have hle12418 := ge0.le
                      have hle12419 := hq12412.le
                      obtain ⟨z12420, ez12420, hz12420⟩ : ∃ y : Int32, y = x12287 + Int32.ofInt 1 ∧ y.toInt = x12287.toInt + 1 := ⟨_, rfl, ad_int (A := x12287.toInt) (B := 1) rfl (by decide) (by omega) (by omega)⟩
                      refine lv_iinc (v := z12420) (lv' := [(5, .int z12420), (4, .int x11717), (3, .int x11716), (0, .ref h0), (1, .int a1), (2, .int a2)]) hx hb dX7_seek_84 hl (k := 0) rfl ez12420.symm (by decide) rfl (fun ls hl => ?_)
                      refine lv_goto (tgt := 61) hx hb dX7_seek_87 (by decide) ?_
                      exact ih3 z12420 ⟨by omega, by omega⟩ z12405 hq12410 f12406 f12409 n12408 q12407 hq12411 hq12412 hq12413 (by omega) (by omega) (by omega) (by omega) H locs hP hD hS ls (lv_sub hl [0, 1, 2, 3, 4, 5] rfl)
                exact lp3 (((1048576 : Int) - x11718.toInt).toNat + 1) x11718 hx11718 x11717 hx11717 f11719 f11720 n11721 q11722 hi12030 hi12031 hi12032 hi12033 (by omega) hi12034 (by omega) H locs hP hD hS ls (lv_sub hl [0, 1, 2, 3, 4, 5] rfl)
        have hk0 : (1 : Int32).toInt = 1 := by decide
        exact lp2 (((1048576 : Int) - 1).toNat + 1) 1 (by decide) v1 gv1 v2 gv2 f9 f11 n10 h2 ge4 ge5 ge6 (by omega) ge7 (by omega) H locs hP hD hS ls (lv_sub hl [0, 1, 2, 3] rfl)
      · refine lv_aload_n hx hb dX7_seek_10 rfl (lv_at hl 1 rfl) ?_
        refine va_get (D := D) (ci := 6) (v := .ref h2) (C := RX7) (T := TX7) (N := 12) hx hb hts i_X7 hown hK hP 0 rfl rfl 1 (by decide) (hts _ kw_401) (fun _ h9 => h9) rfl dX7_seek_11 ?_
        refine lv_iload_n hx hb dX7_seek_14 rfl (lv_at hl 0 rfl) ?_
        refine va_iald hx hb hK hP 2 0 rfl rfl (in_of (by omega) (by omega)) dX7_seek_15 ?_
        refine o_any (fun z12421 ez12421 => ?_)
        refine lv_iload_n hx hb dX7_seek_16 rfl (lv_at hl 2 rfl) ?_
        refine lv_iand hx hb dX7_seek_17 ?_
        refine o_any (fun z12422 ez12422 => ?_)
        refine lv_iload_n hx hb dX7_seek_18 rfl (lv_at hl 3 rfl) ?_
        refine B_icmp_ne (tgt := 24) (X := z12422.toInt) (Y := a2.toInt) hx hb dX7_seek_19 (by decide) rfl rfl (fun hc12423 => ?_) (fun hc12423 => ?_)
        · obtain ⟨z12424, ez12424, hz12424⟩ : ∃ y : Int32, y = x8361 + Int32.ofInt 1 ∧ y.toInt = x8361.toInt + 1 := ⟨_, rfl, ad_int (A := x8361.toInt) (B := 1) rfl (by decide) (by omega) (by omega)⟩
          refine lv_iinc (v := z12424) (lv' := [(3, .int z12424), (0, .ref h0), (1, .int a1), (2, .int a2)]) hx hb dX7_seek_24 hl (k := 0) rfl ez12424.symm (by decide) rfl (fun ls hl => ?_)
          refine lv_goto (tgt := 2) hx hb dX7_seek_27 (by decide) ?_
          exact ih1 z12424 ⟨by omega, by omega⟩ (by omega) H locs hP hD hS ls (lv_sub hl [0, 1, 2, 3] rfl)
        · refine lv_iconst (v := 0) hx hb dX7_seek_22 (by decide) ?_
          refine W.ofTS (fun hTr hZr => ?_)
          have hk0 : (0 : Int32).toInt = 0 := by decide
          exact rI hQ hx hb hr hlocks rfl hS (by omega) (by omega) dX7_seek_23 (fun t ht => ⟨v1, v2, f9, h2, n10, f11, gv1, gv2, by decide, ge4, ge5, ge6, (by omega), ge7, (by rw [ht]; omega), (by rw [ht]; omega), by rw [ht]; exact hP, hD⟩)
  have hk0 : (0 : Int32).toInt = 0 := by decide
  exact lp1 (((1048576 : Int) - 0).toNat + 1) 0 (by decide) (by omega) s.heap [] hP hD hS ls (lv_sub hl [0, 1, 2, 3] rfl)
set_option maxHeartbeats 4000000 in
set_option maxRecDepth 100000 in
theorem m_X7_forget (l : Launch) (D : va_G) (c : Nat → ClassId) (h0 h1 h2 : Nat) (sz : Nat) (v1 : Int32) (v2 : Int32) (u51 : Value) (v3 : Int32) (u52 : Value) (u53 : Value) (v4 : Int32) (v5 : Int32) (v6 : Int32) (v7 : Int32) (f9 : Nat → Int32) (n8 : Nat) (f11 : Nat → Int32) (n10 : Nat) (gv1 : 0 ≤ v1.toInt ∧ v1.toInt ≤ 1048576) (gv2 : 0 ≤ v2.toInt ∧ v2.toInt ≤ 1048576) (gv3 : 0 ≤ v3.toInt ∧ v3.toInt ≤ 6) (gv4 : 0 ≤ v4.toInt ∧ v4.toInt ≤ 14) (gv6 : 0 ≤ v6.toInt ∧ v6.toInt ≤ 1048575) (gv7 : 0 ≤ v7.toInt ∧ v7.toInt ≤ 255) (ge0 : QOK f9 f11 v1 n8) (ge1 : v1.toInt ≤ (n10 : Int)) (ge2 : 16 * (n8 : Int) ≤ 1048576) : Met l yX7_forget (Cond.code yX7_forget cX7_forget 2 none :: TB) ({ frames := 0, cells := 0, slots := 0, locals := 0 } : Room) (va_Pc [.ref h0] (PW D c [(h0, .inr (6, [.ref h1, .ref h2, .int v1, .int v2, u51, .int v3, u52, u53, .int v4, .int v5, .int v6, .int v7])), (h1, .inl (c 0, n8, .inl f9)), (h2, .inl (c 0, n10, .inl f11))] sz)) ((QV (fun A t => ∃ (f900 : Nat → Int32), va_P D vwCl [(h0, .inr (6, [.ref h1, .ref h2, .int 0, .int v2, u51, .int v3, u52, u53, .int v4, .int v5, .int v6, .int v7])), (h1, .inl (c 0, n8, .inl f900)), (h2, .inl (c 0, n10, .inl f11))] t.heap ∧ va_D A [(h0, .inr (6, [.ref h1, .ref h2, .int 0, .int v2, u51, .int v3, u52, u53, .int v4, .int v5, .int v6, .int v7])), (h1, .inl (c 0, n8, .inl f900)), (h2, .inl (c 0, n10, .inl f11))])) (va_A [(h0, .inr (6, [.ref h1, .ref h2, .int v1, .int v2, u51, .int v3, u52, u53, .int v4, .int v5, .int v6, .int v7])), (h1, .inl (c 0, n8, .inl f9)), (h2, .inl (c 0, n10, .inl f11))] sz)) 0 0 (va_A [(h0, .inr (6, [.ref h1, .ref h2, .int v1, .int v2, u51, .int v3, u52, u53, .int v4, .int v5, .int v6, .int v7])), (h1, .inl (c 0, n8, .inl f9)), (h2, .inl (c 0, n10, .inl f11))] sz) := by
  refine start2 (by decide +kernel) (Nat.le_of_ble_eq_true rfl) ?_
  intro p e s m below meth cd A ls Q hx hb hr hml hts hown hlocks hin hA hS hK hP hD hN hl hQ
  have hown : s.vm.findClass RX7 = some m.cls := hown
  have hl : lv_has ls 2 [(0, .ref h0)] := hl
  have hP : va_P D vwCl [(h0, .inr (6, [.ref h1, .ref h2, .int v1, .int v2, u51, .int v3, u52, u53, .int v4, .int v5, .int v6, .int v7])), (h1, .inl (c 0, n8, .inl f9)), (h2, .inl (c 0, n10, .inl f11))] s.heap := hP
  refine lv_iconst (v := 0) hx hb dX7_forget_0 (by decide) ?_
  refine lv_istore_n (lv' := [(1, .int 0), (0, .ref h0)]) hx hb dX7_forget_1 rfl hl (by decide) rfl (fun ls hl => ?_)
  have lp1 : ∀ (n1 : Nat), ∀ (x1033 : Int32) (hx1033 : 0 ≤ x1033.toInt ∧ x1033.toInt ≤ 1048576) (f1034 : Nat → Int32) (hm1 : (1048576 : Int) - x1033.toInt < (n1 : Int)) (H : Heap) (locs : List Loc) (hP : va_P D vwCl [(h0, .inr (6, [.ref h1, .ref h2, .int v1, .int v2, u51, .int v3, u52, u53, .int v4, .int v5, .int v6, .int v7])), (h1, .inl (c 0, n8, .inl f1034)), (h2, .inl (c 0, n10, .inl f11))] H) (hD : va_D A [(h0, .inr (6, [.ref h1, .ref h2, .int v1, .int v2, u51, .int v3, u52, u53, .int v4, .int v5, .int v6, .int v7])), (h1, .inl (c 0, n8, .inl f1034)), (h2, .inl (c 0, n10, .inl f11))]) (hS : va_S A s.heap H locs) (ls : Array Slot) (hl : lv_has ls 2 [(1, .int x1033), (0, .ref h0)]), W p l e ({ frames := 0, cells := 0, slots := 0, locals := 0 } : Room) s m [.ref h0].toArray below meth cd H locs 0 0 Q (F0 m 2 ls []) := by
    intro n1
    induction n1 with
    | zero =>
      intro x1033 hx1033 f1034 hm1 H locs hP hD hS ls hl
      exact absurd hm1 (by omega)
    | succ n1 ih1 =>
      intro x1033 hx1033 f1034 hm1 H locs hP hD hS ls hl
      refine lv_iload_n hx hb dX7_forget_2 rfl (lv_at hl 0 rfl) ?_
      refine lv_aload_n hx hb dX7_forget_3 rfl (lv_at hl 1 rfl) ?_
      refine va_get (D := D) (ci := 6) (v := .int v1) (C := RX7) (T := TX7) (N := 12) hx hb hts i_X7 hown hK hP 0 rfl rfl 2 (by decide) (hts _ kw_402) (fun _ h9 => h9) rfl dX7_forget_4 ?_
      refine B_icmp_ge (tgt := 30) (X := x1033.toInt) (Y := v1.toInt) hx hb dX7_forget_7 (by decide) rfl rfl (fun hc1040 => ?_) (fun hc1040 => ?_)
      · refine lv_aload_n hx hb dX7_forget_30 rfl (lv_at hl 1 rfl) ?_
        refine lv_iconst (v := 0) hx hb dX7_forget_31 (by decide) ?_
        refine va_put (D := D) (ci := 6) (v := .int 0) (ty := .int) (C := RX7) (T := TX7) (N := 12) hx hb hts i_X7 tyX7 tyX7_ok nmX7 hown hK hP hD hS 0 rfl rfl 2 (by decide) (hts _ kw_402) (fun _ h9 => h9) rfl (tyX7_ok 2 (by decide)) rfl rfl (Nat.le_of_ble_eq_true rfl) dX7_forget_32 (fun H locs hP hD hS => ?_)
        have hP : va_P D vwCl [(h0, .inr (6, [.ref h1, .ref h2, .int 0, .int v2, u51, .int v3, u52, u53, .int v4, .int v5, .int v6, .int v7])), (h1, .inl (c 0, n8, .inl f1034)), (h2, .inl (c 0, n10, .inl f11))] H := hP
        have hD : va_D A [(h0, .inr (6, [.ref h1, .ref h2, .int 0, .int v2, u51, .int v3, u52, u53, .int v4, .int v5, .int v6, .int v7])), (h1, .inl (c 0, n8, .inl f1034)), (h2, .inl (c 0, n10, .inl f11))] := hD
        exact rV hQ hx hb hr hlocks hS (Nat.le_of_ble_eq_true rfl) (Nat.le_of_ble_eq_true rfl) dX7_forget_35 (fun t ht => ⟨f1034, by rw [ht]; exact hP, hD⟩)
      · refine lv_aload_n hx hb dX7_forget_10 rfl (lv_at hl 1 rfl) ?_
        refine va_get (D := D) (ci := 6) (v := .ref h1) (C := RX7) (T := TX7) (N := 12) hx hb hts i_X7 hown hK hP 0 rfl rfl 0 (by decide) (hts _ kw_400) (fun _ h9 => h9) rfl dX7_forget_11 ?_
        refine lv_aload_n hx hb dX7_forget_14 rfl (lv_at hl 1 rfl) ?_
        refine va_get (D := D) (ci := 6) (v := .ref h2) (C := RX7) (T := TX7) (N := 12) hx hb hts i_X7 hown hK hP 0 rfl rfl 1 (by decide) (hts _ kw_401) (fun _ h9 => h9) rfl dX7_forget_15 ?_
        refine lv_iload_n hx hb dX7_forget_18 rfl (lv_at hl 0 rfl) ?_
        refine va_iald hx hb hK hP 2 0 rfl rfl (in_of (by omega) (by omega)) dX7_forget_19 ?_
        refine o_any (fun z1041 ez1041 => ?_)
        have hqz1041 := QOK.at ge0 (by omega) (by omega) ez1041
        refine lv_iconst (v := 4) hx hb dX7_forget_20 (by decide) ?_
        refine lv_ishr hx hb dX7_forget_21 ?_
        refine q_shrc (X := z1041.toInt) (M := 16) 4 rfl (by decide) (by decide) (fun z1042 ez1042 hz1042 => ?_)
        refine lv_iconst (v := 0) hx hb dX7_forget_22 (by decide) ?_
        refine va_iast hx hb hK hP hD hS 1 0 rfl rfl (in_of (by omega) (by omega)) dX7_forget_23 (fun H locs hP hD hS => ?_)
        obtain ⟨f1043, ef1043, hP, hD⟩ : ∃ y : Nat → Int32, y = upd f1034 (Int32.toNatClampNeg z1042) 0 ∧ va_P D vwCl [(h0, .inr (6, [.ref h1, .ref h2, .int v1, .int v2, u51, .int v3, u52, u53, .int v4, .int v5, .int v6, .int v7])), (h1, .inl (c 0, n8, .inl y)), (h2, .inl (c 0, n10, .inl f11))] H ∧ va_D A [(h0, .inr (6, [.ref h1, .ref h2, .int v1, .int v2, u51, .int v3, u52, u53, .int v4, .int v5, .int v6, .int v7])), (h1, .inl (c 0, n8, .inl y)), (h2, .inl (c 0, n10, .inl f11))] := ⟨_, rfl, hP, hD⟩
        obtain ⟨z1044, ez1044, hz1044⟩ : ∃ y : Int32, y = x1033 + Int32.ofInt 1 ∧ y.toInt = x1033.toInt + 1 := ⟨_, rfl, ad_int (A := x1033.toInt) (B := 1) rfl (by decide) (by omega) (by omega)⟩
        refine lv_iinc (v := z1044) (lv' := [(1, .int z1044), (0, .ref h0)]) hx hb dX7_forget_24 hl (k := 0) rfl ez1044.symm (by decide) rfl (fun ls hl => ?_)
        refine lv_goto (tgt := 2) hx hb dX7_forget_27 (by decide) ?_
        exact ih1 z1044 ⟨by omega, by omega⟩ f1043 (by omega) H locs hP hD hS ls (lv_sub hl [0, 1] rfl)
  have hk0 : (0 : Int32).toInt = 0 := by decide
  exact lp1 (((1048576 : Int) - 0).toNat + 1) 0 (by decide) f9 (by omega) s.heap [] hP hD hS ls (lv_sub hl [0, 1] rfl)
set_option maxHeartbeats 4000000 in
set_option maxRecDepth 100000 in
theorem m_X7_turnRound (l : Launch) (D : va_G) (c : Nat → ClassId) (h0 h1 h2 h3 h4 h5 : Nat) (sz : Nat) (ts0 : Nat) (v1 : Int32) (v2 : Int32) (v3 : Int32) (v4 : Int32) (v5 : Int32) (v6 : Int32) (v7 : Int32) (f9 : Nat → Int32) (n8 : Nat) (f11 : Nat → Int32) (n10 : Nat) (a1 : Int32) (a2 : Int32) (gv1 : 0 ≤ v1.toInt ∧ v1.toInt ≤ 1048576) (gv2 : 0 ≤ v2.toInt ∧ v2.toInt ≤ 1048576) (gv3 : 0 ≤ v3.toInt ∧ v3.toInt ≤ 6) (gv4 : 0 ≤ v4.toInt ∧ v4.toInt ≤ 14) (gv6 : 0 ≤ v6.toInt ∧ v6.toInt ≤ 1048575) (gv7 : 0 ≤ v7.toInt ∧ v7.toInt ≤ 255) (ge0 : QOK f9 f11 v1 n8) (ge1 : v1.toInt ≤ (n10 : Int)) (ge2 : 16 * (n8 : Int) ≤ 1048576) (ge3 : Pq n10) (ge4 : v2.toInt ≤ v1.toInt) : Met l yX7_turnRound (Cond.code yX7_turnRound cX7_turnRound 6 none :: TB) ({ frames := 3, cells := 69632 - (n8 + n10 / 256), slots := 2228224 - (2 * n8 + 2 * n10), locals := 62 } : Room) (va_Pc [.ref h0, .int a1, .int a2] (PWt D c [(h0, .inr (6, [.ref h1, .ref h2, .int v1, .int v2, .ref h5, .int v3, .ref h4, .ref h3, .int v4, .int v5, .int v6, .int v7])), (h1, .inl (c 0, n8, .inl f9)), (h2, .inl (c 0, n10, .inl f11))] sz ts0)) ((QV (fun A t => ∃ (z900 : Int32) (f901 : Nat → Int32) (q902 : Nat) (n903 : Nat) (f904 : Nat → Int32), (0 ≤ z900.toInt ∧ z900.toInt ≤ 1048576) ∧ (QOK f901 f904 z900 n8) ∧ (Pq n903) ∧ (z900.toInt ≤ (n903 : Int)) ∧ (n10 ≤ n903) ∧ (TS t.heap + (2 * n8 + 2 * n10) ≤ ts0 + (2 * n8 + 2 * n903)) ∧ (t.heap.size + (n8 + n10 / 256) ≤ sz + (n8 + n903 / 256)) ∧ va_P D vwCl [(h0, .inr (6, [.ref h1, .ref q902, .int z900, .int 0, .ref h5, .int v3, .ref h4, .ref h3, .int v4, .int v5, .int v6, .int v7])), (h1, .inl (c 0, n8, .inl f901)), (q902, .inl (c 0, n903, .inl f904))] t.heap ∧ va_D A [(h0, .inr (6, [.ref h1, .ref q902, .int z900, .int 0, .ref h5, .int v3, .ref h4, .ref h3, .int v4, .int v5, .int v6, .int v7])), (h1, .inl (c 0, n8, .inl f901)), (q902, .inl (c 0, n903, .inl f904))])) (va_A [(h0, .inr (6, [.ref h1, .ref h2, .int v1, .int v2, .ref h5, .int v3, .ref h4, .ref h3, .int v4, .int v5, .int v6, .int v7])), (h1, .inl (c 0, n8, .inl f9)), (h2, .inl (c 0, n10, .inl f11))] sz)) (69632 - (n8 + n10 / 256)) (2228224 - (2 * n8 + 2 * n10)) (va_A [(h0, .inr (6, [.ref h1, .ref h2, .int v1, .int v2, .ref h5, .int v3, .ref h4, .ref h3, .int v4, .int v5, .int v6, .int v7])), (h1, .inl (c 0, n8, .inl f9)), (h2, .inl (c 0, n10, .inl f11))] sz) := by
  refine start2p (by decide +kernel) (Nat.le_of_ble_eq_true rfl) ?_
  intro p e s m below meth cd A ls Q hx hb hr hml hts hown hlocks hin hA hS hK hP hD hN hz0 hT0 hl hQ
  have hown : s.vm.findClass RX7 = some m.cls := hown
  have hl : lv_has ls 6 [(0, .ref h0), (1, .int a1), (2, .int a2)] := hl
  have hP : va_P D vwCl [(h0, .inr (6, [.ref h1, .ref h2, .int v1, .int v2, .ref h5, .int v3, .ref h4, .ref h3, .int v4, .int v5, .int v6, .int v7])), (h1, .inl (c 0, n8, .inl f9)), (h2, .inl (c 0, n10, .inl f11))] s.heap := hP
  have hle1001 := ge3.le
  refine W.widen (k := (n8 + n10 / 256 - (n8 + n10 / 256))) (n := (2 * n8 + 2 * n10 - (2 * n8 + 2 * n10))) (Nat.zero_le _) (Nat.zero_le _) ?_
  refine lv_aload_n hx hb dX7_turnRound_0 rfl (lv_at hl 0 rfl) ?_
  refine va_get (D := D) (ci := 6) (v := .int v2) (C := RX7) (T := TX7) (N := 12) hx hb hts i_X7 hown hK hP 0 rfl rfl 3 (by decide) (hts _ kw_403) (fun _ h9 => h9) rfl dX7_turnRound_1 ?_
  refine lv_istore_n (lv' := [(3, .int v2), (0, .ref h0), (1, .int a1), (2, .int a2)]) hx hb dX7_turnRound_4 rfl hl (by decide) rfl (fun ls hl => ?_)
  refine lv_aload_n hx hb dX7_turnRound_5 rfl (lv_at hl 1 rfl) ?_
  refine va_get (D := D) (ci := 6) (v := .int v1) (C := RX7) (T := TX7) (N := 12) hx hb hts i_X7 hown hK hP 0 rfl rfl 2 (by decide) (hts _ kw_402) (fun _ h9 => h9) rfl dX7_turnRound_6 ?_
  refine lv_istore (lv' := [(4, .int v1), (3, .int v2), (0, .ref h0), (1, .int a1), (2, .int a2)]) hx hb dX7_turnRound_9 hl (by decide) rfl (fun ls hl => ?_)
  refine lv_iconst (v := 0) hx hb dX7_turnRound_11 (by decide) ?_
  refine lv_istore (lv' := [(5, .int 0), (4, .int v1), (3, .int v2), (0, .ref h0), (1, .int a1), (2, .int a2)]) hx hb dX7_turnRound_12 hl (by decide) rfl (fun ls hl => ?_)
  have lp1 : ∀ (n1 : Nat), ∀ (x1447 : Int32) (hx1447 : 0 ≤ x1447.toInt ∧ x1447.toInt ≤ 1048576) (f1448 : Nat → Int32) (hm1 : (1048576 : Int) - x1447.toInt < (n1 : Int)) (H : Heap) (locs : List Loc) (hP : va_P D vwCl [(h0, .inr (6, [.ref h1, .ref h2, .int v1, .int v2, .ref h5, .int v3, .ref h4, .ref h3, .int v4, .int v5, .int v6, .int v7])), (h1, .inl (c 0, n8, .inl f1448)), (h2, .inl (c 0, n10, .inl f11))] H) (hD : va_D A [(h0, .inr (6, [.ref h1, .ref h2, .int v1, .int v2, .ref h5, .int v3, .ref h4, .ref h3, .int v4, .int v5, .int v6, .int v7])), (h1, .inl (c 0, n8, .inl f1448)), (h2, .inl (c 0, n10, .inl f11))]) (hS : va_S A s.heap H locs) (ls : Array Slot) (hl : lv_has ls 6 [(5, .int x1447), (4, .int v1), (3, .int v2), (0, .ref h0), (1, .int a1), (2, .int a2)]), W p l e ({ frames := 3, cells := 69632 - (n8 + n10 / 256), slots := 2228224 - (2 * n8 + 2 * n10), locals := 62 } : Room) s m [.ref h0, .int a1, .int a2].toArray below meth cd H locs (n8 + n10 / 256 - (n8 + n10 / 256)) (2 * n8 + 2 * n10 - (2 * n8 + 2 * n10)) Q (F0 m 14 ls []) := by
    intro n1
    induction n1 with
    | zero =>
      intro x1447 hx1447 f1448 hm1 H locs hP hD hS ls hl
      exact absurd hm1 (by omega)
    | succ n1 ih1 =>
      intro x1447 hx1447 f1448 hm1 H locs hP hD hS ls hl
      have hle1556 := ge3.le
      refine lv_iload hx hb dX7_turnRound_14 (lv_at hl 0 rfl) ?_
      refine lv_iload hx hb dX7_turnRound_16 (lv_at hl 1 rfl) ?_
      refine B_icmp_ge (tgt := 42) (X := x1447.toInt) (Y := v1.toInt) hx hb dX7_turnRound_18 (by decide) rfl rfl (fun hc1557 => ?_) (fun hc1557 => ?_)
      · refine lv_aload_n hx hb dX7_turnRound_42 rfl (lv_at hl 3 rfl) ?_
        refine lv_iconst (v := 0) hx hb dX7_turnRound_43 (by decide) ?_
        refine va_put (D := D) (ci := 6) (v := .int 0) (ty := .int) (C := RX7) (T := TX7) (N := 12) hx hb hts i_X7 tyX7 tyX7_ok nmX7 hown hK hP hD hS 0 rfl rfl 2 (by decide) (hts _ kw_402) (fun _ h9 => h9) rfl (tyX7_ok 2 (by decide)) rfl rfl (Nat.le_of_ble_eq_true rfl) dX7_turnRound_44 (fun H locs hP hD hS => ?_)
        have hP : va_P D vwCl [(h0, .inr (6, [.ref h1, .ref h2, .int 0, .int v2, .ref h5, .int v3, .ref h4, .ref h3, .int v4, .int v5, .int v6, .int v7])), (h1, .inl (c 0, n8, .inl f1448)), (h2, .inl (c 0, n10, .inl f11))] H := hP
        have hD : va_D A [(h0, .inr (6, [.ref h1, .ref h2, .int 0, .int v2, .ref h5, .int v3, .ref h4, .ref h3, .int v4, .int v5, .int v6, .int v7])), (h1, .inl (c 0, n8, .inl f1448)), (h2, .inl (c 0, n10, .inl f11))] := hD
        refine lv_aload_n hx hb dX7_turnRound_47 rfl (lv_at hl 3 rfl) ?_
        refine lv_iconst (v := 0) hx hb dX7_turnRound_48 (by decide) ?_
        refine va_put (D := D) (ci := 6) (v := .int 0) (ty := .int) (C := RX7) (T := TX7) (N := 12) hx hb hts i_X7 tyX7 tyX7_ok nmX7 hown hK hP hD hS 0 rfl rfl 3 (by decide) (hts _ kw_403) (fun _ h9 => h9) rfl (tyX7_ok 3 (by decide)) rfl rfl (Nat.le_of_ble_eq_true rfl) dX7_turnRound_49 (fun H locs hP hD hS => ?_)
        have hP : va_P D vwCl [(h0, .inr (6, [.ref h1, .ref h2, .int 0, .int 0, .ref h5, .int v3, .ref h4, .ref h3, .int v4, .int v5, .int v6, .int v7])), (h1, .inl (c 0, n8, .inl f1448)), (h2, .inl (c 0, n10, .inl f11))] H := hP
        have hD : va_D A [(h0, .inr (6, [.ref h1, .ref h2, .int 0, .int 0, .ref h5, .int v3, .ref h4, .ref h3, .int v4, .int v5, .int v6, .int v7])), (h1, .inl (c 0, n8, .inl f1448)), (h2, .inl (c 0, n10, .inl f11))] := hD
        refine lv_iload_n hx hb dX7_turnRound_52 rfl (lv_at hl 2 rfl) ?_
        refine lv_istore (lv' := [(5, .int v2), (4, .int v1), (3, .int v2), (0, .ref h0), (1, .int a1), (2, .int a2)]) hx hb dX7_turnRound_53 hl (by decide) rfl (fun ls hl => ?_)
        have lp2 : ∀ (n2 : Nat), ∀ (x1642 : Int32) (hx1642 : 0 ≤ x1642.toInt ∧ x1642.toInt ≤ 1048576) (x1643 : Int32) (hx1643 : 0 ≤ x1643.toInt ∧ x1643.toInt ≤ 1048576) (f1644 : Nat → Int32) (f1645 : Nat → Int32) (n1646 : Nat) (q1647 : Nat) (hi1660 : QOK f1644 f1645 x1643 n8) (hi1661 : Pq n1646) (hi1662 : x1643.toInt ≤ (n1646 : Int)) (hi1663 : n10 ≤ n1646) (hi1664 : Tl f1645 x1643 x1642 v1 n8) (hi1665 : x1643.toInt ≤ x1642.toInt) (hi1666 : v1.toInt ≤ (n1646 : Int)) (hm2 : (1048576 : Int) - x1642.toInt < (n2 : Int)) (H : Heap) (locs : List Loc) (hP : va_P D vwCl [(h0, .inr (6, [.ref h1, .ref q1647, .int x1643, .int 0, .ref h5, .int v3, .ref h4, .ref h3, .int v4, .int v5, .int v6, .int v7])), (h1, .inl (c 0, n8, .inl f1644)), (q1647, .inl (c 0, n1646, .inl f1645))] H) (hD : va_D A [(h0, .inr (6, [.ref h1, .ref q1647, .int x1643, .int 0, .ref h5, .int v3, .ref h4, .ref h3, .int v4, .int v5, .int v6, .int v7])), (h1, .inl (c 0, n8, .inl f1644)), (q1647, .inl (c 0, n1646, .inl f1645))]) (hS : va_S A s.heap H locs) (ls : Array Slot) (hl : lv_has ls 6 [(5, .int x1642), (4, .int v1), (0, .ref h0), (1, .int a1), (2, .int a2)]), W p l e ({ frames := 3, cells := 69632 - (n8 + n10 / 256), slots := 2228224 - (2 * n8 + 2 * n10), locals := 62 } : Room) s m [.ref h0, .int a1, .int a2].toArray below meth cd H locs (n8 + n1646 / 256 - (n8 + n10 / 256)) (2 * n8 + 2 * n1646 - (2 * n8 + 2 * n10)) Q (F0 m 55 ls []) := by
          intro n2
          induction n2 with
          | zero =>
            intro x1642 hx1642 x1643 hx1643 f1644 f1645 n1646 q1647 hi1660 hi1661 hi1662 hi1663 hi1664 hi1665 hi1666 hm2 H locs hP hD hS ls hl
            exact absurd hm2 (by omega)
          | succ n2 ih2 =>
            intro x1642 hx1642 x1643 hx1643 f1644 f1645 n1646 q1647 hi1660 hi1661 hi1662 hi1663 hi1664 hi1665 hi1666 hm2 H locs hP hD hS ls hl
            have hle1667 := hi1661.le
            refine lv_iload hx hb dX7_turnRound_55 (lv_at hl 0 rfl) ?_
            refine lv_iload hx hb dX7_turnRound_57 (lv_at hl 1 rfl) ?_
            refine B_icmp_ge (tgt := 93) (X := x1642.toInt) (Y := v1.toInt) hx hb dX7_turnRound_59 (by decide) rfl rfl (fun hc1668 => ?_) (fun hc1668 => ?_)
            · refine W.ofTS (fun hTr hZr => ?_)
              exact rV hQ hx hb hr hlocks hS (by omega) (by omega) dX7_turnRound_93 (fun t ht => ⟨x1643, f1644, q1647, n1646, f1645, hx1643, hi1660, hi1661, hi1662, hi1663, (by rw [ht]; omega), (by rw [ht]; omega), by rw [ht]; exact hP, hD⟩)
            · refine lv_aload_n hx hb dX7_turnRound_62 rfl (lv_at hl 2 rfl) ?_
              refine va_get (D := D) (ci := 6) (v := .ref q1647) (C := RX7) (T := TX7) (N := 12) hx hb hts i_X7 hown hK hP 0 rfl rfl 1 (by decide) (hts _ kw_401) (fun _ h9 => h9) rfl dX7_turnRound_63 ?_
              refine lv_iload hx hb dX7_turnRound_66 (lv_at hl 0 rfl) ?_
              refine va_iald hx hb hK hP 2 0 rfl rfl (in_of (by omega) (by omega)) dX7_turnRound_68 ?_
              refine o_any (fun z1669 ez1669 => ?_)
              refine lv_iload_n hx hb dX7_turnRound_69 rfl (lv_at hl 3 rfl) ?_
              refine lv_iand hx hb dX7_turnRound_70 ?_
              refine o_any (fun z1670 ez1670 => ?_)
              refine lv_iload_n hx hb dX7_turnRound_71 rfl (lv_at hl 4 rfl) ?_
              refine B_icmp_ne (tgt := 87) (X := z1670.toInt) (Y := a2.toInt) hx hb dX7_turnRound_72 (by decide) rfl rfl (fun hc1671 => ?_) (fun hc1671 => ?_)
              · obtain ⟨z1672, ez1672, hz1672⟩ : ∃ y : Int32, y = x1642 + Int32.ofInt 1 ∧ y.toInt = x1642.toInt + 1 := ⟨_, rfl, ad_int (A := x1642.toInt) (B := 1) rfl (by decide) (by omega) (by omega)⟩
                refine lv_iinc (v := z1672) (lv' := [(5, .int z1672), (4, .int v1), (0, .ref h0), (1, .int a1), (2, .int a2)]) hx hb dX7_turnRound_87 hl (k := 0) rfl ez1672.symm (by decide) rfl (fun ls hl => ?_)
                refine lv_goto (tgt := 55) hx hb dX7_turnRound_90 (by decide) ?_
                have hv1673 : Tl f1645 x1643 z1672 v1 n8 := Tl.step hi1664 (by omega)
                exact ih2 z1672 ⟨by omega, by omega⟩ x1643 hx1643 f1644 f1645 n1646 q1647 hi1660 hi1661 hi1662 hi1663 hv1673 (by omega) hi1666 (by omega) H locs hP hD hS ls (lv_sub hl [0, 1, 2, 3, 4] rfl)
              · refine lv_aload_n hx hb dX7_turnRound_75 rfl (lv_at hl 2 rfl) ?_
                refine lv_aload_n hx hb dX7_turnRound_76 rfl (lv_at hl 2 rfl) ?_
                refine va_get (D := D) (ci := 6) (v := .ref q1647) (C := RX7) (T := TX7) (N := 12) hx hb hts i_X7 hown hK hP 0 rfl rfl 1 (by decide) (hts _ kw_401) (fun _ h9 => h9) rfl dX7_turnRound_77 ?_
                refine lv_iload hx hb dX7_turnRound_80 (lv_at hl 0 rfl) ?_
                refine va_iald hx hb hK hP 2 0 rfl rfl (in_of (by omega) (by omega)) dX7_turnRound_82 ?_
                refine o_any (fun z1674 ez1674 => ?_)
                have htl := Tl.at hi1664 (by omega) (by omega) ez1674
                have hv1675 : NewQ f1645 x1643 z1674 := htl.2
                have htl1 := htl.1
                refine lv_iconst (v := 1) hx hb dX7_turnRound_83 (by decide) ?_
                refine W.ofTS (fun hTc hZc => ?_)
                have hk0 : (0 : Int32).toInt = 0 := by decide
                have hk0 : (1 : Int32).toInt = 1 := by decide
                refine fin_vp (run_Vp (n := 2) (ci := 6) ⟨hx, hb, hml, hown, hts⟩ (m_X7_note l D c h0 h1 q1647 H.size (TS H) x1643 0 (.ref h5) v3 (.ref h4) (.ref h3) v4 v5 v6 v7 f1644 n8 f1645 n1646 z1674 1 hx1643 (by decide) gv3 gv4 gv6 gv7 ⟨by omega, by omega⟩ (by decide) ge2 (by omega) hi1660 hv1675 hi1661 hi1662) (hP.sub [0, 1, 2] rfl) (hD.sub [0, 1, 2] (by decide) rfl) hK hN rfl rfl kw_848 kw_850 kw_12 kw_120 kw_851 ⟨rfl, by decide +kernel⟩ ⟨(Nat.le_of_ble_eq_true rfl), (Nat.le_of_ble_eq_true rfl)⟩ rfl rfl rfl hl.1 rfl (Nat.le_of_ble_eq_true rfl) dX7_turnRound_84 ⟨show (n8 + n1646 / 256 - (n8 + n10 / 256)) + (69632 - (n8 + n1646 / 256)) ≤ 69632 - (n8 + n10 / 256) by omega, show (2 * n8 + 2 * n1646 - (2 * n8 + 2 * n10)) + (2228224 - (2 * n8 + 2 * n1646)) ≤ 2228224 - (2 * n8 + 2 * n10) by omega⟩) hP hD hS hA [0, 1, 2] rfl (fun H locs t ht hB hj hS => ?_)
                obtain ⟨z1676, f1677, q1678, n1679, f1680, hq1681, hq1682, hq1683, hq1684, hq1685, hq1686, hq1687, hq1688, hq1689, hq1690, hP1, hD1⟩ := hB
                obtain ⟨hP, hD⟩ := hj (wr := []) (w1 := [(h0, .inr (6, [.ref h1, .ref q1678, .int z1676, .int 0, .ref h5, .int v3, .ref h4, .ref h3, .int v4, .int v5, .int v6, .int v7])), (h1, .inl (c 0, n8, .inl f1677)), (q1678, .inl (c 0, n1679, .inl f1680))]) [] rfl (by decide) (by decide) hP1 hD1
                have hP : va_P D vwCl [(h0, .inr (6, [.ref h1, .ref q1678, .int z1676, .int 0, .ref h5, .int v3, .ref h4, .ref h3, .int v4, .int v5, .int v6, .int v7])), (h1, .inl (c 0, n8, .inl f1677)), (q1678, .inl (c 0, n1679, .inl f1680))] H := hP
                have hD : va_D A [(h0, .inr (6, [.ref h1, .ref q1678, .int z1676, .int 0, .ref h5, .int v3, .ref h4, .ref h3, .int v4, .int v5, .int v6, .int v7])), (h1, .inl (c 0, n8, .inl f1677)), (q1678, .inl (c 0, n1679, .inl f1680))] := hD
                refine W.tight (k := (n8 + n1679 / 256 - (n8 + n10 / 256))) (n := (2 * n8 + 2 * n1679 - (2 * n8 + 2 * n10))) (by rw [← ht]; omega) (by rw [← ht]; omega) ?_
                have hle1691 := hq1684.le
                obtain ⟨z1692, ez1692, hz1692⟩ : ∃ y : Int32, y = x1642 + Int32.ofInt 1 ∧ y.toInt = x1642.toInt + 1 := ⟨_, rfl, ad_int (A := x1642.toInt) (B := 1) rfl (by decide) (by omega) (by omega)⟩
                refine lv_iinc (v := z1692) (lv' := [(5, .int z1692), (4, .int v1), (0, .ref h0), (1, .int a1), (2, .int a2)]) hx hb dX7_turnRound_87 hl (k := 0) rfl ez1692.symm (by decide) rfl (fun ls hl => ?_)
                refine lv_goto (tgt := 55) hx hb dX7_turnRound_90 (by decide) ?_
                have hv1693 : Tl f1680 z1676 z1692 v1 n8 := Tl.note (x := z1674) hi1664 (by omega) (by omega) (by omega) ez1674 (by omega) (by omega) (by omega) hq1687 hq1688
                exact ih2 z1692 ⟨by omega, by omega⟩ z1676 hq1681 f1677 f1680 n1679 q1678 hq1682 hq1684 hq1685 (by omega) hv1693 (by omega) (by omega) (by omega) H locs hP hD hS ls (lv_sub hl [0, 1, 2, 3, 4] rfl)
        have hv1694 : QOK f1448 f11 0 n8 := QOK.none (by decide)
        have hv1695 : Tl f11 0 v2 v1 n8 := Tl.start ge0 (by decide)
        have hk0 : (0 : Int32).toInt = 0 := by decide
        exact lp2 (((1048576 : Int) - v2.toInt).toNat + 1) v2 gv2 0 (by decide) f1448 f11 n10 h2 hv1694 ge3 (by omega) (by omega) hv1695 (by omega) ge1 (by omega) H locs hP hD hS ls (lv_sub hl [0, 1, 3, 4, 5] rfl)
      · refine lv_aload_n hx hb dX7_turnRound_21 rfl (lv_at hl 3 rfl) ?_
        refine va_get (D := D) (ci := 6) (v := .ref h1) (C := RX7) (T := TX7) (N := 12) hx hb hts i_X7 hown hK hP 0 rfl rfl 0 (by decide) (hts _ kw_400) (fun _ h9 => h9) rfl dX7_turnRound_22 ?_
        refine lv_aload_n hx hb dX7_turnRound_25 rfl (lv_at hl 3 rfl) ?_
        refine va_get (D := D) (ci := 6) (v := .ref h2) (C := RX7) (T := TX7) (N := 12) hx hb hts i_X7 hown hK hP 0 rfl rfl 1 (by decide) (hts _ kw_401) (fun _ h9 => h9) rfl dX7_turnRound_26 ?_
        refine lv_iload hx hb dX7_turnRound_29 (lv_at hl 0 rfl) ?_
        refine va_iald hx hb hK hP 2 0 rfl rfl (in_of (by omega) (by omega)) dX7_turnRound_31 ?_
        refine o_any (fun z1696 ez1696 => ?_)
        have hqz1696 := QOK.at ge0 (by omega) (by omega) ez1696
        refine lv_iconst (v := 4) hx hb dX7_turnRound_32 (by decide) ?_
        refine lv_ishr hx hb dX7_turnRound_33 ?_
        refine q_shrc (X := z1696.toInt) (M := 16) 4 rfl (by decide) (by decide) (fun z1697 ez1697 hz1697 => ?_)
        refine lv_iconst (v := 0) hx hb dX7_turnRound_34 (by decide) ?_
        refine va_iast hx hb hK hP hD hS 1 0 rfl rfl (in_of (by omega) (by omega)) dX7_turnRound_35 (fun H locs hP hD hS => ?_)
        obtain ⟨f1698, ef1698, hP, hD⟩ : ∃ y : Nat → Int32, y = upd f1448 (Int32.toNatClampNeg z1697) 0 ∧ va_P D vwCl [(h0, .inr (6, [.ref h1, .ref h2, .int v1, .int v2, .ref h5, .int v3, .ref h4, .ref h3, .int v4, .int v5, .int v6, .int v7])), (h1, .inl (c 0, n8, .inl y)), (h2, .inl (c 0, n10, .inl f11))] H ∧ va_D A [(h0, .inr (6, [.ref h1, .ref h2, .int v1, .int v2, .ref h5, .int v3, .ref h4, .ref h3, .int v4, .int v5, .int v6, .int v7])), (h1, .inl (c 0, n8, .inl y)), (h2, .inl (c 0, n10, .inl f11))] := ⟨_, rfl, hP, hD⟩
        obtain ⟨z1699, ez1699, hz1699⟩ : ∃ y : Int32, y = x1447 + Int32.ofInt 1 ∧ y.toInt = x1447.toInt + 1 := ⟨_, rfl, ad_int (A := x1447.toInt) (B := 1) rfl (by decide) (by omega) (by omega)⟩
        refine lv_iinc (v := z1699) (lv' := [(5, .int z1699), (4, .int v1), (3, .int v2), (0, .ref h0), (1, .int a1), (2, .int a2)]) hx hb dX7_turnRound_36 hl (k := 0) rfl ez1699.symm (by decide) rfl (fun ls hl => ?_)
        refine lv_goto (tgt := 14) hx hb dX7_turnRound_39 (by decide) ?_
        exact ih1 z1699 ⟨by omega, by omega⟩ f1698 (by omega) H locs hP hD hS ls (lv_sub hl [0, 1, 2, 3, 4, 5] rfl)
  have hk0 : (0 : Int32).toInt = 0 := by decide
  exact lp1 (((1048576 : Int) - 0).toNat + 1) 0 (by decide) f9 (by omega) s.heap [] hP hD hS ls (lv_sub hl [0, 1, 2, 3, 4, 5] rfl)
set_option maxHeartbeats 4000000 in
set_option maxRecDepth 100000 in
theorem m_X7_leastGoing (l : Launch) (D : va_G) (c : Nat → ClassId) (h0 h1 h2 h3 h4 h5 h6 h7 h8 h9 h10 h11 h12 : Nat) (sz : Nat) (v1 : Int32) (v2 : Int32) (v3 : Int32) (v4 : Int32) (v5 : Int32) (v6 : Int32) (v7 : Int32) (f9 : Nat → Int32) (n8 : Nat) (v10 : Int32) (v11 : Int32) (f12 : Nat → Int32) (f13 : Nat → Int32) (f20 : Nat → Int32) (f21 : Nat → Int32) (a1 : Int32) (a2 : Int32) (sb1 : Int) (gv1 : 0 ≤ v1.toInt ∧ v1.toInt ≤ 1048576) (gv2 : 0 ≤ v2.toInt ∧ v2.toInt ≤ 1048576) (gv3 : 0 ≤ v3.toInt ∧ v3.toInt ≤ 6) (gv4 : 0 ≤ v4.toInt ∧ v4.toInt ≤ 14) (gv6 : 0 ≤ v6.toInt ∧ v6.toInt ≤ 1048575) (gv7 : 0 ≤ v7.toInt ∧ v7.toInt ≤ 255) (gv10 : 0 ≤ v10.toInt ∧ v10.toInt ≤ 14) (gv11 : 0 ≤ v11.toInt ∧ v11.toInt ≤ 16383) (gf12 : Rg f12 0 16383) (gf13 : Rg f13 0 16383) (gf20 : Rg f20 0 7) (gf21 : Rg f21 0 7) (ga1 : 0 ≤ a1.toInt ∧ a1.toInt ≤ 1048575) (ga2 : 1 ≤ a2.toInt ∧ a2.toInt ≤ 3) (ge0 : Pm n8 sb1) (ge1 : sb1 ≤ 20) (ge2 : v4.toInt + 3 * v3.toInt ≤ sb1) (ge3 : v7.toInt = 0 ∨ v4.toInt + 11 ≤ sb1) (ge4 : a1.toInt < 16 * (n8 : Int)) (ge5 : OuOK v4 f12) (ge6 : OuOK v4 f13) : Met l yX7_leastGoing (Cond.code yX7_leastGoing cX7_leastGoing 6 (some .int) :: TB) ({ frames := 2, cells := 0, slots := 0, locals := 45 } : Room) (va_Pc [.ref h0, .int a1, .int a2] (PW D c [(h0, .inr (6, [.ref h1, .ref h8, .int v1, .int v2, .ref h12, .int v3, .ref h2, .ref h7, .int v4, .int v5, .int v6, .int v7])), (h1, .inl (c 0, n8, .inl f9)), (h2, .inr (3, [.int v10, .int v11, .ref h5, .ref h6, .ref h11, .ref h9, .ref h10, .ref h3, .ref h4])), (h3, .inl (c 0, 8, .inl f12)), (h4, .inl (c 0, 8, .inl f13)), (h5, .inl (c 0, 14, .inl f20)), (h6, .inl (c 0, 14, .inl f21))] sz)) ((QIx (fun A r t => ((-1) ≤ r.toInt ∧ r.toInt ≤ 93) ∧ (r.toInt = -1 ∨ (r.toInt % 16 < v4.toInt ∧ r.toInt / 16 < v3.toInt)) ∧ va_P D vwCl [(h0, .inr (6, [.ref h1, .ref h8, .int v1, .int v2, .ref h12, .int v3, .ref h2, .ref h7, .int v4, .int v5, .int v6, .int v7])), (h1, .inl (c 0, n8, .inl f9)), (h2, .inr (3, [.int v10, .int v11, .ref h5, .ref h6, .ref h11, .ref h9, .ref h10, .ref h3, .ref h4])), (h3, .inl (c 0, 8, .inl f12)), (h4, .inl (c 0, 8, .inl f13)), (h5, .inl (c 0, 14, .inl f20)), (h6, .inl (c 0, 14, .inl f21))] t.heap ∧ va_D A [(h0, .inr (6, [.ref h1, .ref h8, .int v1, .int v2, .ref h12, .int v3, .ref h2, .ref h7, .int v4, .int v5, .int v6, .int v7])), (h1, .inl (c 0, n8, .inl f9)), (h2, .inr (3, [.int v10, .int v11, .ref h5, .ref h6, .ref h11, .ref h9, .ref h10, .ref h3, .ref h4])), (h3, .inl (c 0, 8, .inl f12)), (h4, .inl (c 0, 8, .inl f13)), (h5, .inl (c 0, 14, .inl f20)), (h6, .inl (c 0, 14, .inl f21))])) (va_A [(h0, .inr (6, [.ref h1, .ref h8, .int v1, .int v2, .ref h12, .int v3, .ref h2, .ref h7, .int v4, .int v5, .int v6, .int v7])), (h1, .inl (c 0, n8, .inl f9)), (h2, .inr (3, [.int v10, .int v11, .ref h5, .ref h6, .ref h11, .ref h9, .ref h10, .ref h3, .ref h4])), (h3, .inl (c 0, 8, .inl f12)), (h4, .inl (c 0, 8, .inl f13)), (h5, .inl (c 0, 14, .inl f20)), (h6, .inl (c 0, 14, .inl f21))] sz)) 0 0 (va_A [(h0, .inr (6, [.ref h1, .ref h8, .int v1, .int v2, .ref h12, .int v3, .ref h2, .ref h7, .int v4, .int v5, .int v6, .int v7])), (h1, .inl (c 0, n8, .inl f9)), (h2, .inr (3, [.int v10, .int v11, .ref h5, .ref h6, .ref h11, .ref h9, .ref h10, .ref h3, .ref h4])), (h3, .inl (c 0, 8, .inl f12)), (h4, .inl (c 0, 8, .inl f13)), (h5, .inl (c 0, 14, .inl f20)), (h6, .inl (c 0, 14, .inl f21))] sz) := by
  refine start2 (by decide +kernel) (Nat.le_of_ble_eq_true rfl) ?_
  intro p e s m below meth cd A ls Q hx hb hr hml hts hown hlocks hin hA hS hK hP hD hN hl hQ
  have hown : s.vm.findClass RX7 = some m.cls := hown
  have hl : lv_has ls 6 [(0, .ref h0), (1, .int a1), (2, .int a2)] := hl
  have hP : va_P D vwCl [(h0, .inr (6, [.ref h1, .ref h8, .int v1, .int v2, .ref h12, .int v3, .ref h2, .ref h7, .int v4, .int v5, .int v6, .int v7])), (h1, .inl (c 0, n8, .inl f9)), (h2, .inr (3, [.int v10, .int v11, .ref h5, .ref h6, .ref h11, .ref h9, .ref h10, .ref h3, .ref h4])), (h3, .inl (c 0, 8, .inl f12)), (h4, .inl (c 0, 8, .inl f13)), (h5, .inl (c 0, 14, .inl f20)), (h6, .inl (c 0, 14, .inl f21))] s.heap := hP
  refine lv_iconst (v := 0) hx hb dX7_leastGoing_0 (by decide) ?_
  refine lv_istore_n (lv' := [(3, .int 0), (0, .ref h0), (1, .int a1), (2, .int a2)]) hx hb dX7_leastGoing_1 rfl hl (by decide) rfl (fun ls hl => ?_)
  have lp1 : ∀ (n1 : Nat), ∀ (x1531 : Int32) (hx1531 : 0 ≤ x1531.toInt ∧ x1531.toInt ≤ 6) (hm1 : (6 : Int) - x1531.toInt < (n1 : Int)) (H : Heap) (locs : List Loc) (hP : va_P D vwCl [(h0, .inr (6, [.ref h1, .ref h8, .int v1, .int v2, .ref h12, .int v3, .ref h2, .ref h7, .int v4, .int v5, .int v6, .int v7])), (h1, .inl (c 0, n8, .inl f9)), (h2, .inr (3, [.int v10, .int v11, .ref h5, .ref h6, .ref h11, .ref h9, .ref h10, .ref h3, .ref h4])), (h3, .inl (c 0, 8, .inl f12)), (h4, .inl (c 0, 8, .inl f13)), (h5, .inl (c 0, 14, .inl f20)), (h6, .inl (c 0, 14, .inl f21))] H) (hD : va_D A [(h0, .inr (6, [.ref h1, .ref h8, .int v1, .int v2, .ref h12, .int v3, .ref h2, .ref h7, .int v4, .int v5, .int v6, .int v7])), (h1, .inl (c 0, n8, .inl f9)), (h2, .inr (3, [.int v10, .int v11, .ref h5, .ref h6, .ref h11, .ref h9, .ref h10, .ref h3, .ref h4])), (h3, .inl (c 0, 8, .inl f12)), (h4, .inl (c 0, 8, .inl f13)), (h5, .inl (c 0, 14, .inl f20)), (h6, .inl (c 0, 14, .inl f21))]) (hS : va_S A s.heap H locs) (ls : Array Slot) (hl : lv_has ls 6 [(3, .int x1531), (0, .ref h0), (1, .int a1), (2, .int a2)]), W p l e ({ frames := 2, cells := 0, slots := 0, locals := 45 } : Room) s m [.ref h0, .int a1, .int a2].toArray below meth cd H locs 0 0 Q (F0 m 2 ls []) := by
    intro n1
    induction n1 with
    | zero =>
      intro x1531 hx1531 hm1 H locs hP hD hS ls hl
      exact absurd hm1 (by omega)
    | succ n1 ih1 =>
      intro x1531 hx1531 hm1 H locs hP hD hS ls hl
      refine lv_iload_n hx hb dX7_leastGoing_2 rfl (lv_at hl 0 rfl) ?_
      refine lv_aload_n hx hb dX7_leastGoing_3 rfl (lv_at hl 1 rfl) ?_
      refine va_get (D := D) (ci := 6) (v := .int v3) (C := RX7) (T := TX7) (N := 12) hx hb hts i_X7 hown hK hP 0 rfl rfl 5 (by decide) (hts _ kw_405) (fun _ h9 => h9) rfl dX7_leastGoing_4 ?_
      refine B_icmp_ge (tgt := 76) (X := x1531.toInt) (Y := v3.toInt) hx hb dX7_leastGoing_7 (by decide) rfl rfl (fun hc1622 => ?_) (fun hc1622 => ?_)
      · refine lv_iconst (v := (-1)) hx hb dX7_leastGoing_76 (by decide) ?_
        have hk0 : ((-1) : Int32).toInt = (-1) := by decide
        exact rI hQ hx hb hr hlocks rfl hS (Nat.le_of_ble_eq_true rfl) (Nat.le_of_ble_eq_true rfl) dX7_leastGoing_77 (fun t ht => ⟨by decide, (by omega), by rw [ht]; exact hP, hD⟩)
      · refine lv_aload_n hx hb dX7_leastGoing_10 rfl (lv_at hl 1 rfl) ?_
        refine lv_iload_n hx hb dX7_leastGoing_11 rfl (lv_at hl 2 rfl) ?_
        refine lv_iload_n hx hb dX7_leastGoing_12 rfl (lv_at hl 0 rfl) ?_
        refine fI (run_V (n := 2) (ci := 6) ⟨hx, hb, hml, hown, hts⟩ (m_X7_leading l D c h0 h2 h3 h4 h7 h1 h8 h12 H.size v1 v2 v3 v4 v5 v6 v7 v10 v11 (.ref h5) (.ref h6) (.ref h11) (.ref h9) (.ref h10) f12 f13 a1 x1531 gv1 gv2 gv3 gv4 gv6 gv7 gv10 gv11 gf12 gf13 ga1 ⟨by omega, by omega⟩ ge5 ge6) (hP.sub [0, 2, 3, 4] rfl) (hD.sub [0, 2, 3, 4] (by decide) rfl) hK hN rfl rfl kw_881 kw_883 kw_17 kw_120 kw_884 ⟨rfl, by decide +kernel⟩ ⟨(Nat.le_of_ble_eq_true rfl), (Nat.le_of_ble_eq_true rfl)⟩ rfl rfl rfl hl.1 rfl (Nat.le_of_ble_eq_true rfl) dX7_leastGoing_13 ⟨(Nat.le_of_ble_eq_true rfl), (Nat.le_of_ble_eq_true rfl)⟩) hP hD hS hA [0, 2, 3, 4] rfl (fun z1623 H locs t hB hj hS => ?_)
        obtain ⟨hq1624, hq1625, hP1, hD1⟩ := hB
        obtain ⟨hP, hD⟩ := hj (wr := [(h1, .inl (c 0, n8, .inl f9)), (h5, .inl (c 0, 14, .inl f20)), (h6, .inl (c 0, 14, .inl f21))]) (w1 := [(h0, .inr (6, [.ref h1, .ref h8, .int v1, .int v2, .ref h12, .int v3, .ref h2, .ref h7, .int v4, .int v5, .int v6, .int v7])), (h2, .inr (3, [.int v10, .int v11, .ref h5, .ref h6, .ref h11, .ref h9, .ref h10, .ref h3, .ref h4])), (h3, .inl (c 0, 8, .inl f12)), (h4, .inl (c 0, 8, .inl f13))]) [1, 5, 6] rfl (by decide) (by decide) hP1 hD1
        have hP : va_P D vwCl [(h1, .inl (c 0, n8, .inl f9)), (h5, .inl (c 0, 14, .inl f20)), (h6, .inl (c 0, 14, .inl f21)), (h0, .inr (6, [.ref h1, .ref h8, .int v1, .int v2, .ref h12, .int v3, .ref h2, .ref h7, .int v4, .int v5, .int v6, .int v7])), (h2, .inr (3, [.int v10, .int v11, .ref h5, .ref h6, .ref h11, .ref h9, .ref h10, .ref h3, .ref h4])), (h3, .inl (c 0, 8, .inl f12)), (h4, .inl (c 0, 8, .inl f13))] H := hP
        have hD : va_D A [(h1, .inl (c 0, n8, .inl f9)), (h5, .inl (c 0, 14, .inl f20)), (h6, .inl (c 0, 14, .inl f21)), (h0, .inr (6, [.ref h1, .ref h8, .int v1, .int v2, .ref h12, .int v3, .ref h2, .ref h7, .int v4, .int v5, .int v6, .int v7])), (h2, .inr (3, [.int v10, .int v11, .ref h5, .ref h6, .ref h11, .ref h9, .ref h10, .ref h3, .ref h4])), (h3, .inl (c 0, 8, .inl f12)), (h4, .inl (c 0, 8, .inl f13))] := hD
        refine lv_istore (lv' := [(4, .int z1623), (3, .int x1531), (0, .ref h0), (1, .int a1), (2, .int a2)]) hx hb dX7_leastGoing_16 hl (by decide) rfl (fun ls hl => ?_)
        refine lv_iconst (v := 0) hx hb dX7_leastGoing_18 (by decide) ?_
        refine lv_istore (lv' := [(5, .int 0), (4, .int z1623), (3, .int x1531), (0, .ref h0), (1, .int a1), (2, .int a2)]) hx hb dX7_leastGoing_19 hl (by decide) rfl (fun ls hl => ?_)
        have lp2 : ∀ (n2 : Nat), ∀ (x1701 : Int32) (hx1701 : 0 ≤ x1701.toInt ∧ x1701.toInt ≤ 14) (hm2 : (14 : Int) - x1701.toInt < (n2 : Int)) (H : Heap) (locs : List Loc) (hP : va_P D vwCl [(h1, .inl (c 0, n8, .inl f9)), (h5, .inl (c 0, 14, .inl f20)), (h6, .inl (c 0, 14, .inl f21)), (h0, .inr (6, [.ref h1, .ref h8, .int v1, .int v2, .ref h12, .int v3, .ref h2, .ref h7, .int v4, .int v5, .int v6, .int v7])), (h2, .inr (3, [.int v10, .int v11, .ref h5, .ref h6, .ref h11, .ref h9, .ref h10, .ref h3, .ref h4])), (h3, .inl (c 0, 8, .inl f12)), (h4, .inl (c 0, 8, .inl f13))] H) (hD : va_D A [(h1, .inl (c 0, n8, .inl f9)), (h5, .inl (c 0, 14, .inl f20)), (h6, .inl (c 0, 14, .inl f21)), (h0, .inr (6, [.ref h1, .ref h8, .int v1, .int v2, .ref h12, .int v3, .ref h2, .ref h7, .int v4, .int v5, .int v6, .int v7])), (h2, .inr (3, [.int v10, .int v11, .ref h5, .ref h6, .ref h11, .ref h9, .ref h10, .ref h3, .ref h4])), (h3, .inl (c 0, 8, .inl f12)), (h4, .inl (c 0, 8, .inl f13))]) (hS : va_S A s.heap H locs) (ls : Array Slot) (hl : lv_has ls 6 [(5, .int x1701), (4, .int z1623), (3, .int x1531), (0, .ref h0), (1, .int a1), (2, .int a2)]), W p l e ({ frames := 2, cells := 0, slots := 0, locals := 45 } : Room) s m [.ref h0, .int a1, .int a2].toArray below meth cd H locs 0 0 Q (F0 m 21 ls []) := by
          intro n2
          induction n2 with
          | zero =>
            intro x1701 hx1701 hm2 H locs hP hD hS ls hl
            exact absurd hm2 (by omega)
          | succ n2 ih2 =>
            intro x1701 hx1701 hm2 H locs hP hD hS ls hl
            refine lv_iload hx hb dX7_leastGoing_21 (lv_at hl 0 rfl) ?_
            refine lv_aload_n hx hb dX7_leastGoing_23 rfl (lv_at hl 3 rfl) ?_
            refine va_get (D := D) (ci := 6) (v := .int v4) (C := RX7) (T := TX7) (N := 12) hx hb hts i_X7 hown hK hP 3 rfl rfl 8 (by decide) (hts _ kw_408) (fun _ h9 => h9) rfl dX7_leastGoing_24 ?_
            refine B_icmp_ge (tgt := 70) (X := x1701.toInt) (Y := v4.toInt) hx hb dX7_leastGoing_27 (by decide) rfl rfl (fun hc1714 => ?_) (fun hc1714 => ?_)
            · obtain ⟨z1715, ez1715, hz1715⟩ : ∃ y : Int32, y = x1531 + Int32.ofInt 1 ∧ y.toInt = x1531.toInt + 1 := ⟨_, rfl, ad_int (A := x1531.toInt) (B := 1) rfl (by decide) (by omega) (by omega)⟩
              refine lv_iinc (v := z1715) (lv' := [(3, .int z1715), (5, .int x1701), (4, .int z1623), (0, .ref h0), (1, .int a1), (2, .int a2)]) hx hb dX7_leastGoing_70 hl (k := 2) rfl ez1715.symm (by decide) rfl (fun ls hl => ?_)
              refine lv_goto (tgt := 2) hx hb dX7_leastGoing_73 (by decide) ?_
              exact ih1 z1715 ⟨by omega, by omega⟩ (by omega) H locs (hP.sub [3, 0, 4, 5, 6, 1, 2] rfl) (hD.sub [3, 0, 4, 5, 6, 1, 2] (by decide) rfl) hS ls (lv_sub hl [0, 3, 4, 5] rfl)
            · refine lv_iload hx hb dX7_leastGoing_30 (lv_at hl 1 rfl) ?_
              refine lv_iload hx hb dX7_leastGoing_32 (lv_at hl 0 rfl) ?_
              refine lv_ishr hx hb dX7_leastGoing_34 ?_
              refine q_shr (X := z1623.toInt) rfl (by omega) (fun z1716 ez1716 hz1716 => ?_)
              refine lv_iconst (v := 1) hx hb dX7_leastGoing_35 (by decide) ?_
              refine lv_iand hx hb dX7_leastGoing_36 ?_
              refine q_mask (X := z1716.toInt) (M := 2) 1 rfl (by decide) (by decide) (by decide) (fun z1717 ez1717 hz1717 => ?_)
              refine B_if_eq (tgt := 64) (X := z1717.toInt) hx hb dX7_leastGoing_37 (by decide) rfl (fun hc1718 => ?_) (fun hc1718 => ?_)
              · obtain ⟨z1719, ez1719, hz1719⟩ : ∃ y : Int32, y = x1701 + Int32.ofInt 1 ∧ y.toInt = x1701.toInt + 1 := ⟨_, rfl, ad_int (A := x1701.toInt) (B := 1) rfl (by decide) (by omega) (by omega)⟩
                refine lv_iinc (v := z1719) (lv' := [(5, .int z1719), (4, .int z1623), (3, .int x1531), (0, .ref h0), (1, .int a1), (2, .int a2)]) hx hb dX7_leastGoing_64 hl (k := 0) rfl ez1719.symm (by decide) rfl (fun ls hl => ?_)
                refine lv_goto (tgt := 21) hx hb dX7_leastGoing_67 (by decide) ?_
                exact ih2 z1719 ⟨by omega, by omega⟩ (by omega) H locs hP hD hS ls (lv_sub hl [0, 1, 2, 3, 4, 5] rfl)
              · refine lv_aload_n hx hb dX7_leastGoing_40 rfl (lv_at hl 3 rfl) ?_
                refine lv_aload_n hx hb dX7_leastGoing_41 rfl (lv_at hl 3 rfl) ?_
                refine lv_iload_n hx hb dX7_leastGoing_42 rfl (lv_at hl 4 rfl) ?_
                refine lv_iload_n hx hb dX7_leastGoing_43 rfl (lv_at hl 2 rfl) ?_
                refine lv_iload hx hb dX7_leastGoing_44 (lv_at hl 0 rfl) ?_
                refine fI (run_V (n := 3) (ci := 6) ⟨hx, hb, hml, hown, hts⟩ (m_X7_behind l D c h0 h2 h5 h6 h7 h1 h8 h12 H.size v1 v2 v3 v4 v5 v6 v7 v10 v11 (.ref h11) (.ref h9) (.ref h10) (.ref h3) (.ref h4) f20 f21 a1 x1531 x1701 n8 sb1 gv1 gv2 gv3 gv4 gv6 gv7 gv10 gv11 gf20 gf21 ga1 ⟨by omega, by omega⟩ ⟨by omega, by omega⟩ ge0 ge4 (by omega) (by omega) ge3 ge1) (hP.sub [3, 4, 1, 2] rfl) (hD.sub [3, 4, 1, 2] (by decide) rfl) hK hN rfl rfl kw_888 kw_890 kw_18 kw_120 kw_891 ⟨rfl, by decide +kernel⟩ ⟨(Nat.le_of_ble_eq_true rfl), (Nat.le_of_ble_eq_true rfl)⟩ rfl rfl rfl hl.1 rfl (Nat.le_of_ble_eq_true rfl) dX7_leastGoing_46 ⟨(Nat.le_of_ble_eq_true rfl), (Nat.le_of_ble_eq_true rfl)⟩) hP hD hS hA [3, 4, 1, 2] rfl (fun z1720 H locs t hB hj hS => ?_)
                obtain ⟨hq1721, hq1722, hP1, hD1⟩ := hB
                obtain ⟨hP, hD⟩ := hj (wr := [(h1, .inl (c 0, n8, .inl f9)), (h3, .inl (c 0, 8, .inl f12)), (h4, .inl (c 0, 8, .inl f13))]) (w1 := [(h0, .inr (6, [.ref h1, .ref h8, .int v1, .int v2, .ref h12, .int v3, .ref h2, .ref h7, .int v4, .int v5, .int v6, .int v7])), (h2, .inr (3, [.int v10, .int v11, .ref h5, .ref h6, .ref h11, .ref h9, .ref h10, .ref h3, .ref h4])), (h5, .inl (c 0, 14, .inl f20)), (h6, .inl (c 0, 14, .inl f21))]) [0, 5, 6] rfl (by decide) (by decide) hP1 hD1
                have hP : va_P D vwCl [(h1, .inl (c 0, n8, .inl f9)), (h3, .inl (c 0, 8, .inl f12)), (h4, .inl (c 0, 8, .inl f13)), (h0, .inr (6, [.ref h1, .ref h8, .int v1, .int v2, .ref h12, .int v3, .ref h2, .ref h7, .int v4, .int v5, .int v6, .int v7])), (h2, .inr (3, [.int v10, .int v11, .ref h5, .ref h6, .ref h11, .ref h9, .ref h10, .ref h3, .ref h4])), (h5, .inl (c 0, 14, .inl f20)), (h6, .inl (c 0, 14, .inl f21))] H := hP
                have hD : va_D A [(h1, .inl (c 0, n8, .inl f9)), (h3, .inl (c 0, 8, .inl f12)), (h4, .inl (c 0, 8, .inl f13)), (h0, .inr (6, [.ref h1, .ref h8, .int v1, .int v2, .ref h12, .int v3, .ref h2, .ref h7, .int v4, .int v5, .int v6, .int v7])), (h2, .inr (3, [.int v10, .int v11, .ref h5, .ref h6, .ref h11, .ref h9, .ref h10, .ref h3, .ref h4])), (h5, .inl (c 0, 14, .inl f20)), (h6, .inl (c 0, 14, .inl f21))] := hD
                refine fI (run_V (n := 1) (ci := 6) ⟨hx, hb, hml, hown, hts⟩ (m_X7_mark l D c h0 h1 H.size (.ref h8) v1 v2 (.ref h12) v3 (.ref h2) (.ref h7) v4 v5 v6 v7 f9 n8 z1720 gv1 gv2 gv3 gv4 gv6 gv7 hq1721 hq1722) (hP.sub [3, 0] rfl) (hD.sub [3, 0] (by decide) rfl) hK hN rfl rfl kw_892 kw_894 kw_19 kw_120 kw_895 ⟨rfl, by decide +kernel⟩ ⟨(Nat.le_of_ble_eq_true rfl), (Nat.le_of_ble_eq_true rfl)⟩ rfl rfl rfl hl.1 rfl (Nat.le_of_ble_eq_true rfl) dX7_leastGoing_49 ⟨(Nat.le_of_ble_eq_true rfl), (Nat.le_of_ble_eq_true rfl)⟩) hP hD hS hA [3, 0] rfl (fun z1723 H locs t hB hj hS => ?_)
                obtain ⟨hq1724, hq1725, hP1, hD1⟩ := hB
                obtain ⟨hP, hD⟩ := hj (wr := [(h3, .inl (c 0, 8, .inl f12)), (h4, .inl (c 0, 8, .inl f13)), (h2, .inr (3, [.int v10, .int v11, .ref h5, .ref h6, .ref h11, .ref h9, .ref h10, .ref h3, .ref h4])), (h5, .inl (c 0, 14, .inl f20)), (h6, .inl (c 0, 14, .inl f21))]) (w1 := [(h0, .inr (6, [.ref h1, .ref h8, .int v1, .int v2, .ref h12, .int v3, .ref h2, .ref h7, .int v4, .int v5, .int v6, .int v7])), (h1, .inl (c 0, n8, .inl f9))]) [1, 2, 4, 5, 6] rfl (by decide) (by decide) hP1 hD1
                have hP : va_P D vwCl [(h3, .inl (c 0, 8, .inl f12)), (h4, .inl (c 0, 8, .inl f13)), (h2, .inr (3, [.int v10, .int v11, .ref h5, .ref h6, .ref h11, .ref h9, .ref h10, .ref h3, .ref h4])), (h5, .inl (c 0, 14, .inl f20)), (h6, .inl (c 0, 14, .inl f21)), (h0, .inr (6, [.ref h1, .ref h8, .int v1, .int v2, .ref h12, .int v3, .ref h2, .ref h7, .int v4, .int v5, .int v6, .int v7])), (h1, .inl (c 0, n8, .inl f9))] H := hP
                have hD : va_D A [(h3, .inl (c 0, 8, .inl f12)), (h4, .inl (c 0, 8, .inl f13)), (h2, .inr (3, [.int v10, .int v11, .ref h5, .ref h6, .ref h11, .ref h9, .ref h10, .ref h3, .ref h4])), (h5, .inl (c 0, 14, .inl f20)), (h6, .inl (c 0, 14, .inl f21)), (h0, .inr (6, [.ref h1, .ref h8, .int v1, .int v2, .ref h12, .int v3, .ref h2, .ref h7, .int v4, .int v5, .int v6, .int v7])), (h1, .inl (c 0, n8, .inl f9))] := hD
                refine lv_iload_n hx hb dX7_leastGoing_52 rfl (lv_at hl 5 rfl) ?_
                refine B_icmp_ne (tgt := 64) (X := z1723.toInt) (Y := a2.toInt) hx hb dX7_leastGoing_53 (by decide) rfl rfl (fun hc1726 => ?_) (fun hc1726 => ?_)
                · obtain ⟨z1727, ez1727, hz1727⟩ : ∃ y : Int32, y = x1701 + Int32.ofInt 1 ∧ y.toInt = x1701.toInt + 1 := ⟨_, rfl, ad_int (A := x1701.toInt) (B := 1) rfl (by decide) (by omega) (by omega)⟩
                  refine lv_iinc (v := z1727) (lv' := [(5, .int z1727), (4, .int z1623), (3, .int x1531), (0, .ref h0), (1, .int a1), (2, .int a2)]) hx hb dX7_leastGoing_64 hl (k := 0) rfl ez1727.symm (by decide) rfl (fun ls hl => ?_)
                  refine lv_goto (tgt := 21) hx hb dX7_leastGoing_67 (by decide) ?_
                  exact ih2 z1727 ⟨by omega, by omega⟩ (by omega) H locs (hP.sub [6, 3, 4, 5, 2, 0, 1] rfl) (hD.sub [6, 3, 4, 5, 2, 0, 1] (by decide) rfl) hS ls (lv_sub hl [0, 1, 2, 3, 4, 5] rfl)
                · refine lv_bipush (v := 16) hx hb dX7_leastGoing_56 (by decide) ?_
                  refine lv_iload_n hx hb dX7_leastGoing_58 rfl (lv_at hl 2 rfl) ?_
                  refine lv_imul hx hb dX7_leastGoing_59 ?_
                  refine q_mul (X := 16) (Y := x1531.toInt) (by decide) rfl rfl (by omega) (by omega) (fun z1728 ez1728 hz1728 => ?_)
                  refine lv_iload hx hb dX7_leastGoing_60 (lv_at hl 0 rfl) ?_
                  refine lv_iadd hx hb dX7_leastGoing_62 ?_
                  refine q_add (X := z1728.toInt) (Y := x1701.toInt) rfl rfl (by omega) (by omega) (fun z1729 ez1729 hz1729 => ?_)
                  have hP := hP.sub (ws' := [(h0, .inr (6, [.ref h1, .ref h8, .int v1, .int v2, .ref h12, .int v3, .ref h2, .ref h7, .int v4, .int v5, .int v6, .int v7])), (h1, .inl (c 0, n8, .inl f9)), (h2, .inr (3, [.int v10, .int v11, .ref h5, .ref h6, .ref h11, .ref h9, .ref h10, .ref h3, .ref h4])), (h3, .inl (c 0, 8, .inl f12)), (h4, .inl (c 0, 8, .inl f13)), (h5, .inl (c 0, 14, .inl f20)), (h6, .inl (c 0, 14, .inl f21))]) [5, 6, 2, 0, 1, 3, 4] rfl
                  have hD := hD.sub (ws' := [(h0, .inr (6, [.ref h1, .ref h8, .int v1, .int v2, .ref h12, .int v3, .ref h2, .ref h7, .int v4, .int v5, .int v6, .int v7])), (h1, .inl (c 0, n8, .inl f9)), (h2, .inr (3, [.int v10, .int v11, .ref h5, .ref h6, .ref h11, .ref h9, .ref h10, .ref h3, .ref h4])), (h3, .inl (c 0, 8, .inl f12)), (h4, .inl (c 0, 8, .inl f13)), (h5, .inl (c 0, 14, .inl f20)), (h6, .inl (c 0, 14, .inl f21))]) [5, 6, 2, 0, 1, 3, 4] (by decide) rfl
                  exact rI hQ hx hb hr hlocks rfl hS (Nat.le_of_ble_eq_true rfl) (Nat.le_of_ble_eq_true rfl) dX7_leastGoing_63 (fun t ht => ⟨⟨by omega, by omega⟩, (by omega), by rw [ht]; exact hP, hD⟩)
        have hk0 : (0 : Int32).toInt = 0 := by decide
        exact lp2 (((14 : Int) - 0).toNat + 1) 0 (by decide) (by omega) H locs hP hD hS ls (lv_sub hl [0, 1, 2, 3, 4, 5] rfl)
  have hk0 : (0 : Int32).toInt = 0 := by decide
  exact lp1 (((6 : Int) - 0).toNat + 1) 0 (by decide) (by omega) s.heap [] hP hD hS ls (lv_sub hl [0, 1, 2, 3] rfl)
set_option maxHeartbeats 4000000 in
set_option maxRecDepth 100000 in
theorem m_X7_places (l : Launch) (D : va_G) (c : Nat → ClassId) (h0 h1 h2 h3 h4 h5 : Nat) (sz : Nat) (v1 : Int32) (v2 : Int32) (v3 : Int32) (v4 : Int32) (v5 : Int32) (v6 : Int32) (v7 : Int32) (gv1 : 0 ≤ v1.toInt ∧ v1.toInt ≤ 1048576) (gv2 : 0 ≤ v2.toInt ∧ v2.toInt ≤ 1048576) (gv3 : 0 ≤ v3.toInt ∧ v3.toInt ≤ 6) (gv4 : 0 ≤ v4.toInt ∧ v4.toInt ≤ 14) (gv6 : 0 ≤ v6.toInt ∧ v6.toInt ≤ 1048575) (gv7 : 0 ≤ v7.toInt ∧ v7.toInt ≤ 255) : Met l yX7_places (Cond.code yX7_places cX7_places 1 (some .int) :: TB) ({ frames := 1, cells := 0, slots := 0, locals := 21 } : Room) (va_Pc [.ref h0] (PW D c [(h0, .inr (6, [.ref h2, .ref h3, .int v1, .int v2, .ref h5, .int v3, .ref h4, .ref h1, .int v4, .int v5, .int v6, .int v7]))] sz)) ((QIx (fun A r t => va_P D vwCl [(h0, .inr (6, [.ref h2, .ref h3, .int v1, .int v2, .ref h5, .int v3, .ref h4, .ref h1, .int v4, .int v5, .int v6, .int v7]))] t.heap ∧ va_D A [(h0, .inr (6, [.ref h2, .ref h3, .int v1, .int v2, .ref h5, .int v3, .ref h4, .ref h1, .int v4, .int v5, .int v6, .int v7]))])) (va_A [(h0, .inr (6, [.ref h2, .ref h3, .int v1, .int v2, .ref h5, .int v3, .ref h4, .ref h1, .int v4, .int v5, .int v6, .int v7]))] sz)) 0 0 (va_A [(h0, .inr (6, [.ref h2, .ref h3, .int v1, .int v2, .ref h5, .int v3, .ref h4, .ref h1, .int v4, .int v5, .int v6, .int v7]))] sz) := by
  refine start2 (by decide +kernel) (Nat.le_of_ble_eq_true rfl) ?_
  intro p e s m below meth cd A ls Q hx hb hr hml hts hown hlocks hin hA hS hK hP hD hN hl hQ
  have hown : s.vm.findClass RX7 = some m.cls := hown
  have hl : lv_has ls 1 [(0, .ref h0)] := hl
  have hP : va_P D vwCl [(h0, .inr (6, [.ref h2, .ref h3, .int v1, .int v2, .ref h5, .int v3, .ref h4, .ref h1, .int v4, .int v5, .int v6, .int v7]))] s.heap := hP
  refine lv_iconst (v := 1) hx hb dX7_places_0 (by decide) ?_
  refine lv_aload_n hx hb dX7_places_1 rfl (lv_at hl 0 rfl) ?_
  refine lv_aload_n hx hb dX7_places_2 rfl (lv_at hl 0 rfl) ?_
  refine va_get (D := D) (ci := 6) (v := .int v3) (C := RX7) (T := TX7) (N := 12) hx hb hts i_X7 hown hK hP 0 rfl rfl 5 (by decide) (hts _ kw_405) (fun _ h9 => h9) rfl dX7_places_3 ?_
  refine fI (run_V (n := 1) (ci := 6) ⟨hx, hb, hml, hown, hts⟩ (m_X7_shift l D c h0 s.heap.size (.ref h2) (.ref h3) v1 v2 (.ref h5) v3 (.ref h4) (.ref h1) v4 v5 v6 v7 v3 gv1 gv2 gv3 gv4 gv6 gv7 gv3) (hP.sub [0] rfl) (hD.sub [0] (by decide) rfl) hK hN rfl rfl kw_833 kw_835 kw_10 kw_120 kw_836 ⟨rfl, by decide +kernel⟩ ⟨(Nat.le_of_ble_eq_true rfl), (Nat.le_of_ble_eq_true rfl)⟩ rfl rfl rfl hl.1 rfl (Nat.le_of_ble_eq_true rfl) dX7_places_6 ⟨(Nat.le_of_ble_eq_true rfl), (Nat.le_of_ble_eq_true rfl)⟩) hP hD hS hA [0] rfl (fun z1001 H locs t hB hj hS => ?_)
  obtain ⟨hq1002, hq1003, hP1, hD1⟩ := hB
  obtain ⟨hP, hD⟩ := hj (wr := []) (w1 := [(h0, .inr (6, [.ref h2, .ref h3, .int v1, .int v2, .ref h5, .int v3, .ref h4, .ref h1, .int v4, .int v5, .int v6, .int v7]))]) [] rfl (by decide) (by decide) hP1 hD1
  have hP : va_P D vwCl [(h0, .inr (6, [.ref h2, .ref h3, .int v1, .int v2, .ref h5, .int v3, .ref h4, .ref h1, .int v4, .int v5, .int v6, .int v7]))] H := hP
  have hD : va_D A [(h0, .inr (6, [.ref h2, .ref h3, .int v1, .int v2, .ref h5, .int v3, .ref h4, .ref h1, .int v4, .int v5, .int v6, .int v7]))] := hD
  refine lv_ishl hx hb dX7_places_9 ?_
  refine o_any (fun z1004 ez1004 => ?_)
  refine lv_iconst (v := 1) hx hb dX7_places_10 (by decide) ?_
  refine lv_aload_n hx hb dX7_places_11 rfl (lv_at hl 0 rfl) ?_
  refine va_get (D := D) (ci := 6) (v := .int v4) (C := RX7) (T := TX7) (N := 12) hx hb hts i_X7 hown hK hP 0 rfl rfl 8 (by decide) (hts _ kw_408) (fun _ h9 => h9) rfl dX7_places_12 ?_
  refine lv_ishl hx hb dX7_places_15 ?_
  refine q_shl (X := 1) (Y := v4.toInt) (M := 16384) 1 14 (by decide) rfl (by omega) (by omega) (by omega) (by omega) (by decide) (by decide) (by decide) (fun z1005 ez1005 hz1005 => ?_)
  refine lv_isub hx hb dX7_places_16 ?_
  refine o_any (fun z1006 ez1006 => ?_)
  exact rI hQ hx hb hr hlocks rfl hS (Nat.le_of_ble_eq_true rfl) (Nat.le_of_ble_eq_true rfl) dX7_places_17 (fun t ht => ⟨by rw [ht]; exact hP, hD⟩)
set_option maxHeartbeats 4000000 in
set_option maxRecDepth 100000 in
theorem m_X7_aims (l : Launch) (D : va_G) (c : Nat → ClassId) (h0 h1 h2 h3 h4 h5 h6 : Nat) (sz : Nat) (v1 : Int32) (v2 : Int32) (v3 : Int32) (v4 : Int32) (v5 : Int32) (v6 : Int32) (v7 : Int32) (v9 : Int32) (u71 : Value) (u72 : Value) (u73 : Value) (u74 : Value) (u75 : Value) (u76 : Value) (f10 : Nat → Int32) (f12 : Nat → Int32) (gv1 : 0 ≤ v1.toInt ∧ v1.toInt ≤ 1048576) (gv2 : 0 ≤ v2.toInt ∧ v2.toInt ≤ 1048576) (gv3 : 0 ≤ v3.toInt ∧ v3.toInt ≤ 6) (gv4 : 0 ≤ v4.toInt ∧ v4.toInt ≤ 14) (gv6 : 0 ≤ v6.toInt ∧ v6.toInt ≤ 1048575) (gv7 : 0 ≤ v7.toInt ∧ v7.toInt ≤ 255) (gv9 : 0 ≤ v9.toInt ∧ v9.toInt ≤ 6) (gf10 : Rg f10 0 5) (gf12 : Rg f12 0 7) : Met l yX7_aims (Cond.code yX7_aims cX7_aims 3 (some .int) :: TB) ({ frames := 1, cells := 0, slots := 0, locals := 21 } : Room) (va_Pc [.ref h0] (PW D c [(h0, .inr (6, [.ref h4, .ref h5, .int v1, .int v2, .ref h2, .int v3, .ref h6, .ref h1, .int v4, .int v5, .int v6, .int v7])), (h1, .inr (1, [.int v9, u71, .ref h3, u72, u73, u74, u75, u76])), (h2, .inl (c 0, 6, .inl f10)), (h3, .inl (c 0, 6, .inl f12))] sz)) ((QIx (fun A r t => va_P D vwCl [(h0, .inr (6, [.ref h4, .ref h5, .int v1, .int v2, .ref h2, .int v3, .ref h6, .ref h1, .int v4, .int v5, .int v6, .int v7])), (h1, .inr (1, [.int v9, u71, .ref h3, u72, u73, u74, u75, u76])), (h2, .inl (c 0, 6, .inl f10)), (h3, .inl (c 0, 6, .inl f12))] t.heap ∧ va_D A [(h0, .inr (6, [.ref h4, .ref h5, .int v1, .int v2, .ref h2, .int v3, .ref h6, .ref h1, .int v4, .int v5, .int v6, .int v7])), (h1, .inr (1, [.int v9, u71, .ref h3, u72, u73, u74, u75, u76])), (h2, .inl (c 0, 6, .inl f10)), (h3, .inl (c 0, 6, .inl f12))])) (va_A [(h0, .inr (6, [.ref h4, .ref h5, .int v1, .int v2, .ref h2, .int v3, .ref h6, .ref h1, .int v4, .int v5, .int v6, .int v7])), (h1, .inr (1, [.int v9, u71, .ref h3, u72, u73, u74, u75, u76])), (h2, .inl (c 0, 6, .inl f10)), (h3, .inl (c 0, 6, .inl f12))] sz)) 0 0 (va_A [(h0, .inr (6, [.ref h4, .ref h5, .int v1, .int v2, .ref h2, .int v3, .ref h6, .ref h1, .int v4, .int v5, .int v6, .int v7])), (h1, .inr (1, [.int v9, u71, .ref h3, u72, u73, u74, u75, u76])), (h2, .inl (c 0, 6, .inl f10)), (h3, .inl (c 0, 6, .inl f12))] sz) := by
  refine start2 (by decide +kernel) (Nat.le_of_ble_eq_true rfl) ?_
  intro p e s m below meth cd A ls Q hx hb hr hml hts hown hlocks hin hA hS hK hP hD hN hl hQ
  have hown : s.vm.findClass RX7 = some m.cls := hown
  have hl : lv_has ls 3 [(0, .ref h0)] := hl
  have hP : va_P D vwCl [(h0, .inr (6, [.ref h4, .ref h5, .int v1, .int v2, .ref h2, .int v3, .ref h6, .ref h1, .int v4, .int v5, .int v6, .int v7])), (h1, .inr (1, [.int v9, u71, .ref h3, u72, u73, u74, u75, u76])), (h2, .inl (c 0, 6, .inl f10)), (h3, .inl (c 0, 6, .inl f12))] s.heap := hP
  refine lv_iconst (v := 0) hx hb dX7_aims_0 (by decide) ?_
  refine lv_istore_n (lv' := [(1, .int 0), (0, .ref h0)]) hx hb dX7_aims_1 rfl hl (by decide) rfl (fun ls hl => ?_)
  refine lv_iconst (v := 0) hx hb dX7_aims_2 (by decide) ?_
  refine lv_istore_n (lv' := [(2, .int 0), (1, .int 0), (0, .ref h0)]) hx hb dX7_aims_3 rfl hl (by decide) rfl (fun ls hl => ?_)
  have lp1 : ∀ (n1 : Nat), ∀ (x1052 : Int32) (hx1052 : 0 ≤ x1052.toInt ∧ x1052.toInt ≤ 6) (x1053 : Int32) (hm1 : (6 : Int) - x1052.toInt < (n1 : Int)) (H : Heap) (locs : List Loc) (hP : va_P D vwCl [(h0, .inr (6, [.ref h4, .ref h5, .int v1, .int v2, .ref h2, .int v3, .ref h6, .ref h1, .int v4, .int v5, .int v6, .int v7])), (h1, .inr (1, [.int v9, u71, .ref h3, u72, u73, u74, u75, u76])), (h2, .inl (c 0, 6, .inl f10)), (h3, .inl (c 0, 6, .inl f12))] H) (hD : va_D A [(h0, .inr (6, [.ref h4, .ref h5, .int v1, .int v2, .ref h2, .int v3, .ref h6, .ref h1, .int v4, .int v5, .int v6, .int v7])), (h1, .inr (1, [.int v9, u71, .ref h3, u72, u73, u74, u75, u76])), (h2, .inl (c 0, 6, .inl f10)), (h3, .inl (c 0, 6, .inl f12))]) (hS : va_S A s.heap H locs) (ls : Array Slot) (hl : lv_has ls 3 [(2, .int x1052), (1, .int x1053), (0, .ref h0)]), W p l e ({ frames := 1, cells := 0, slots := 0, locals := 21 } : Room) s m [.ref h0].toArray below meth cd H locs 0 0 Q (F0 m 4 ls []) := by
    intro n1
    induction n1 with
    | zero =>
      intro x1052 hx1052 x1053 hm1 H locs hP hD hS ls hl
      exact absurd hm1 (by omega)
    | succ n1 ih1 =>
      intro x1052 hx1052 x1053 hm1 H locs hP hD hS ls hl
      refine lv_iload_n hx hb dX7_aims_4 rfl (lv_at hl 0 rfl) ?_
      refine lv_aload_n hx hb dX7_aims_5 rfl (lv_at hl 2 rfl) ?_
      refine va_get (D := D) (ci := 6) (v := .int v3) (C := RX7) (T := TX7) (N := 12) hx hb hts i_X7 hown hK hP 0 rfl rfl 5 (by decide) (hts _ kw_405) (fun _ h9 => h9) rfl dX7_aims_6 ?_
      refine B_icmp_ge (tgt := 41) (X := x1052.toInt) (Y := v3.toInt) hx hb dX7_aims_9 (by decide) rfl rfl (fun hc1061 => ?_) (fun hc1061 => ?_)
      · refine lv_iload_n hx hb dX7_aims_41 rfl (lv_at hl 1 rfl) ?_
        exact rI hQ hx hb hr hlocks rfl hS (Nat.le_of_ble_eq_true rfl) (Nat.le_of_ble_eq_true rfl) dX7_aims_42 (fun t ht => ⟨by rw [ht]; exact hP, hD⟩)
      · refine lv_iload_n hx hb dX7_aims_12 rfl (lv_at hl 1 rfl) ?_
        refine lv_aload_n hx hb dX7_aims_13 rfl (lv_at hl 2 rfl) ?_
        refine va_get (D := D) (ci := 6) (v := .ref h1) (C := RX7) (T := TX7) (N := 12) hx hb hts i_X7 hown hK hP 0 rfl rfl 7 (by decide) (hts _ kw_407) (fun _ h9 => h9) rfl dX7_aims_14 ?_
        refine va_get (D := D) (ci := 1) (v := .ref h3) (C := RX1) (T := TX1) (N := 8) hx hb hts i_X1 hown hK hP 1 rfl rfl 2 (by decide) (hts _ kw_287) (fun _ h9 => h9) rfl dX7_aims_17 ?_
        refine lv_aload_n hx hb dX7_aims_20 rfl (lv_at hl 2 rfl) ?_
        refine va_get (D := D) (ci := 6) (v := .ref h2) (C := RX7) (T := TX7) (N := 12) hx hb hts i_X7 hown hK hP 0 rfl rfl 4 (by decide) (hts _ kw_404) (fun _ h9 => h9) rfl dX7_aims_21 ?_
        refine lv_iload_n hx hb dX7_aims_24 rfl (lv_at hl 0 rfl) ?_
        refine va_iald hx hb hK hP 2 0 rfl rfl (in_of (by omega) (by omega)) dX7_aims_25 ?_
        refine rd gf10 (fun z1062 ez1062 hz1062 => ?_)
        refine va_iald hx hb hK hP 3 0 rfl rfl (in_of (by omega) (by omega)) dX7_aims_26 ?_
        refine rd gf12 (fun z1063 ez1063 hz1063 => ?_)
        refine lv_aload_n hx hb dX7_aims_27 rfl (lv_at hl 2 rfl) ?_
        refine lv_iload_n hx hb dX7_aims_28 rfl (lv_at hl 0 rfl) ?_
        refine fI (run_V (n := 1) (ci := 6) ⟨hx, hb, hml, hown, hts⟩ (m_X7_shift l D c h0 H.size (.ref h4) (.ref h5) v1 v2 (.ref h2) v3 (.ref h6) (.ref h1) v4 v5 v6 v7 x1052 gv1 gv2 gv3 gv4 gv6 gv7 hx1052) (hP.sub [0] rfl) (hD.sub [0] (by decide) rfl) hK hN rfl rfl kw_833 kw_835 kw_10 kw_120 kw_836 ⟨rfl, by decide +kernel⟩ ⟨(Nat.le_of_ble_eq_true rfl), (Nat.le_of_ble_eq_true rfl)⟩ rfl rfl rfl hl.1 rfl (Nat.le_of_ble_eq_true rfl) dX7_aims_29 ⟨(Nat.le_of_ble_eq_true rfl), (Nat.le_of_ble_eq_true rfl)⟩) hP hD hS hA [0] rfl (fun z1064 H locs t hB hj hS => ?_)
        obtain ⟨hq1065, hq1066, hP1, hD1⟩ := hB
        obtain ⟨hP, hD⟩ := hj (wr := [(h1, .inr (1, [.int v9, u71, .ref h3, u72, u73, u74, u75, u76])), (h2, .inl (c 0, 6, .inl f10)), (h3, .inl (c 0, 6, .inl f12))]) (w1 := [(h0, .inr (6, [.ref h4, .ref h5, .int v1, .int v2, .ref h2, .int v3, .ref h6, .ref h1, .int v4, .int v5, .int v6, .int v7]))]) [1, 2, 3] rfl (by decide) (by decide) hP1 hD1
        have hP : va_P D vwCl [(h1, .inr (1, [.int v9, u71, .ref h3, u72, u73, u74, u75, u76])), (h2, .inl (c 0, 6, .inl f10)), (h3, .inl (c 0, 6, .inl f12)), (h0, .inr (6, [.ref h4, .ref h5, .int v1, .int v2, .ref h2, .int v3, .ref h6, .ref h1, .int v4, .int v5, .int v6, .int v7]))] H := hP
        have hD : va_D A [(h1, .inr (1, [.int v9, u71, .ref h3, u72, u73, u74, u75, u76])), (h2, .inl (c 0, 6, .inl f10)), (h3, .inl (c 0, 6, .inl f12)), (h0, .inr (6, [.ref h4, .ref h5, .int v1, .int v2, .ref h2, .int v3, .ref h6, .ref h1, .int v4, .int v5, .int v6, .int v7]))] := hD
        refine lv_ishl hx hb dX7_aims_32 ?_
        refine o_any (fun z1067 ez1067 => ?_)
        refine lv_ior hx hb dX7_aims_33 ?_
        refine o_any (fun z1068 ez1068 => ?_)
        refine lv_istore_n (lv' := [(1, .int z1068), (2, .int x1052), (0, .ref h0)]) hx hb dX7_aims_34 rfl hl (by decide) rfl (fun ls hl => ?_)
        obtain ⟨z1069, ez1069, hz1069⟩ : ∃ y : Int32, y = x1052 + Int32.ofInt 1 ∧ y.toInt = x1052.toInt + 1 := ⟨_, rfl, ad_int (A := x1052.toInt) (B := 1) rfl (by decide) (by omega) (by omega)⟩
        refine lv_iinc (v := z1069) (lv' := [(2, .int z1069), (1, .int z1068), (0, .ref h0)]) hx hb dX7_aims_35 hl (k := 1) rfl ez1069.symm (by decide) rfl (fun ls hl => ?_)
        refine lv_goto (tgt := 4) hx hb dX7_aims_38 (by decide) ?_
        exact ih1 z1069 ⟨by omega, by omega⟩ z1068 (by omega) H locs (hP.sub [3, 0, 1, 2] rfl) (hD.sub [3, 0, 1, 2] (by decide) rfl) hS ls (lv_sub hl [0, 1, 2] rfl)
  have hk0 : (0 : Int32).toInt = 0 := by decide
  exact lp1 (((6 : Int) - 0).toNat + 1) 0 (by decide) 0 (by omega) s.heap [] hP hD hS ls (lv_sub hl [0, 1, 2] rfl)
set_option maxHeartbeats 4000000 in
set_option maxRecDepth 100000 in
theorem m_X7_begin (l : Launch) (D : va_G) (c : Nat → ClassId) (h0 h1 h2 h3 h4 h5 h6 h7 h8 h9 h10 h11 h12 : Nat) (sz : Nat) (v1 : Int32) (v2 : Int32) (v3 : Int32) (v4 : Int32) (v5 : Int32) (v6 : Int32) (v7 : Int32) (v8 : Int32) (v9 : Int32) (u127 : Value) (u128 : Value) (u129 : Value) (u130 : Value) (u131 : Value) (u132 : Value) (u133 : Value) (v10 : Int32) (f11 : Nat → Int32) (f18 : Nat → Int32) (f20 : Nat → Int32) (a1 : Int32) (gv1 : 0 ≤ v1.toInt ∧ v1.toInt ≤ 1048576) (gv2 : 0 ≤ v2.toInt ∧ v2.toInt ≤ 1048576) (gv3 : 0 ≤ v3.toInt ∧ v3.toInt ≤ 6) (gv4 : 0 ≤ v4.toInt ∧ v4.toInt ≤ 14) (gv6 : 0 ≤ v6.toInt ∧ v6.toInt ≤ 1048575) (gv7 : 0 ≤ v7.toInt ∧ v7.toInt ≤ 255) (gv8 : 0 ≤ v8.toInt ∧ v8.toInt ≤ 14) (gv9 : 0 ≤ v9.toInt ∧ v9.toInt ≤ 16383) (gv10 : 0 ≤ v10.toInt ∧ v10.toInt ≤ 6) (gf11 : Rg f11 (-1) 13) (gf18 : Rg f18 0 5) (gf20 : Rg f20 0 8) (ga1 : 0 ≤ a1.toInt ∧ a1.toInt ≤ 63) (ge0 : v8.toInt + 3 * ((PC a1.toInt.toNat : Nat) : Int) ≤ 20) (ge1 : DrOK v8 v9) : Met l yX7_begin (Cond.code yX7_begin cX7_begin 3 none :: TB) ({ frames := 1, cells := 0, slots := 0, locals := 22 } : Room) (va_Pc [.ref h0, .int a1] (PW D c [(h0, .inr (6, [.ref h11, .ref h12, .int v1, .int v2, .ref h4, .int v3, .ref h1, .ref h2, .int v4, .int v5, .int v6, .int v7])), (h1, .inr (3, [.int v8, .int v9, u127, u128, u129, u130, u131, u132, u133])), (h2, .inr (1, [.int v10, .ref h5, .ref h6, .ref h9, .ref h3, .ref h10, .ref h7, .ref h8])), (h3, .inl (c 0, 6, .inl f11)), (h4, .inl (c 0, 6, .inl f18)), (h5, .inl (c 0, 6, .inl f20))] sz)) ((QV (fun A t => ∃ (z900 : Int32) (z901 : Int32) (z902 : Int32) (f903 : Nat → Int32), (0 ≤ z900.toInt ∧ z900.toInt ≤ 6) ∧ (0 ≤ z902.toInt ∧ z902.toInt ≤ 1048575) ∧ (Rg f903 0 5) ∧ (z900.toInt ≤ ((PC a1.toInt.toNat : Nat) : Int)) ∧ (SB z902 v8 z900) ∧ (z900.toInt = ((NBt a1.toInt.toNat v10.toInt.toNat : Nat) : Int)) ∧ va_P D vwCl [(h0, .inr (6, [.ref h11, .ref h12, .int v1, .int v2, .ref h4, .int z900, .ref h1, .ref h2, .int v8, .int z901, .int z902, .int 0])), (h1, .inr (3, [.int v8, .int v9, u127, u128, u129, u130, u131, u132, u133])), (h2, .inr (1, [.int v10, .ref h5, .ref h6, .ref h9, .ref h3, .ref h10, .ref h7, .ref h8])), (h3, .inl (c 0, 6, .inl f11)), (h4, .inl (c 0, 6, .inl f903)), (h5, .inl (c 0, 6, .inl f20))] t.heap ∧ va_D A [(h0, .inr (6, [.ref h11, .ref h12, .int v1, .int v2, .ref h4, .int z900, .ref h1, .ref h2, .int v8, .int z901, .int z902, .int 0])), (h1, .inr (3, [.int v8, .int v9, u127, u128, u129, u130, u131, u132, u133])), (h2, .inr (1, [.int v10, .ref h5, .ref h6, .ref h9, .ref h3, .ref h10, .ref h7, .ref h8])), (h3, .inl (c 0, 6, .inl f11)), (h4, .inl (c 0, 6, .inl f903)), (h5, .inl (c 0, 6, .inl f20))])) (va_A [(h0, .inr (6, [.ref h11, .ref h12, .int v1, .int v2, .ref h4, .int v3, .ref h1, .ref h2, .int v4, .int v5, .int v6, .int v7])), (h1, .inr (3, [.int v8, .int v9, u127, u128, u129, u130, u131, u132, u133])), (h2, .inr (1, [.int v10, .ref h5, .ref h6, .ref h9, .ref h3, .ref h10, .ref h7, .ref h8])), (h3, .inl (c 0, 6, .inl f11)), (h4, .inl (c 0, 6, .inl f18)), (h5, .inl (c 0, 6, .inl f20))] sz)) 0 0 (va_A [(h0, .inr (6, [.ref h11, .ref h12, .int v1, .int v2, .ref h4, .int v3, .ref h1, .ref h2, .int v4, .int v5, .int v6, .int v7])), (h1, .inr (3, [.int v8, .int v9, u127, u128, u129, u130, u131, u132, u133])), (h2, .inr (1, [.int v10, .ref h5, .ref h6, .ref h9, .ref h3, .ref h10, .ref h7, .ref h8])), (h3, .inl (c 0, 6, .inl f11)), (h4, .inl (c 0, 6, .inl f18)), (h5, .inl (c 0, 6, .inl f20))] sz) := by
  refine start2 (by decide +kernel) (Nat.le_of_ble_eq_true rfl) ?_
  intro p e s m below meth cd A ls Q hx hb hr hml hts hown hlocks hin hA hS hK hP hD hN hl hQ
  have hown : s.vm.findClass RX7 = some m.cls := hown
  have hl : lv_has ls 3 [(0, .ref h0), (1, .int a1)] := hl
  have hP : va_P D vwCl [(h0, .inr (6, [.ref h11, .ref h12, .int v1, .int v2, .ref h4, .int v3, .ref h1, .ref h2, .int v4, .int v5, .int v6, .int v7])), (h1, .inr (3, [.int v8, .int v9, u127, u128, u129, u130, u131, u132, u133])), (h2, .inr (1, [.int v10, .ref h5, .ref h6, .ref h9, .ref h3, .ref h10, .ref h7, .ref h8])), (h3, .inl (c 0, 6, .inl f11)), (h4, .inl (c 0, 6, .inl f18)), (h5, .inl (c 0, 6, .inl f20))] s.heap := hP
  refine lv_aload_n hx hb dX7_begin_0 rfl (lv_at hl 0 rfl) ?_
  refine lv_aload_n hx hb dX7_begin_1 rfl (lv_at hl 0 rfl) ?_
  refine va_get (D := D) (ci := 6) (v := .ref h1) (C := RX7) (T := TX7) (N := 12) hx hb hts i_X7 hown hK hP 0 rfl rfl 6 (by decide) (hts _ kw_406) (fun _ h9 => h9) rfl dX7_begin_2 ?_
  refine va_get (D := D) (ci := 3) (v := .int v8) (C := RX4) (T := TX4) (N := 9) hx hb hts i_X4 hown hK hP 1 rfl rfl 0 (by decide) (hts _ kw_213) (fun _ h9 => h9) rfl dX7_begin_5 ?_
  refine va_put (D := D) (ci := 6) (v := .int v8) (ty := .int) (C := RX7) (T := TX7) (N := 12) hx hb hts i_X7 tyX7 tyX7_ok nmX7 hown hK hP hD hS 0 rfl rfl 8 (by decide) (hts _ kw_408) (fun _ h9 => h9) rfl (tyX7_ok 8 (by decide)) rfl rfl (Nat.le_of_ble_eq_true rfl) dX7_begin_8 (fun H locs hP hD hS => ?_)
  have hP : va_P D vwCl [(h0, .inr (6, [.ref h11, .ref h12, .int v1, .int v2, .ref h4, .int v3, .ref h1, .ref h2, .int v8, .int v5, .int v6, .int v7])), (h1, .inr (3, [.int v8, .int v9, u127, u128, u129, u130, u131, u132, u133])), (h2, .inr (1, [.int v10, .ref h5, .ref h6, .ref h9, .ref h3, .ref h10, .ref h7, .ref h8])), (h3, .inl (c 0, 6, .inl f11)), (h4, .inl (c 0, 6, .inl f18)), (h5, .inl (c 0, 6, .inl f20))] H := hP
  have hD : va_D A [(h0, .inr (6, [.ref h11, .ref h12, .int v1, .int v2, .ref h4, .int v3, .ref h1, .ref h2, .int v8, .int v5, .int v6, .int v7])), (h1, .inr (3, [.int v8, .int v9, u127, u128, u129, u130, u131, u132, u133])), (h2, .inr (1, [.int v10, .ref h5, .ref h6, .ref h9, .ref h3, .ref h10, .ref h7, .ref h8])), (h3, .inl (c 0, 6, .inl f11)), (h4, .inl (c 0, 6, .inl f18)), (h5, .inl (c 0, 6, .inl f20))] := hD
  refine lv_aload_n hx hb dX7_begin_11 rfl (lv_at hl 0 rfl) ?_
  refine lv_aload_n hx hb dX7_begin_12 rfl (lv_at hl 0 rfl) ?_
  refine va_get (D := D) (ci := 6) (v := .ref h2) (C := RX7) (T := TX7) (N := 12) hx hb hts i_X7 hown hK hP 0 rfl rfl 7 (by decide) (hts _ kw_407) (fun _ h9 => h9) rfl dX7_begin_13 ?_
  refine fI (run_V (n := 0) (ci := 1) ⟨hx, hb, hml, hown, hts⟩ (m_X1_busyWays l D c h2 h3 H.size v10 (.ref h5) (.ref h6) (.ref h9) (.ref h10) (.ref h7) (.ref h8) f11 gv10 gf11) (hP.sub [2, 3] rfl) (hD.sub [2, 3] (by decide) rfl) hK hN rfl rfl kw_832 kw_813 kw_814 kw_118 kw_815 ⟨rfl, by decide +kernel⟩ ⟨(Nat.le_of_ble_eq_true rfl), (Nat.le_of_ble_eq_true rfl)⟩ rfl rfl rfl hl.1 rfl (Nat.le_of_ble_eq_true rfl) dX7_begin_16 ⟨(Nat.le_of_ble_eq_true rfl), (Nat.le_of_ble_eq_true rfl)⟩) hP hD hS hA [2, 3] rfl (fun z1001 H locs t hB hj hS => ?_)
  obtain ⟨hP1, hD1⟩ := hB
  obtain ⟨hP, hD⟩ := hj (wr := [(h0, .inr (6, [.ref h11, .ref h12, .int v1, .int v2, .ref h4, .int v3, .ref h1, .ref h2, .int v8, .int v5, .int v6, .int v7])), (h1, .inr (3, [.int v8, .int v9, u127, u128, u129, u130, u131, u132, u133])), (h4, .inl (c 0, 6, .inl f18)), (h5, .inl (c 0, 6, .inl f20))]) (w1 := [(h2, .inr (1, [.int v10, .ref h5, .ref h6, .ref h9, .ref h3, .ref h10, .ref h7, .ref h8])), (h3, .inl (c 0, 6, .inl f11))]) [0, 1, 4, 5] rfl (by decide) (by decide) hP1 hD1
  have hP : va_P D vwCl [(h0, .inr (6, [.ref h11, .ref h12, .int v1, .int v2, .ref h4, .int v3, .ref h1, .ref h2, .int v8, .int v5, .int v6, .int v7])), (h1, .inr (3, [.int v8, .int v9, u127, u128, u129, u130, u131, u132, u133])), (h4, .inl (c 0, 6, .inl f18)), (h5, .inl (c 0, 6, .inl f20)), (h2, .inr (1, [.int v10, .ref h5, .ref h6, .ref h9, .ref h3, .ref h10, .ref h7, .ref h8])), (h3, .inl (c 0, 6, .inl f11))] H := hP
  have hD : va_D A [(h0, .inr (6, [.ref h11, .ref h12, .int v1, .int v2, .ref h4, .int v3, .ref h1, .ref h2, .int v8, .int v5, .int v6, .int v7])), (h1, .inr (3, [.int v8, .int v9, u127, u128, u129, u130, u131, u132, u133])), (h4, .inl (c 0, 6, .inl f18)), (h5, .inl (c 0, 6, .inl f20)), (h2, .inr (1, [.int v10, .ref h5, .ref h6, .ref h9, .ref h3, .ref h10, .ref h7, .ref h8])), (h3, .inl (c 0, 6, .inl f11))] := hD
  refine lv_iconst (v := (-1)) hx hb dX7_begin_19 (by decide) ?_
  refine lv_ixor hx hb dX7_begin_20 ?_
  refine o_any (fun z1002 ez1002 => ?_)
  refine va_put (D := D) (ci := 6) (v := .int z1002) (ty := .int) (C := RX7) (T := TX7) (N := 12) hx hb hts i_X7 tyX7 tyX7_ok nmX7 hown hK hP hD hS 0 rfl rfl 9 (by decide) (hts _ kw_409) (fun _ h9 => h9) rfl (tyX7_ok 9 (by decide)) rfl rfl (Nat.le_of_ble_eq_true rfl) dX7_begin_21 (fun H locs hP hD hS => ?_)
  have hP : va_P D vwCl [(h0, .inr (6, [.ref h11, .ref h12, .int v1, .int v2, .ref h4, .int v3, .ref h1, .ref h2, .int v8, .int z1002, .int v6, .int v7])), (h1, .inr (3, [.int v8, .int v9, u127, u128, u129, u130, u131, u132, u133])), (h4, .inl (c 0, 6, .inl f18)), (h5, .inl (c 0, 6, .inl f20)), (h2, .inr (1, [.int v10, .ref h5, .ref h6, .ref h9, .ref h3, .ref h10, .ref h7, .ref h8])), (h3, .inl (c 0, 6, .inl f11))] H := hP
  have hD : va_D A [(h0, .inr (6, [.ref h11, .ref h12, .int v1, .int v2, .ref h4, .int v3, .ref h1, .ref h2, .int v8, .int z1002, .int v6, .int v7])), (h1, .inr (3, [.int v8, .int v9, u127, u128, u129, u130, u131, u132, u133])), (h4, .inl (c 0, 6, .inl f18)), (h5, .inl (c 0, 6, .inl f20)), (h2, .inr (1, [.int v10, .ref h5, .ref h6, .ref h9, .ref h3, .ref h10, .ref h7, .ref h8])), (h3, .inl (c 0, 6, .inl f11))] := hD
  refine lv_aload_n hx hb dX7_begin_24 rfl (lv_at hl 0 rfl) ?_
  refine lv_iconst (v := 0) hx hb dX7_begin_25 (by decide) ?_
  refine va_put (D := D) (ci := 6) (v := .int 0) (ty := .int) (C := RX7) (T := TX7) (N := 12) hx hb hts i_X7 tyX7 tyX7_ok nmX7 hown hK hP hD hS 0 rfl rfl 11 (by decide) (hts _ kw_411) (fun _ h9 => h9) rfl (tyX7_ok 11 (by decide)) rfl rfl (Nat.le_of_ble_eq_true rfl) dX7_begin_26 (fun H locs hP hD hS => ?_)
  have hP : va_P D vwCl [(h0, .inr (6, [.ref h11, .ref h12, .int v1, .int v2, .ref h4, .int v3, .ref h1, .ref h2, .int v8, .int z1002, .int v6, .int 0])), (h1, .inr (3, [.int v8, .int v9, u127, u128, u129, u130, u131, u132, u133])), (h4, .inl (c 0, 6, .inl f18)), (h5, .inl (c 0, 6, .inl f20)), (h2, .inr (1, [.int v10, .ref h5, .ref h6, .ref h9, .ref h3, .ref h10, .ref h7, .ref h8])), (h3, .inl (c 0, 6, .inl f11))] H := hP
  have hD : va_D A [(h0, .inr (6, [.ref h11, .ref h12, .int v1, .int v2, .ref h4, .int v3, .ref h1, .ref h2, .int v8, .int z1002, .int v6, .int 0])), (h1, .inr (3, [.int v8, .int v9, u127, u128, u129, u130, u131, u132, u133])), (h4, .inl (c 0, 6, .inl f18)), (h5, .inl (c 0, 6, .inl f20)), (h2, .inr (1, [.int v10, .ref h5, .ref h6, .ref h9, .ref h3, .ref h10, .ref h7, .ref h8])), (h3, .inl (c 0, 6, .inl f11))] := hD
  refine lv_aload_n hx hb dX7_begin_29 rfl (lv_at hl 0 rfl) ?_
  refine lv_iconst (v := 0) hx hb dX7_begin_30 (by decide) ?_
  refine va_put (D := D) (ci := 6) (v := .int 0) (ty := .int) (C := RX7) (T := TX7) (N := 12) hx hb hts i_X7 tyX7 tyX7_ok nmX7 hown hK hP hD hS 0 rfl rfl 5 (by decide) (hts _ kw_405) (fun _ h9 => h9) rfl (tyX7_ok 5 (by decide)) rfl rfl (Nat.le_of_ble_eq_true rfl) dX7_begin_31 (fun H locs hP hD hS => ?_)
  have hP : va_P D vwCl [(h0, .inr (6, [.ref h11, .ref h12, .int v1, .int v2, .ref h4, .int 0, .ref h1, .ref h2, .int v8, .int z1002, .int v6, .int 0])), (h1, .inr (3, [.int v8, .int v9, u127, u128, u129, u130, u131, u132, u133])), (h4, .inl (c 0, 6, .inl f18)), (h5, .inl (c 0, 6, .inl f20)), (h2, .inr (1, [.int v10, .ref h5, .ref h6, .ref h9, .ref h3, .ref h10, .ref h7, .ref h8])), (h3, .inl (c 0, 6, .inl f11))] H := hP
  have hD : va_D A [(h0, .inr (6, [.ref h11, .ref h12, .int v1, .int v2, .ref h4, .int 0, .ref h1, .ref h2, .int v8, .int z1002, .int v6, .int 0])), (h1, .inr (3, [.int v8, .int v9, u127, u128, u129, u130, u131, u132, u133])), (h4, .inl (c 0, 6, .inl f18)), (h5, .inl (c 0, 6, .inl f20)), (h2, .inr (1, [.int v10, .ref h5, .ref h6, .ref h9, .ref h3, .ref h10, .ref h7, .ref h8])), (h3, .inl (c 0, 6, .inl f11))] := hD
  refine lv_aload_n hx hb dX7_begin_34 rfl (lv_at hl 0 rfl) ?_
  refine lv_aload_n hx hb dX7_begin_35 rfl (lv_at hl 0 rfl) ?_
  refine va_get (D := D) (ci := 6) (v := .ref h1) (C := RX7) (T := TX7) (N := 12) hx hb hts i_X7 hown hK hP 0 rfl rfl 6 (by decide) (hts _ kw_406) (fun _ h9 => h9) rfl dX7_begin_36 ?_
  refine va_get (D := D) (ci := 3) (v := .int v9) (C := RX4) (T := TX4) (N := 9) hx hb hts i_X4 hown hK hP 1 rfl rfl 1 (by decide) (hts _ kw_220) (fun _ h9 => h9) rfl dX7_begin_39 ?_
  refine va_put (D := D) (ci := 6) (v := .int v9) (ty := .int) (C := RX7) (T := TX7) (N := 12) hx hb hts i_X7 tyX7 tyX7_ok nmX7 hown hK hP hD hS 0 rfl rfl 10 (by decide) (hts _ kw_410) (fun _ h9 => h9) rfl (tyX7_ok 10 (by decide)) rfl rfl (Nat.le_of_ble_eq_true rfl) dX7_begin_42 (fun H locs hP hD hS => ?_)
  have hP : va_P D vwCl [(h0, .inr (6, [.ref h11, .ref h12, .int v1, .int v2, .ref h4, .int 0, .ref h1, .ref h2, .int v8, .int z1002, .int v9, .int 0])), (h1, .inr (3, [.int v8, .int v9, u127, u128, u129, u130, u131, u132, u133])), (h4, .inl (c 0, 6, .inl f18)), (h5, .inl (c 0, 6, .inl f20)), (h2, .inr (1, [.int v10, .ref h5, .ref h6, .ref h9, .ref h3, .ref h10, .ref h7, .ref h8])), (h3, .inl (c 0, 6, .inl f11))] H := hP
  have hD : va_D A [(h0, .inr (6, [.ref h11, .ref h12, .int v1, .int v2, .ref h4, .int 0, .ref h1, .ref h2, .int v8, .int z1002, .int v9, .int 0])), (h1, .inr (3, [.int v8, .int v9, u127, u128, u129, u130, u131, u132, u133])), (h4, .inl (c 0, 6, .inl f18)), (h5, .inl (c 0, 6, .inl f20)), (h2, .inr (1, [.int v10, .ref h5, .ref h6, .ref h9, .ref h3, .ref h10, .ref h7, .ref h8])), (h3, .inl (c 0, 6, .inl f11))] := hD
  refine lv_iconst (v := 0) hx hb dX7_begin_45 (by decide) ?_
  refine lv_istore_n (lv' := [(2, .int 0), (0, .ref h0), (1, .int a1)]) hx hb dX7_begin_46 rfl hl (by decide) rfl (fun ls hl => ?_)
  have lp1 : ∀ (n1 : Nat), ∀ (x1081 : Int32) (hx1081 : 0 ≤ x1081.toInt ∧ x1081.toInt ≤ 6) (x1082 : Int32) (hx1082 : 0 ≤ x1082.toInt ∧ x1082.toInt ≤ 6) (x1083 : Int32) (hx1083 : 0 ≤ x1083.toInt ∧ x1083.toInt ≤ 1048575) (f1084 : Nat → Int32) (hf1084 : Rg f1084 0 5) (hi1098 : x1082.toInt = ((NBt a1.toInt.toNat x1081.toInt.toNat : Nat) : Int)) (hi1099 : SB x1083 v8 x1082) (hi1100 : x1081.toInt ≤ v10.toInt) (hm1 : (6 : Int) - x1081.toInt < (n1 : Int)) (H : Heap) (locs : List Loc) (hP : va_P D vwCl [(h0, .inr (6, [.ref h11, .ref h12, .int v1, .int v2, .ref h4, .int x1082, .ref h1, .ref h2, .int v8, .int z1002, .int x1083, .int 0])), (h1, .inr (3, [.int v8, .int v9, u127, u128, u129, u130, u131, u132, u133])), (h4, .inl (c 0, 6, .inl f1084)), (h5, .inl (c 0, 6, .inl f20)), (h2, .inr (1, [.int v10, .ref h5, .ref h6, .ref h9, .ref h3, .ref h10, .ref h7, .ref h8])), (h3, .inl (c 0, 6, .inl f11))] H) (hD : va_D A [(h0, .inr (6, [.ref h11, .ref h12, .int v1, .int v2, .ref h4, .int x1082, .ref h1, .ref h2, .int v8, .int z1002, .int x1083, .int 0])), (h1, .inr (3, [.int v8, .int v9, u127, u128, u129, u130, u131, u132, u133])), (h4, .inl (c 0, 6, .inl f1084)), (h5, .inl (c 0, 6, .inl f20)), (h2, .inr (1, [.int v10, .ref h5, .ref h6, .ref h9, .ref h3, .ref h10, .ref h7, .ref h8])), (h3, .inl (c 0, 6, .inl f11))]) (hS : va_S A s.heap H locs) (ls : Array Slot) (hl : lv_has ls 3 [(2, .int x1081), (0, .ref h0), (1, .int a1)]), W p l e ({ frames := 1, cells := 0, slots := 0, locals := 22 } : Room) s m [.ref h0, .int a1].toArray below meth cd H locs 0 0 Q (F0 m 47 ls []) := by
    intro n1
    induction n1 with
    | zero =>
      intro x1081 hx1081 x1082 hx1082 x1083 hx1083 f1084 hf1084 hi1098 hi1099 hi1100 hm1 H locs hP hD hS ls hl
      exact absurd hm1 (by omega)
    | succ n1 ih1 =>
      intro x1081 hx1081 x1082 hx1082 x1083 hx1083 f1084 hf1084 hi1098 hi1099 hi1100 hm1 H locs hP hD hS ls hl
      refine lv_iload_n hx hb dX7_begin_47 rfl (lv_at hl 0 rfl) ?_
      refine lv_aload_n hx hb dX7_begin_48 rfl (lv_at hl 1 rfl) ?_
      refine va_get (D := D) (ci := 6) (v := .ref h2) (C := RX7) (T := TX7) (N := 12) hx hb hts i_X7 hown hK hP 0 rfl rfl 7 (by decide) (hts _ kw_407) (fun _ h9 => h9) rfl dX7_begin_49 ?_
      refine va_get (D := D) (ci := 1) (v := .int v10) (C := RX1) (T := TX1) (N := 8) hx hb hts i_X1 hown hK hP 4 rfl rfl 0 (by decide) (hts _ kw_275) (fun _ h9 => h9) rfl dX7_begin_52 ?_
      refine B_icmp_ge (tgt := 122) (X := x1081.toInt) (Y := v10.toInt) hx hb dX7_begin_55 (by decide) rfl rfl (fun hc1101 => ?_) (fun hc1101 => ?_)
      · have nbf := NBt_fin a1.toInt.toNat (by omega) x1081.toInt.toNat (by omega)
        have heq : x1081.toInt.toNat = v10.toInt.toNat := by omega
        have hv1102 : x1082.toInt = ((NBt a1.toInt.toNat v10.toInt.toNat : Nat) : Int) := by rw [← heq]; omega
        have hP := hP.sub (ws' := [(h0, .inr (6, [.ref h11, .ref h12, .int v1, .int v2, .ref h4, .int x1082, .ref h1, .ref h2, .int v8, .int z1002, .int x1083, .int 0])), (h1, .inr (3, [.int v8, .int v9, u127, u128, u129, u130, u131, u132, u133])), (h2, .inr (1, [.int v10, .ref h5, .ref h6, .ref h9, .ref h3, .ref h10, .ref h7, .ref h8])), (h3, .inl (c 0, 6, .inl f11)), (h4, .inl (c 0, 6, .inl f1084)), (h5, .inl (c 0, 6, .inl f20))]) [0, 1, 4, 5, 2, 3] rfl
        have hD := hD.sub (ws' := [(h0, .inr (6, [.ref h11, .ref h12, .int v1, .int v2, .ref h4, .int x1082, .ref h1, .ref h2, .int v8, .int z1002, .int x1083, .int 0])), (h1, .inr (3, [.int v8, .int v9, u127, u128, u129, u130, u131, u132, u133])), (h2, .inr (1, [.int v10, .ref h5, .ref h6, .ref h9, .ref h3, .ref h10, .ref h7, .ref h8])), (h3, .inl (c 0, 6, .inl f11)), (h4, .inl (c 0, 6, .inl f1084)), (h5, .inl (c 0, 6, .inl f20))]) [0, 1, 4, 5, 2, 3] (by decide) rfl
        exact rV hQ hx hb hr hlocks hS (Nat.le_of_ble_eq_true rfl) (Nat.le_of_ble_eq_true rfl) dX7_begin_122 (fun t ht => ⟨x1082, z1002, x1083, f1084, hx1082, hx1083, hf1084, (by omega), hi1099, hv1102, by rw [ht]; exact hP, hD⟩)
      · have nbl := NBt_le a1.toInt.toNat x1081.toInt.toNat
        have nbf := NBt_fin a1.toInt.toNat (by omega) x1081.toInt.toNat (by omega)
        refine lv_iload_n hx hb dX7_begin_58 rfl (lv_at hl 2 rfl) ?_
        refine lv_iload_n hx hb dX7_begin_59 rfl (lv_at hl 0 rfl) ?_
        refine lv_ishr hx hb dX7_begin_60 ?_
        refine q_shr (X := a1.toInt) rfl (by omega) (fun z1103 ez1103 hz1103 => ?_)
        refine lv_iconst (v := 1) hx hb dX7_begin_61 (by decide) ?_
        refine lv_iand hx hb dX7_begin_62 ?_
        refine q_mask (X := z1103.toInt) (M := 2) 1 rfl (by decide) (by decide) (by decide) (fun z1104 ez1104 hz1104 => ?_)
        refine B_if_eq (tgt := 116) (X := z1104.toInt) hx hb dX7_begin_63 (by decide) rfl (fun hc1105 => ?_) (fun hc1105 => ?_)
        · obtain ⟨z1106, ez1106, hz1106⟩ : ∃ y : Int32, y = x1081 + Int32.ofInt 1 ∧ y.toInt = x1081.toInt + 1 := ⟨_, rfl, ad_int (A := x1081.toInt) (B := 1) rfl (by decide) (by omega) (by omega)⟩
          refine lv_iinc (v := z1106) (lv' := [(2, .int z1106), (0, .ref h0), (1, .int a1)]) hx hb dX7_begin_116 hl (k := 0) rfl ez1106.symm (by decide) rfl (fun ls hl => ?_)
          refine lv_goto (tgt := 47) hx hb dX7_begin_119 (by decide) ?_
          have hbt := bit_at (x := a1) (y := x1081) (z := z1103) (by omega) (by omega) (by omega) ez1103
          obtain ⟨B1107, hB1107⟩ : ∃ B : Nat, B = a1.toInt.toNat / 2 ^ x1081.toInt.toNat := ⟨_, rfl⟩
          rw [← hB1107] at hbt
          have nbs := NBt_s (x := a1) (g := x1081) (z := z1106) (by omega) (by omega)
          rw [← hB1107] at nbs
          exact ih1 z1106 ⟨by omega, by omega⟩ x1082 hx1082 x1083 hx1083 f1084 hf1084 (by omega) hi1099 (by omega) (by omega) H locs hP hD hS ls (lv_sub hl [0, 1, 2] rfl)
        · have hbt := bit_at (x := a1) (y := x1081) (z := z1103) (by omega) (by omega) (by omega) ez1103
          obtain ⟨B1108, hB1108⟩ : ∃ B : Nat, B = a1.toInt.toNat / 2 ^ x1081.toInt.toNat := ⟨_, rfl⟩
          rw [← hB1108] at hbt
          have nb1 := NBt_fin a1.toInt.toNat (by omega) (x1081.toInt.toNat + 1) (by omega)
          have nb2 : NBt a1.toInt.toNat (x1081.toInt.toNat + 1) = NBt a1.toInt.toNat x1081.toInt.toNat + a1.toInt.toNat / 2 ^ x1081.toInt.toNat % 2 := rfl
          rw [← hB1108] at nb2
          refine lv_aload_n hx hb dX7_begin_66 rfl (lv_at hl 1 rfl) ?_
          refine va_get (D := D) (ci := 6) (v := .ref h4) (C := RX7) (T := TX7) (N := 12) hx hb hts i_X7 hown hK hP 0 rfl rfl 4 (by decide) (hts _ kw_404) (fun _ h9 => h9) rfl dX7_begin_67 ?_
          refine lv_aload_n hx hb dX7_begin_70 rfl (lv_at hl 1 rfl) ?_
          refine va_get (D := D) (ci := 6) (v := .int x1082) (C := RX7) (T := TX7) (N := 12) hx hb hts i_X7 hown hK hP 0 rfl rfl 5 (by decide) (hts _ kw_405) (fun _ h9 => h9) rfl dX7_begin_71 ?_
          refine lv_iload_n hx hb dX7_begin_74 rfl (lv_at hl 0 rfl) ?_
          refine va_iast hx hb hK hP hD hS 2 0 rfl rfl (in_of (by omega) (by omega)) dX7_begin_75 (fun H locs hP hD hS => ?_)
          obtain ⟨f1109, ef1109, hf1109, hP, hD⟩ : ∃ y : Nat → Int32, y = upd f1084 (Int32.toNatClampNeg x1082) x1081 ∧ Rg y 0 5 ∧ va_P D vwCl [(h0, .inr (6, [.ref h11, .ref h12, .int v1, .int v2, .ref h4, .int x1082, .ref h1, .ref h2, .int v8, .int z1002, .int x1083, .int 0])), (h1, .inr (3, [.int v8, .int v9, u127, u128, u129, u130, u131, u132, u133])), (h4, .inl (c 0, 6, .inl y)), (h5, .inl (c 0, 6, .inl f20)), (h2, .inr (1, [.int v10, .ref h5, .ref h6, .ref h9, .ref h3, .ref h10, .ref h7, .ref h8])), (h3, .inl (c 0, 6, .inl f11))] H ∧ va_D A [(h0, .inr (6, [.ref h11, .ref h12, .int v1, .int v2, .ref h4, .int x1082, .ref h1, .ref h2, .int v8, .int z1002, .int x1083, .int 0])), (h1, .inr (3, [.int v8, .int v9, u127, u128, u129, u130, u131, u132, u133])), (h4, .inl (c 0, 6, .inl y)), (h5, .inl (c 0, 6, .inl f20)), (h2, .inr (1, [.int v10, .ref h5, .ref h6, .ref h9, .ref h3, .ref h10, .ref h7, .ref h8])), (h3, .inl (c 0, 6, .inl f11))] := ⟨_, rfl, (Rg.upd hf1084 (by omega) (by omega)), hP, hD⟩
          refine lv_aload_n hx hb dX7_begin_76 rfl (lv_at hl 1 rfl) ?_
          refine lv_dup hx hb dX7_begin_77 rfl ?_
          refine va_get (D := D) (ci := 6) (v := .int x1083) (C := RX7) (T := TX7) (N := 12) hx hb hts i_X7 hown hK hP 0 rfl rfl 10 (by decide) (hts _ kw_410) (fun _ h9 => h9) rfl dX7_begin_78 ?_
          refine lv_aload_n hx hb dX7_begin_81 rfl (lv_at hl 1 rfl) ?_
          refine va_get (D := D) (ci := 6) (v := .ref h2) (C := RX7) (T := TX7) (N := 12) hx hb hts i_X7 hown hK hP 0 rfl rfl 7 (by decide) (hts _ kw_407) (fun _ h9 => h9) rfl dX7_begin_82 ?_
          refine va_get (D := D) (ci := 1) (v := .ref h5) (C := RX1) (T := TX1) (N := 8) hx hb hts i_X1 hown hK hP 4 rfl rfl 1 (by decide) (hts _ kw_281) (fun _ h9 => h9) rfl dX7_begin_85 ?_
          refine lv_iload_n hx hb dX7_begin_88 rfl (lv_at hl 0 rfl) ?_
          refine va_iald hx hb hK hP 3 0 rfl rfl (in_of (by omega) (by omega)) dX7_begin_89 ?_
          refine rd gf20 (fun z1110 ez1110 hz1110 => ?_)
          refine lv_bipush (v := 7) hx hb dX7_begin_90 (by decide) ?_
          refine lv_iand hx hb dX7_begin_92 ?_
          refine q_mask (X := z1110.toInt) (M := 8) 3 rfl (by decide) (by decide) (by decide) (fun z1111 ez1111 hz1111 => ?_)
          refine lv_aload_n hx hb dX7_begin_93 rfl (lv_at hl 1 rfl) ?_
          refine lv_aload_n hx hb dX7_begin_94 rfl (lv_at hl 1 rfl) ?_
          refine va_get (D := D) (ci := 6) (v := .int x1082) (C := RX7) (T := TX7) (N := 12) hx hb hts i_X7 hown hK hP 0 rfl rfl 5 (by decide) (hts _ kw_405) (fun _ h9 => h9) rfl dX7_begin_95 ?_
          have hk0 : (0 : Int32).toInt = 0 := by decide
          refine fI (run_V (n := 1) (ci := 6) ⟨hx, hb, hml, hown, hts⟩ (m_X7_shift l D c h0 H.size (.ref h11) (.ref h12) v1 v2 (.ref h4) x1082 (.ref h1) (.ref h2) v8 z1002 x1083 0 x1082 gv1 gv2 hx1082 gv8 hx1083 (by decide) hx1082) (hP.sub [0] rfl) (hD.sub [0] (by decide) rfl) hK hN rfl rfl kw_833 kw_835 kw_10 kw_120 kw_836 ⟨rfl, by decide +kernel⟩ ⟨(Nat.le_of_ble_eq_true rfl), (Nat.le_of_ble_eq_true rfl)⟩ rfl rfl rfl hl.1 rfl (Nat.le_of_ble_eq_true rfl) dX7_begin_98 ⟨(Nat.le_of_ble_eq_true rfl), (Nat.le_of_ble_eq_true rfl)⟩) hP hD hS hA [0] rfl (fun z1112 H locs t hB hj hS => ?_)
          obtain ⟨hq1113, hq1114, hP1, hD1⟩ := hB
          obtain ⟨hP, hD⟩ := hj (wr := [(h1, .inr (3, [.int v8, .int v9, u127, u128, u129, u130, u131, u132, u133])), (h4, .inl (c 0, 6, .inl f1109)), (h5, .inl (c 0, 6, .inl f20)), (h2, .inr (1, [.int v10, .ref h5, .ref h6, .ref h9, .ref h3, .ref h10, .ref h7, .ref h8])), (h3, .inl (c 0, 6, .inl f11))]) (w1 := [(h0, .inr (6, [.ref h11, .ref h12, .int v1, .int v2, .ref h4, .int x1082, .ref h1, .ref h2, .int v8, .int z1002, .int x1083, .int 0]))]) [1, 2, 3, 4, 5] rfl (by decide) (by decide) hP1 hD1
          have hP : va_P D vwCl [(h1, .inr (3, [.int v8, .int v9, u127, u128, u129, u130, u131, u132, u133])), (h4, .inl (c 0, 6, .inl f1109)), (h5, .inl (c 0, 6, .inl f20)), (h2, .inr (1, [.int v10, .ref h5, .ref h6, .ref h9, .ref h3, .ref h10, .ref h7, .ref h8])), (h3, .inl (c 0, 6, .inl f11)), (h0, .inr (6, [.ref h11, .ref h12, .int v1, .int v2, .ref h4, .int x1082, .ref h1, .ref h2, .int v8, .int z1002, .int x1083, .int 0]))] H := hP
          have hD : va_D A [(h1, .inr (3, [.int v8, .int v9, u127, u128, u129, u130, u131, u132, u133])), (h4, .inl (c 0, 6, .inl f1109)), (h5, .inl (c 0, 6, .inl f20)), (h2, .inr (1, [.int v10, .ref h5, .ref h6, .ref h9, .ref h3, .ref h10, .ref h7, .ref h8])), (h3, .inl (c 0, 6, .inl f11)), (h0, .inr (6, [.ref h11, .ref h12, .int v1, .int v2, .ref h4, .int x1082, .ref h1, .ref h2, .int v8, .int z1002, .int x1083, .int 0]))] := hD
          have hy17 : z1112.toInt ≤ 17 := by omega
          refine lv_ishl hx hb dX7_begin_101 ?_
          refine q_shl (X := z1111.toInt) (Y := z1112.toInt) (M := 917504) 7 17 rfl rfl (by omega) (by omega) (by omega) (by omega) (by decide) (by decide) (by decide) (fun z1115 ez1115 hz1115 => ?_)
          refine lv_ior hx hb dX7_begin_102 ?_
          refine q_or (X := x1083.toInt) (Y := z1115.toInt) (M := 1048576) 20 rfl rfl (by decide) (by decide) (by omega) (by omega) (by omega) (by omega) (fun z1116 ez1116 hz1116 => ?_)
          refine va_put (D := D) (ci := 6) (v := .int z1116) (ty := .int) (C := RX7) (T := TX7) (N := 12) hx hb hts i_X7 tyX7 tyX7_ok nmX7 hown hK hP hD hS 5 rfl rfl 10 (by decide) (hts _ kw_410) (fun _ h9 => h9) rfl (tyX7_ok 10 (by decide)) rfl rfl (Nat.le_of_ble_eq_true rfl) dX7_begin_103 (fun H locs hP hD hS => ?_)
          have hP : va_P D vwCl [(h1, .inr (3, [.int v8, .int v9, u127, u128, u129, u130, u131, u132, u133])), (h4, .inl (c 0, 6, .inl f1109)), (h5, .inl (c 0, 6, .inl f20)), (h2, .inr (1, [.int v10, .ref h5, .ref h6, .ref h9, .ref h3, .ref h10, .ref h7, .ref h8])), (h3, .inl (c 0, 6, .inl f11)), (h0, .inr (6, [.ref h11, .ref h12, .int v1, .int v2, .ref h4, .int x1082, .ref h1, .ref h2, .int v8, .int z1002, .int z1116, .int 0]))] H := hP
          have hD : va_D A [(h1, .inr (3, [.int v8, .int v9, u127, u128, u129, u130, u131, u132, u133])), (h4, .inl (c 0, 6, .inl f1109)), (h5, .inl (c 0, 6, .inl f20)), (h2, .inr (1, [.int v10, .ref h5, .ref h6, .ref h9, .ref h3, .ref h10, .ref h7, .ref h8])), (h3, .inl (c 0, 6, .inl f11)), (h0, .inr (6, [.ref h11, .ref h12, .int v1, .int v2, .ref h4, .int x1082, .ref h1, .ref h2, .int v8, .int z1002, .int z1116, .int 0]))] := hD
          refine lv_aload_n hx hb dX7_begin_106 rfl (lv_at hl 1 rfl) ?_
          refine lv_dup hx hb dX7_begin_107 rfl ?_
          refine va_get (D := D) (ci := 6) (v := .int x1082) (C := RX7) (T := TX7) (N := 12) hx hb hts i_X7 hown hK hP 5 rfl rfl 5 (by decide) (hts _ kw_405) (fun _ h9 => h9) rfl dX7_begin_108 ?_
          refine lv_iconst (v := 1) hx hb dX7_begin_111 (by decide) ?_
          refine lv_iadd hx hb dX7_begin_112 ?_
          refine q_add (X := x1082.toInt) (Y := 1) rfl (by decide) (by omega) (by omega) (fun z1117 ez1117 hz1117 => ?_)
          refine va_put (D := D) (ci := 6) (v := .int z1117) (ty := .int) (C := RX7) (T := TX7) (N := 12) hx hb hts i_X7 tyX7 tyX7_ok nmX7 hown hK hP hD hS 5 rfl rfl 5 (by decide) (hts _ kw_405) (fun _ h9 => h9) rfl (tyX7_ok 5 (by decide)) rfl rfl (Nat.le_of_ble_eq_true rfl) dX7_begin_113 (fun H locs hP hD hS => ?_)
          have hP : va_P D vwCl [(h1, .inr (3, [.int v8, .int v9, u127, u128, u129, u130, u131, u132, u133])), (h4, .inl (c 0, 6, .inl f1109)), (h5, .inl (c 0, 6, .inl f20)), (h2, .inr (1, [.int v10, .ref h5, .ref h6, .ref h9, .ref h3, .ref h10, .ref h7, .ref h8])), (h3, .inl (c 0, 6, .inl f11)), (h0, .inr (6, [.ref h11, .ref h12, .int v1, .int v2, .ref h4, .int z1117, .ref h1, .ref h2, .int v8, .int z1002, .int z1116, .int 0]))] H := hP
          have hD : va_D A [(h1, .inr (3, [.int v8, .int v9, u127, u128, u129, u130, u131, u132, u133])), (h4, .inl (c 0, 6, .inl f1109)), (h5, .inl (c 0, 6, .inl f20)), (h2, .inr (1, [.int v10, .ref h5, .ref h6, .ref h9, .ref h3, .ref h10, .ref h7, .ref h8])), (h3, .inl (c 0, 6, .inl f11)), (h0, .inr (6, [.ref h11, .ref h12, .int v1, .int v2, .ref h4, .int z1117, .ref h1, .ref h2, .int v8, .int z1002, .int z1116, .int 0]))] := hD
          obtain ⟨z1118, ez1118, hz1118⟩ : ∃ y : Int32, y = x1081 + Int32.ofInt 1 ∧ y.toInt = x1081.toInt + 1 := ⟨_, rfl, ad_int (A := x1081.toInt) (B := 1) rfl (by decide) (by omega) (by omega)⟩
          refine lv_iinc (v := z1118) (lv' := [(2, .int z1118), (0, .ref h0), (1, .int a1)]) hx hb dX7_begin_116 hl (k := 0) rfl ez1118.symm (by decide) rfl (fun ls hl => ?_)
          refine lv_goto (tgt := 47) hx hb dX7_begin_119 (by decide) ?_
          have hbt := bit_at (x := a1) (y := x1081) (z := z1103) (by omega) (by omega) (by omega) ez1103
          obtain ⟨B1119, hB1119⟩ : ∃ B : Nat, B = a1.toInt.toNat / 2 ^ x1081.toInt.toNat := ⟨_, rfl⟩
          rw [← hB1119] at hbt
          have nbs := NBt_s (x := a1) (g := x1081) (z := z1118) (by omega) (by omega)
          rw [← hB1119] at nbs
          have hv1120 : SB z1116 v8 z1117 := SB.add hi1099 (by omega) (by omega) (by omega) (by omega) (by omega) (by omega) (by omega) ez1115 ez1116
          exact ih1 z1118 ⟨by omega, by omega⟩ z1117 ⟨by omega, by omega⟩ z1116 ⟨by omega, by omega⟩ f1109 hf1109 (by omega) hv1120 (by omega) (by omega) H locs (hP.sub [5, 0, 1, 2, 3, 4] rfl) (hD.sub [5, 0, 1, 2, 3, 4] (by decide) rfl) hS ls (lv_sub hl [0, 1, 2] rfl)
  have hv1121 : (0 : Int32).toInt = ((NBt a1.toInt.toNat (0 : Int32).toInt.toNat : Nat) : Int) := by rw [show (0 : Int32).toInt.toNat = 0 by decide]; exact (by decide : (0 : Int32).toInt = ((0 : Nat) : Int))
  have hv1122 : SB v9 v8 0 := SB.first ge1 (by decide)
  have hk0 : (0 : Int32).toInt = 0 := by decide
  exact lp1 (((6 : Int) - 0).toNat + 1) 0 (by decide) 0 (by decide) v9 ⟨by omega, by omega⟩ f18 gf18 hv1121 hv1122 (by omega) (by omega) H locs hP hD hS ls (lv_sub hl [0, 1, 2] rfl)
