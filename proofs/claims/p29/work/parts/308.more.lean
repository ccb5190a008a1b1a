set_option maxHeartbeats 4000000 in
set_option maxRecDepth 100000 in
theorem m_X10_lowestBit (l : Launch) (D : va_G) (c : Nat → ClassId) (sz : Nat) (a0 : Int32) : Met l yX10_lowestBit (Cond.code yX10_lowestBit cX10_lowestBit 1 (some .int) :: TB) ({ frames := 1, cells := 0, slots := 0, locals := 20 } : Room) (va_Pc [.int a0] (PW D c [] sz)) ((QIx (fun A r t => (0 ≤ r.toInt ∧ r.toInt ≤ 63) ∧ va_P D vwCl [] t.heap ∧ va_D A [])) (va_A [] sz)) 0 0 (va_A [] sz) := by
  refine start2 (by decide +kernel) (Nat.le_of_ble_eq_true rfl) ?_
  intro p e s m below meth cd A ls Q hx hb hr hml hts hown hlocks hin hA hS hK hP hD hN hl hQ
  have hown : s.vm.findClass RX10 = some m.cls := hown
  have hl : lv_has ls 1 [(0, .int a0)] := hl
  have hP : va_P D vwCl [] s.heap := hP
  refine lv_iload_n hx hb dX10_lowestBit_0 rfl (lv_at hl 0 rfl) ?_
  refine lv_iload_n hx hb dX10_lowestBit_1 rfl (lv_at hl 0 rfl) ?_
  refine lv_ineg hx hb dX10_lowestBit_2 ?_
  refine o_any (fun z1001 ez1001 => ?_)
  refine lv_iand hx hb dX10_lowestBit_3 ?_
  refine o_any (fun z1002 ez1002 => ?_)
  refine lv_iconst (v := 1) hx hb dX10_lowestBit_4 (by decide) ?_
  refine lv_isub hx hb dX10_lowestBit_5 ?_
  refine o_any (fun z1003 ez1003 => ?_)
  refine fI (run_S (n := 1) ⟨hx, hb, hml, hown, hts⟩ (m_J6_bitCount_0f7a4 l D c s.heap.size z1003) (hP.sub [] rfl) (hD.sub [] (by decide) rfl) hK hN rfl rfl kw_743 kw_744 kw_130 kw_745 (by decide +kernel) ⟨(Nat.le_of_ble_eq_true rfl), (Nat.le_of_ble_eq_true rfl)⟩ rfl hl.1 rfl (Nat.le_of_ble_eq_true rfl) dX10_lowestBit_6 ⟨(Nat.le_of_ble_eq_true rfl), (Nat.le_of_ble_eq_true rfl)⟩) hP hD hS hA [] rfl (fun z1004 H locs t hB hj hS => ?_)
  obtain ⟨hq1005, hP1, hD1⟩ := hB
  obtain ⟨hP, hD⟩ := hj (wr := []) (w1 := []) [] rfl (by decide) (by decide) hP1 hD1
  have hP : va_P D vwCl [] H := hP
  have hD : va_D A [] := hD
  exact rI hQ hx hb hr hlocks rfl hS (Nat.le_of_ble_eq_true rfl) (Nat.le_of_ble_eq_true rfl) dX10_lowestBit_9 (fun t ht => ⟨hq1005, by rw [ht]; exact hP, hD⟩)
set_option maxHeartbeats 4000000 in
set_option maxRecDepth 100000 in
theorem m_X4_directionsOf (l : Launch) (D : va_G) (c : Nat → ClassId) (h0 h1 h2 : Nat) (sz : Nat) (v1 : Int32) (v2 : Int32) (u2008 : Value) (u2009 : Value) (u2010 : Value) (u2011 : Value) (u2012 : Value) (f95 : Nat → Int32) (f107 : Nat → Int32) (b1 : Int64) (gv1 : 0 ≤ v1.toInt ∧ v1.toInt ≤ 14) (gv2 : 0 ≤ v2.toInt ∧ v2.toInt ≤ 16383) (gf95 : Rg f95 0 7) (gf107 : Rg f107 0 7) : Met l yX4_directionsOf (Cond.code yX4_directionsOf cX4_directionsOf 11 (some .int) :: TB) ({ frames := 2, cells := 0, slots := 0, locals := 40 } : Room) (va_Pc [.ref h0, .long b1] (PW D c [(h0, .inr (3, [.int v1, .int v2, .ref h1, .ref h2, u2008, u2009, u2010, u2011, u2012])), (h1, .inl (c 0, 14, .inl f95)), (h2, .inl (c 0, 14, .inl f107))] sz)) ((QIx (fun A r t => va_P D vwCl [(h0, .inr (3, [.int v1, .int v2, .ref h1, .ref h2, u2008, u2009, u2010, u2011, u2012])), (h1, .inl (c 0, 14, .inl f95)), (h2, .inl (c 0, 14, .inl f107))] t.heap ∧ va_D A [(h0, .inr (3, [.int v1, .int v2, .ref h1, .ref h2, u2008, u2009, u2010, u2011, u2012])), (h1, .inl (c 0, 14, .inl f95)), (h2, .inl (c 0, 14, .inl f107))])) (va_A [(h0, .inr (3, [.int v1, .int v2, .ref h1, .ref h2, u2008, u2009, u2010, u2011, u2012])), (h1, .inl (c 0, 14, .inl f95)), (h2, .inl (c 0, 14, .inl f107))] sz)) 0 0 (va_A [(h0, .inr (3, [.int v1, .int v2, .ref h1, .ref h2, u2008, u2009, u2010, u2011, u2012])), (h1, .inl (c 0, 14, .inl f95)), (h2, .inl (c 0, 14, .inl f107))] sz) := by
  refine start2 (by decide +kernel) (Nat.le_of_ble_eq_true rfl) ?_
  intro p e s m below meth cd A ls Q hx hb hr hml hts hown hlocks hin hA hS hK hP hD hN hl hQ
  have hown : s.vm.findClass RX4 = some m.cls := hown
  have hl : lv_has ls 11 [(0, .ref h0), (1, .long b1)] := hl
  have hP : va_P D vwCl [(h0, .inr (3, [.int v1, .int v2, .ref h1, .ref h2, u2008, u2009, u2010, u2011, u2012])), (h1, .inl (c 0, 14, .inl f95)), (h2, .inl (c 0, 14, .inl f107))] s.heap := hP
  refine lv_iconst (v := 0) hx hb dX4_directionsOf_0 (by decide) ?_
  refine lv_istore_n (lv' := [(3, .int 0), (0, .ref h0), (1, .long b1)]) hx hb dX4_directionsOf_1 rfl hl (by decide) rfl (fun ls hl => ?_)
  refine lv_lconst (v := 0) hx hb dX4_directionsOf_2 (by decide) ?_
  refine lv_lstore (lv' := [(4, .long 0), (3, .int 0), (0, .ref h0), (1, .long b1)]) hx hb dX4_directionsOf_3 hl (by decide) rfl (fun ls hl => ?_)
  refine lv_iconst (v := 0) hx hb dX4_directionsOf_5 (by decide) ?_
  refine lv_istore (lv' := [(6, .int 0), (4, .long 0), (3, .int 0), (0, .ref h0), (1, .long b1)]) hx hb dX4_directionsOf_6 hl (by decide) rfl (fun ls hl => ?_)
  refine lv_iconst (v := 0) hx hb dX4_directionsOf_8 (by decide) ?_
  refine lv_istore (lv' := [(7, .int 0), (6, .int 0), (4, .long 0), (3, .int 0), (0, .ref h0), (1, .long b1)]) hx hb dX4_directionsOf_9 hl (by decide) rfl (fun ls hl => ?_)
  have lp1 : ∀ (n1 : Nat), ∀ (x2642 : Int32) (hx2642 : 0 ≤ x2642.toInt ∧ x2642.toInt ≤ 14) (w2643 : Int64) (hm1 : (14 : Int) - x2642.toInt < (n1 : Int)) (H : Heap) (locs : List Loc) (hP : va_P D vwCl [(h0, .inr (3, [.int v1, .int v2, .ref h1, .ref h2, u2008, u2009, u2010, u2011, u2012])), (h1, .inl (c 0, 14, .inl f95)), (h2, .inl (c 0, 14, .inl f107))] H) (hD : va_D A [(h0, .inr (3, [.int v1, .int v2, .ref h1, .ref h2, u2008, u2009, u2010, u2011, u2012])), (h1, .inl (c 0, 14, .inl f95)), (h2, .inl (c 0, 14, .inl f107))]) (hS : va_S A s.heap H locs) (ls : Array Slot) (hl : lv_has ls 11 [(7, .int x2642), (6, .int 0), (4, .long w2643), (3, .int 0), (0, .ref h0), (1, .long b1)]), W p l e ({ frames := 2, cells := 0, slots := 0, locals := 40 } : Room) s m [.ref h0, .long b1].toArray below meth cd H locs 0 0 Q (F0 m 11 ls []) := by
    intro n1
    induction n1 with
    | zero =>
      intro x2642 hx2642 w2643 hm1 H locs hP hD hS ls hl
      exact absurd hm1 (by omega)
    | succ n1 ih1 =>
      intro x2642 hx2642 w2643 hm1 H locs hP hD hS ls hl
      refine lv_iload hx hb dX4_directionsOf_11 (lv_at hl 0 rfl) ?_
      refine lv_aload_n hx hb dX4_directionsOf_13 rfl (lv_at hl 4 rfl) ?_
      refine va_get (D := D) (ci := 3) (v := .int v1) (C := RX4) (T := TX4) (N := 9) hx hb hts i_X4 hown hK hP 0 rfl rfl 0 (by decide) (hts _ kw_212) (fun _ h9 => h9) rfl dX4_directionsOf_14 ?_
      refine B_icmp_ge (tgt := 41) (X := x2642.toInt) (Y := v1.toInt) hx hb dX4_directionsOf_17 (by decide) rfl rfl (fun hc3004 => ?_) (fun hc3004 => ?_)
      · refine lv_iconst (v := 1) hx hb dX4_directionsOf_41 (by decide) ?_
        refine lv_istore (lv' := [(7, .int 1), (6, .int 0), (4, .long w2643), (3, .int 0), (0, .ref h0), (1, .long b1)]) hx hb dX4_directionsOf_42 hl (by decide) rfl (fun ls hl => ?_)
        have lp2 : ∀ (n2 : Nat), ∀ (x3312 : Int32) (hx3312 : 1 ≤ x3312.toInt ∧ x3312.toInt ≤ 16385) (x3313 : Int32) (hx3313 : 0 ≤ x3313.toInt ∧ x3313.toInt ≤ 2147483647) (w3314 : Int64) (x3315 : Int32) (hm2 : (16385 : Int) - x3312.toInt < (n2 : Int)) (H : Heap) (locs : List Loc) (hP : va_P D vwCl [(h0, .inr (3, [.int v1, .int v2, .ref h1, .ref h2, u2008, u2009, u2010, u2011, u2012])), (h1, .inl (c 0, 14, .inl f95)), (h2, .inl (c 0, 14, .inl f107))] H) (hD : va_D A [(h0, .inr (3, [.int v1, .int v2, .ref h1, .ref h2, u2008, u2009, u2010, u2011, u2012])), (h1, .inl (c 0, 14, .inl f95)), (h2, .inl (c 0, 14, .inl f107))]) (hS : va_S A s.heap H locs) (ls : Array Slot) (hl : lv_has ls 11 [(7, .int x3312), (6, .int x3313), (4, .long w3314), (3, .int x3315), (0, .ref h0), (1, .long b1)]), W p l e ({ frames := 2, cells := 0, slots := 0, locals := 40 } : Room) s m [.ref h0, .long b1].toArray below meth cd H locs 0 0 Q (F0 m 44 ls []) := by
          intro n2
          induction n2 with
          | zero =>
            intro x3312 hx3312 x3313 hx3313 w3314 x3315 hm2 H locs hP hD hS ls hl
            exact absurd hm2 (by omega)
          | succ n2 ih2 =>
            intro x3312 hx3312 x3313 hx3313 w3314 x3315 hm2 H locs hP hD hS ls hl
            refine lv_iload hx hb dX4_directionsOf_44 (lv_at hl 0 rfl) ?_
            refine lv_iconst (v := 1) hx hb dX4_directionsOf_46 (by decide) ?_
            refine lv_aload_n hx hb dX4_directionsOf_47 rfl (lv_at hl 4 rfl) ?_
            refine va_get (D := D) (ci := 3) (v := .int v1) (C := RX4) (T := TX4) (N := 9) hx hb hts i_X4 hown hK hP 0 rfl rfl 0 (by decide) (hts _ kw_212) (fun _ h9 => h9) rfl dX4_directionsOf_48 ?_
            refine lv_ishl hx hb dX4_directionsOf_51 ?_
            refine q_shl (X := 1) (Y := v1.toInt) (M := 16384) 1 14 (by decide) rfl (by omega) (by omega) (by omega) (by omega) (by decide) (by decide) (by decide) (fun z3360 ez3360 hz3360 => ?_)
            refine B_icmp_gt (tgt := 142) (X := x3312.toInt) (Y := z3360.toInt) hx hb dX4_directionsOf_52 (by decide) rfl rfl (fun hc3361 => ?_) (fun hc3361 => ?_)
            · refine lv_iload_n hx hb dX4_directionsOf_142 rfl (lv_at hl 3 rfl) ?_
              exact rI hQ hx hb hr hlocks rfl hS (Nat.le_of_ble_eq_true rfl) (Nat.le_of_ble_eq_true rfl) dX4_directionsOf_143 (fun t ht => ⟨by rw [ht]; exact hP, hD⟩)
            · refine lv_lload hx hb dX4_directionsOf_55 (lv_at hl 2 rfl) ?_
              refine lv_lload_n hx hb dX4_directionsOf_57 rfl (lv_at hl 5 rfl) ?_
              refine B_lc_ne (tgt := 65) (X := w3314.toInt) (Y := b1.toInt) hx hb dX4_directionsOf_58 dX4_directionsOf_59 (by decide) rfl rfl (fun hc3362 => ?_) (fun hc3362 => ?_)
              · refine lv_iload hx hb dX4_directionsOf_65 (lv_at hl 0 rfl) ?_
                refine fI (run_SN (n := 1) ⟨hx, hb, hml, hown, hts⟩ (m_X10_lowestBit l D c H.size x3312) (hP.sub [] rfl) (hD.sub [] (by decide) rfl) hK hN rfl rfl (hN.1 _ (List.mem_of_getElem? (i := 5) rfl)) kw_886 kw_113 kw_887 (by decide +kernel) ⟨(Nat.le_of_ble_eq_true rfl), (Nat.le_of_ble_eq_true rfl)⟩ rfl hl.1 rfl (Nat.le_of_ble_eq_true rfl) dX4_directionsOf_67 ⟨(Nat.le_of_ble_eq_true rfl), (Nat.le_of_ble_eq_true rfl)⟩) hP hD hS hA [] rfl (fun z3363 H locs t hB hj hS => ?_)
                obtain ⟨hq3364, hP1, hD1⟩ := hB
                obtain ⟨hP, hD⟩ := hj (wr := [(h0, .inr (3, [.int v1, .int v2, .ref h1, .ref h2, u2008, u2009, u2010, u2011, u2012])), (h1, .inl (c 0, 14, .inl f95)), (h2, .inl (c 0, 14, .inl f107))]) (w1 := []) [0, 1, 2] rfl (by decide) (by decide) hP1 hD1
                have hP : va_P D vwCl [(h0, .inr (3, [.int v1, .int v2, .ref h1, .ref h2, u2008, u2009, u2010, u2011, u2012])), (h1, .inl (c 0, 14, .inl f95)), (h2, .inl (c 0, 14, .inl f107))] H := hP
                have hD : va_D A [(h0, .inr (3, [.int v1, .int v2, .ref h1, .ref h2, u2008, u2009, u2010, u2011, u2012])), (h1, .inl (c 0, 14, .inl f95)), (h2, .inl (c 0, 14, .inl f107))] := hD
                refine lv_istore (lv' := [(8, .int z3363), (7, .int x3312), (6, .int x3313), (4, .long w3314), (3, .int x3315), (0, .ref h0), (1, .long b1)]) hx hb dX4_directionsOf_70 hl (by decide) rfl (fun ls hl => ?_)
                refine lv_iload hx hb dX4_directionsOf_72 (lv_at hl 0 rfl) ?_
                refine lv_aload_n hx hb dX4_directionsOf_74 rfl (lv_at hl 5 rfl) ?_
                refine va_get (D := D) (ci := 3) (v := .int v1) (C := RX4) (T := TX4) (N := 9) hx hb hts i_X4 hown hK hP 0 rfl rfl 0 (by decide) (hts _ kw_212) (fun _ h9 => h9) rfl dX4_directionsOf_75 ?_
                refine B_icmp_ge (tgt := 136) (X := z3363.toInt) (Y := v1.toInt) hx hb dX4_directionsOf_78 (by decide) rfl rfl (fun hc3365 => ?_) (fun hc3365 => ?_)
                · obtain ⟨z3366, ez3366, hz3366⟩ : ∃ y : Int32, y = x3312 + Int32.ofInt 1 ∧ y.toInt = x3312.toInt + 1 := ⟨_, rfl, ad_int (A := x3312.toInt) (B := 1) rfl (by decide) (by omega) (by omega)⟩
                  refine lv_iinc (v := z3366) (lv' := [(7, .int z3366), (8, .int z3363), (6, .int x3313), (4, .long w3314), (3, .int x3315), (0, .ref h0), (1, .long b1)]) hx hb dX4_directionsOf_136 hl (k := 1) rfl ez3366.symm (by decide) rfl (fun ls hl => ?_)
                  refine lv_goto (tgt := 44) hx hb dX4_directionsOf_139 (by decide) ?_
                  exact ih2 z3366 ⟨by omega, by omega⟩ x3313 hx3313 w3314 x3315 (by omega) H locs hP hD hS ls (lv_sub hl [0, 2, 3, 4, 5, 6] rfl)
                · refine lv_aload_n hx hb dX4_directionsOf_81 rfl (lv_at hl 5 rfl) ?_
                  refine va_get (D := D) (ci := 3) (v := .ref h2) (C := RX4) (T := TX4) (N := 9) hx hb hts i_X4 hown hK hP 0 rfl rfl 3 (by decide) (hts _ kw_227) (fun _ h9 => h9) rfl dX4_directionsOf_82 ?_
                  refine lv_iload hx hb dX4_directionsOf_85 (lv_at hl 0 rfl) ?_
                  refine va_iald hx hb hK hP 2 0 rfl rfl (in_of (by omega) (by omega)) dX4_directionsOf_87 ?_
                  refine rd gf107 (fun z3367 ez3367 hz3367 => ?_)
                  refine fL (run_S (n := 1) ⟨hx, hb, hml, hown, hts⟩ (m_X4_unit l D c H.size z3367) (hP.sub [] rfl) (hD.sub [] (by decide) rfl) hK hN rfl rfl kw_936 kw_937 kw_117 kw_938 (by decide +kernel) ⟨(Nat.le_of_ble_eq_true rfl), (Nat.le_of_ble_eq_true rfl)⟩ rfl hl.1 rfl (Nat.le_of_ble_eq_true rfl) dX4_directionsOf_88 ⟨(Nat.le_of_ble_eq_true rfl), (Nat.le_of_ble_eq_true rfl)⟩) hP hD hS hA [] rfl (fun w3368 H locs t hB hj hS => ?_)
                  obtain ⟨hP1, hD1⟩ := hB
                  obtain ⟨hP, hD⟩ := hj (wr := [(h0, .inr (3, [.int v1, .int v2, .ref h1, .ref h2, u2008, u2009, u2010, u2011, u2012])), (h1, .inl (c 0, 14, .inl f95)), (h2, .inl (c 0, 14, .inl f107))]) (w1 := []) [0, 1, 2] rfl (by decide) (by decide) hP1 hD1
                  have hP : va_P D vwCl [(h0, .inr (3, [.int v1, .int v2, .ref h1, .ref h2, u2008, u2009, u2010, u2011, u2012])), (h1, .inl (c 0, 14, .inl f95)), (h2, .inl (c 0, 14, .inl f107))] H := hP
                  have hD : va_D A [(h0, .inr (3, [.int v1, .int v2, .ref h1, .ref h2, u2008, u2009, u2010, u2011, u2012])), (h1, .inl (c 0, 14, .inl f95)), (h2, .inl (c 0, 14, .inl f107))] := hD
                  refine lv_aload_n hx hb dX4_directionsOf_91 rfl (lv_at hl 5 rfl) ?_
                  refine va_get (D := D) (ci := 3) (v := .ref h1) (C := RX4) (T := TX4) (N := 9) hx hb hts i_X4 hown hK hP 0 rfl rfl 2 (by decide) (hts _ kw_224) (fun _ h9 => h9) rfl dX4_directionsOf_92 ?_
                  refine lv_iload hx hb dX4_directionsOf_95 (lv_at hl 0 rfl) ?_
                  refine va_iald hx hb hK hP 1 0 rfl rfl (in_of (by omega) (by omega)) dX4_directionsOf_97 ?_
                  refine rd gf95 (fun z3369 ez3369 hz3369 => ?_)
                  refine fL (run_S (n := 1) ⟨hx, hb, hml, hown, hts⟩ (m_X4_unit l D c H.size z3369) (hP.sub [] rfl) (hD.sub [] (by decide) rfl) hK hN rfl rfl kw_936 kw_937 kw_117 kw_938 (by decide +kernel) ⟨(Nat.le_of_ble_eq_true rfl), (Nat.le_of_ble_eq_true rfl)⟩ rfl hl.1 rfl (Nat.le_of_ble_eq_true rfl) dX4_directionsOf_98 ⟨(Nat.le_of_ble_eq_true rfl), (Nat.le_of_ble_eq_true rfl)⟩) hP hD hS hA [] rfl (fun w3370 H locs t hB hj hS => ?_)
                  obtain ⟨hP1, hD1⟩ := hB
                  obtain ⟨hP, hD⟩ := hj (wr := [(h0, .inr (3, [.int v1, .int v2, .ref h1, .ref h2, u2008, u2009, u2010, u2011, u2012])), (h1, .inl (c 0, 14, .inl f95)), (h2, .inl (c 0, 14, .inl f107))]) (w1 := []) [0, 1, 2] rfl (by decide) (by decide) hP1 hD1
                  have hP : va_P D vwCl [(h0, .inr (3, [.int v1, .int v2, .ref h1, .ref h2, u2008, u2009, u2010, u2011, u2012])), (h1, .inl (c 0, 14, .inl f95)), (h2, .inl (c 0, 14, .inl f107))] H := hP
                  have hD : va_D A [(h0, .inr (3, [.int v1, .int v2, .ref h1, .ref h2, u2008, u2009, u2010, u2011, u2012])), (h1, .inl (c 0, 14, .inl f95)), (h2, .inl (c 0, 14, .inl f107))] := hD
                  refine lv_lsub hx hb dX4_directionsOf_101 ?_
                  refine lv_topl (fun w3371 ew3371 => ?_)
                  refine lv_lstore (lv' := [(9, .long w3371), (8, .int z3363), (7, .int x3312), (6, .int x3313), (4, .long w3314), (3, .int x3315), (0, .ref h0), (1, .long b1)]) hx hb dX4_directionsOf_102 hl (by decide) rfl (fun ls hl => ?_)
                  refine lv_lload hx hb dX4_directionsOf_104 (lv_at hl 4 rfl) ?_
                  refine lv_iload hx hb dX4_directionsOf_106 (lv_at hl 3 rfl) ?_
                  refine lv_iload hx hb dX4_directionsOf_108 (lv_at hl 1 rfl) ?_
                  refine lv_ishr hx hb dX4_directionsOf_110 ?_
                  refine q_shr (X := x3313.toInt) rfl (by omega) (fun z3372 ez3372 hz3372 => ?_)
                  refine lv_iconst (v := 1) hx hb dX4_directionsOf_111 (by decide) ?_
                  refine lv_iand hx hb dX4_directionsOf_112 ?_
                  refine q_mask (X := z3372.toInt) (M := 2) 1 rfl (by decide) (by decide) (by decide) (fun z3373 ez3373 hz3373 => ?_)
                  refine B_if_ne (tgt := 121) (X := z3373.toInt) hx hb dX4_directionsOf_113 (by decide) rfl (fun hc3374 => ?_) (fun hc3374 => ?_)
                  · refine lv_lload hx hb dX4_directionsOf_121 (lv_at hl 0 rfl) ?_
                    refine lv_lneg hx hb dX4_directionsOf_123 ?_
                    refine lv_topl (fun w3375 ew3375 => ?_)
                    refine lv_ladd hx hb dX4_directionsOf_124 ?_
                    refine lv_topl (fun w3376 ew3376 => ?_)
                    refine lv_lstore (lv' := [(4, .long w3376), (9, .long w3371), (8, .int z3363), (7, .int x3312), (6, .int x3313), (3, .int x3315), (0, .ref h0), (1, .long b1)]) hx hb dX4_directionsOf_125 hl (by decide) rfl (fun ls hl => ?_)
                    refine lv_iload hx hb dX4_directionsOf_127 (lv_at hl 4 rfl) ?_
                    refine lv_iconst (v := 1) hx hb dX4_directionsOf_129 (by decide) ?_
                    refine lv_iload hx hb dX4_directionsOf_130 (lv_at hl 2 rfl) ?_
                    refine lv_ishl hx hb dX4_directionsOf_132 ?_
                    refine q_shl (X := 1) (Y := z3363.toInt) (M := 8192) 1 13 (by decide) rfl (by omega) (by omega) (by omega) (by omega) (by decide) (by decide) (by decide) (fun z3377 ez3377 hz3377 => ?_)
                    refine lv_ixor hx hb dX4_directionsOf_133 ?_
                    refine q_xor (X := x3313.toInt) (Y := z3377.toInt) (M := 2147483648) 31 rfl rfl (by decide) (by decide) (by omega) (by omega) (by omega) (by omega) (fun z3378 ez3378 hz3378 => ?_)
                    refine lv_istore (lv' := [(6, .int z3378), (4, .long w3376), (9, .long w3371), (8, .int z3363), (7, .int x3312), (3, .int x3315), (0, .ref h0), (1, .long b1)]) hx hb dX4_directionsOf_134 hl (by decide) rfl (fun ls hl => ?_)
                    obtain ⟨z3379, ez3379, hz3379⟩ : ∃ y : Int32, y = x3312 + Int32.ofInt 1 ∧ y.toInt = x3312.toInt + 1 := ⟨_, rfl, ad_int (A := x3312.toInt) (B := 1) rfl (by decide) (by omega) (by omega)⟩
                    refine lv_iinc (v := z3379) (lv' := [(7, .int z3379), (6, .int z3378), (4, .long w3376), (9, .long w3371), (8, .int z3363), (3, .int x3315), (0, .ref h0), (1, .long b1)]) hx hb dX4_directionsOf_136 hl (k := 4) rfl ez3379.symm (by decide) rfl (fun ls hl => ?_)
                    refine lv_goto (tgt := 44) hx hb dX4_directionsOf_139 (by decide) ?_
                    exact ih2 z3379 ⟨by omega, by omega⟩ z3378 ⟨by omega, i32_hi _⟩ w3376 x3315 (by omega) H locs hP hD hS ls (lv_sub hl [0, 1, 2, 5, 6, 7] rfl)
                  · refine lv_lload hx hb dX4_directionsOf_116 (lv_at hl 0 rfl) ?_
                    refine lv_goto (tgt := 124) hx hb dX4_directionsOf_118 (by decide) ?_
                    refine lv_ladd hx hb dX4_directionsOf_124 ?_
                    refine lv_topl (fun w3380 ew3380 => ?_)
                    refine lv_lstore (lv' := [(4, .long w3380), (9, .long w3371), (8, .int z3363), (7, .int x3312), (6, .int x3313), (3, .int x3315), (0, .ref h0), (1, .long b1)]) hx hb dX4_directionsOf_125 hl (by decide) rfl (fun ls hl => ?_)
                    refine lv_iload hx hb dX4_directionsOf_127 (lv_at hl 4 rfl) ?_
                    refine lv_iconst (v := 1) hx hb dX4_directionsOf_129 (by decide) ?_
                    refine lv_iload hx hb dX4_directionsOf_130 (lv_at hl 2 rfl) ?_
                    refine lv_ishl hx hb dX4_directionsOf_132 ?_
                    refine q_shl (X := 1) (Y := z3363.toInt) (M := 8192) 1 13 (by decide) rfl (by omega) (by omega) (by omega) (by omega) (by decide) (by decide) (by decide) (fun z3381 ez3381 hz3381 => ?_)
                    refine lv_ixor hx hb dX4_directionsOf_133 ?_
                    refine q_xor (X := x3313.toInt) (Y := z3381.toInt) (M := 2147483648) 31 rfl rfl (by decide) (by decide) (by omega) (by omega) (by omega) (by omega) (fun z3382 ez3382 hz3382 => ?_)
                    refine lv_istore (lv' := [(6, .int z3382), (4, .long w3380), (9, .long w3371), (8, .int z3363), (7, .int x3312), (3, .int x3315), (0, .ref h0), (1, .long b1)]) hx hb dX4_directionsOf_134 hl (by decide) rfl (fun ls hl => ?_)
                    obtain ⟨z3383, ez3383, hz3383⟩ : ∃ y : Int32, y = x3312 + Int32.ofInt 1 ∧ y.toInt = x3312.toInt + 1 := ⟨_, rfl, ad_int (A := x3312.toInt) (B := 1) rfl (by decide) (by omega) (by omega)⟩
                    refine lv_iinc (v := z3383) (lv' := [(7, .int z3383), (6, .int z3382), (4, .long w3380), (9, .long w3371), (8, .int z3363), (3, .int x3315), (0, .ref h0), (1, .long b1)]) hx hb dX4_directionsOf_136 hl (k := 4) rfl ez3383.symm (by decide) rfl (fun ls hl => ?_)
                    refine lv_goto (tgt := 44) hx hb dX4_directionsOf_139 (by decide) ?_
                    exact ih2 z3383 ⟨by omega, by omega⟩ z3382 ⟨by omega, i32_hi _⟩ w3380 x3315 (by omega) H locs hP hD hS ls (lv_sub hl [0, 1, 2, 5, 6, 7] rfl)
              · obtain ⟨z3384, ez3384⟩ : ∃ y : Int32, y = x3315 + Int32.ofInt 1 := ⟨_, rfl⟩
                refine lv_iinc (v := z3384) (lv' := [(3, .int z3384), (7, .int x3312), (6, .int x3313), (4, .long w3314), (0, .ref h0), (1, .long b1)]) hx hb dX4_directionsOf_62 hl (k := 3) rfl ez3384.symm (by decide) rfl (fun ls hl => ?_)
                refine lv_iload hx hb dX4_directionsOf_65 (lv_at hl 1 rfl) ?_
                refine fI (run_SN (n := 1) ⟨hx, hb, hml, hown, hts⟩ (m_X10_lowestBit l D c H.size x3312) (hP.sub [] rfl) (hD.sub [] (by decide) rfl) hK hN rfl rfl (hN.1 _ (List.mem_of_getElem? (i := 5) rfl)) kw_886 kw_113 kw_887 (by decide +kernel) ⟨(Nat.le_of_ble_eq_true rfl), (Nat.le_of_ble_eq_true rfl)⟩ rfl hl.1 rfl (Nat.le_of_ble_eq_true rfl) dX4_directionsOf_67 ⟨(Nat.le_of_ble_eq_true rfl), (Nat.le_of_ble_eq_true rfl)⟩) hP hD hS hA [] rfl (fun z3385 H locs t hB hj hS => ?_)
                obtain ⟨hq3386, hP1, hD1⟩ := hB
                obtain ⟨hP, hD⟩ := hj (wr := [(h0, .inr (3, [.int v1, .int v2, .ref h1, .ref h2, u2008, u2009, u2010, u2011, u2012])), (h1, .inl (c 0, 14, .inl f95)), (h2, .inl (c 0, 14, .inl f107))]) (w1 := []) [0, 1, 2] rfl (by decide) (by decide) hP1 hD1
                have hP : va_P D vwCl [(h0, .inr (3, [.int v1, .int v2, .ref h1, .ref h2, u2008, u2009, u2010, u2011, u2012])), (h1, .inl (c 0, 14, .inl f95)), (h2, .inl (c 0, 14, .inl f107))] H := hP
                have hD : va_D A [(h0, .inr (3, [.int v1, .int v2, .ref h1, .ref h2, u2008, u2009, u2010, u2011, u2012])), (h1, .inl (c 0, 14, .inl f95)), (h2, .inl (c 0, 14, .inl f107))] := hD
                refine lv_istore (lv' := [(8, .int z3385), (3, .int z3384), (7, .int x3312), (6, .int x3313), (4, .long w3314), (0, .ref h0), (1, .long b1)]) hx hb dX4_directionsOf_70 hl (by decide) rfl (fun ls hl => ?_)
                refine lv_iload hx hb dX4_directionsOf_72 (lv_at hl 0 rfl) ?_
                refine lv_aload_n hx hb dX4_directionsOf_74 rfl (lv_at hl 5 rfl) ?_
                refine va_get (D := D) (ci := 3) (v := .int v1) (C := RX4) (T := TX4) (N := 9) hx hb hts i_X4 hown hK hP 0 rfl rfl 0 (by decide) (hts _ kw_212) (fun _ h9 => h9) rfl dX4_directionsOf_75 ?_
                refine B_icmp_ge (tgt := 136) (X := z3385.toInt) (Y := v1.toInt) hx hb dX4_directionsOf_78 (by decide) rfl rfl (fun hc3387 => ?_) (fun hc3387 => ?_)
                · obtain ⟨z3388, ez3388, hz3388⟩ : ∃ y : Int32, y = x3312 + Int32.ofInt 1 ∧ y.toInt = x3312.toInt + 1 := ⟨_, rfl, ad_int (A := x3312.toInt) (B := 1) rfl (by decide) (by omega) (by omega)⟩
                  refine lv_iinc (v := z3388) (lv' := [(7, .int z3388), (8, .int z3385), (3, .int z3384), (6, .int x3313), (4, .long w3314), (0, .ref h0), (1, .long b1)]) hx hb dX4_directionsOf_136 hl (k := 2) rfl ez3388.symm (by decide) rfl (fun ls hl => ?_)
                  refine lv_goto (tgt := 44) hx hb dX4_directionsOf_139 (by decide) ?_
                  exact ih2 z3388 ⟨by omega, by omega⟩ x3313 hx3313 w3314 z3384 (by omega) H locs hP hD hS ls (lv_sub hl [0, 3, 4, 2, 5, 6] rfl)
                · refine lv_aload_n hx hb dX4_directionsOf_81 rfl (lv_at hl 5 rfl) ?_
                  refine va_get (D := D) (ci := 3) (v := .ref h2) (C := RX4) (T := TX4) (N := 9) hx hb hts i_X4 hown hK hP 0 rfl rfl 3 (by decide) (hts _ kw_227) (fun _ h9 => h9) rfl dX4_directionsOf_82 ?_
                  refine lv_iload hx hb dX4_directionsOf_85 (lv_at hl 0 rfl) ?_
                  refine va_iald hx hb hK hP 2 0 rfl rfl (in_of (by omega) (by omega)) dX4_directionsOf_87 ?_
                  refine rd gf107 (fun z3389 ez3389 hz3389 => ?_)
                  refine fL (run_S (n := 1) ⟨hx, hb, hml, hown, hts⟩ (m_X4_unit l D c H.size z3389) (hP.sub [] rfl) (hD.sub [] (by decide) rfl) hK hN rfl rfl kw_936 kw_937 kw_117 kw_938 (by decide +kernel) ⟨(Nat.le_of_ble_eq_true rfl), (Nat.le_of_ble_eq_true rfl)⟩ rfl hl.1 rfl (Nat.le_of_ble_eq_true rfl) dX4_directionsOf_88 ⟨(Nat.le_of_ble_eq_true rfl), (Nat.le_of_ble_eq_true rfl)⟩) hP hD hS hA [] rfl (fun w3390 H locs t hB hj hS => ?_)
                  obtain ⟨hP1, hD1⟩ := hB
                  obtain ⟨hP, hD⟩ := hj (wr := [(h0, .inr (3, [.int v1, .int v2, .ref h1, .ref h2, u2008, u2009, u2010, u2011, u2012])), (h1, .inl (c 0, 14, .inl f95)), (h2, .inl (c 0, 14, .inl f107))]) (w1 := []) [0, 1, 2] rfl (by decide) (by decide) hP1 hD1
                  have hP : va_P D vwCl [(h0, .inr (3, [.int v1, .int v2, .ref h1, .ref h2, u2008, u2009, u2010, u2011, u2012])), (h1, .inl (c 0, 14, .inl f95)), (h2, .inl (c 0, 14, .inl f107))] H := hP
                  have hD : va_D A [(h0, .inr (3, [.int v1, .int v2, .ref h1, .ref h2, u2008, u2009, u2010, u2011, u2012])), (h1, .inl (c 0, 14, .inl f95)), (h2, .inl (c 0, 14, .inl f107))] := hD
                  refine lv_aload_n hx hb dX4_directionsOf_91 rfl (lv_at hl 5 rfl) ?_
                  refine va_get (D := D) (ci := 3) (v := .ref h1) (C := RX4) (T := TX4) (N := 9) hx hb hts i_X4 hown hK hP 0 rfl rfl 2 (by decide) (hts _ kw_224) (fun _ h9 => h9) rfl dX4_directionsOf_92 ?_
                  refine lv_iload hx hb dX4_directionsOf_95 (lv_at hl 0 rfl) ?_
                  refine va_iald hx hb hK hP 1 0 rfl rfl (in_of (by omega) (by omega)) dX4_directionsOf_97 ?_
                  refine rd gf95 (fun z3391 ez3391 hz3391 => ?_)
                  refine fL (run_S (n := 1) ⟨hx, hb, hml, hown, hts⟩ (m_X4_unit l D c H.size z3391) (hP.sub [] rfl) (hD.sub [] (by decide) rfl) hK hN rfl rfl kw_936 kw_937 kw_117 kw_938 (by decide +kernel) ⟨(Nat.le_of_ble_eq_true rfl), (Nat.le_of_ble_eq_true rfl)⟩ rfl hl.1 rfl (Nat.le_of_ble_eq_true rfl) dX4_directionsOf_98 ⟨(Nat.le_of_ble_eq_true rfl), (Nat.le_of_ble_eq_true rfl)⟩) hP hD hS hA [] rfl (fun w3392 H locs t hB hj hS => ?_)
                  obtain ⟨hP1, hD1⟩ := hB
                  obtain ⟨hP, hD⟩ := hj (wr := [(h0, .inr (3, [.int v1, .int v2, .ref h1, .ref h2, u2008, u2009, u2010, u2011, u2012])), (h1, .inl (c 0, 14, .inl f95)), (h2, .inl (c 0, 14, .inl f107))]) (w1 := []) [0, 1, 2] rfl (by decide) (by decide) hP1 hD1
                  have hP : va_P D vwCl [(h0, .inr (3, [.int v1, .int v2, .ref h1, .ref h2, u2008, u2009, u2010, u2011, u2012])), (h1, .inl (c 0, 14, .inl f95)), (h2, .inl (c 0, 14, .inl f107))] H := hP
                  have hD : va_D A [(h0, .inr (3, [.int v1, .int v2, .ref h1, .ref h2, u2008, u2009, u2010, u2011, u2012])), (h1, .inl (c 0, 14, .inl f95)), (h2, .inl (c 0, 14, .inl f107))] := hD
                  refine lv_lsub hx hb dX4_directionsOf_101 ?_
                  refine lv_topl (fun w3393 ew3393 => ?_)
                  refine lv_lstore (lv' := [(9, .long w3393), (8, .int z3385), (3, .int z3384), (7, .int x3312), (6, .int x3313), (4, .long w3314), (0, .ref h0), (1, .long b1)]) hx hb dX4_directionsOf_102 hl (by decide) rfl (fun ls hl => ?_)
                  refine lv_lload hx hb dX4_directionsOf_104 (lv_at hl 5 rfl) ?_
                  refine lv_iload hx hb dX4_directionsOf_106 (lv_at hl 4 rfl) ?_
                  refine lv_iload hx hb dX4_directionsOf_108 (lv_at hl 1 rfl) ?_
                  refine lv_ishr hx hb dX4_directionsOf_110 ?_
                  refine q_shr (X := x3313.toInt) rfl (by omega) (fun z3394 ez3394 hz3394 => ?_)
                  refine lv_iconst (v := 1) hx hb dX4_directionsOf_111 (by decide) ?_
                  refine lv_iand hx hb dX4_directionsOf_112 ?_
                  refine q_mask (X := z3394.toInt) (M := 2) 1 rfl (by decide) (by decide) (by decide) (fun z3395 ez3395 hz3395 => ?_)
                  refine B_if_ne (tgt := 121) (X := z3395.toInt) hx hb dX4_directionsOf_113 (by decide) rfl (fun hc3396 => ?_) (fun hc3396 => ?_)
                  · refine lv_lload hx hb dX4_directionsOf_121 (lv_at hl 0 rfl) ?_
                    refine lv_lneg hx hb dX4_directionsOf_123 ?_
                    refine lv_topl (fun w3397 ew3397 => ?_)
                    refine lv_ladd hx hb dX4_directionsOf_124 ?_
                    refine lv_topl (fun w3398 ew3398 => ?_)
                    refine lv_lstore (lv' := [(4, .long w3398), (9, .long w3393), (8, .int z3385), (3, .int z3384), (7, .int x3312), (6, .int x3313), (0, .ref h0), (1, .long b1)]) hx hb dX4_directionsOf_125 hl (by decide) rfl (fun ls hl => ?_)
                    refine lv_iload hx hb dX4_directionsOf_127 (lv_at hl 5 rfl) ?_
                    refine lv_iconst (v := 1) hx hb dX4_directionsOf_129 (by decide) ?_
                    refine lv_iload hx hb dX4_directionsOf_130 (lv_at hl 2 rfl) ?_
                    refine lv_ishl hx hb dX4_directionsOf_132 ?_
                    refine q_shl (X := 1) (Y := z3385.toInt) (M := 8192) 1 13 (by decide) rfl (by omega) (by omega) (by omega) (by omega) (by decide) (by decide) (by decide) (fun z3399 ez3399 hz3399 => ?_)
                    refine lv_ixor hx hb dX4_directionsOf_133 ?_
                    refine q_xor (X := x3313.toInt) (Y := z3399.toInt) (M := 2147483648) 31 rfl rfl (by decide) (by decide) (by omega) (by omega) (by omega) (by omega) (fun z3400 ez3400 hz3400 => ?_)
                    refine lv_istore (lv' := [(6, .int z3400), (4, .long w3398), (9, .long w3393), (8, .int z3385), (3, .int z3384), (7, .int x3312), (0, .ref h0), (1, .long b1)]) hx hb dX4_directionsOf_134 hl (by decide) rfl (fun ls hl => ?_)
                    obtain ⟨z3401, ez3401, hz3401⟩ : ∃ y : Int32, y = x3312 + Int32.ofInt 1 ∧ y.toInt = x3312.toInt + 1 := ⟨_, rfl, ad_int (A := x3312.toInt) (B := 1) rfl (by decide) (by omega) (by omega)⟩
                    refine lv_iinc (v := z3401) (lv' := [(7, .int z3401), (6, .int z3400), (4, .long w3398), (9, .long w3393), (8, .int z3385), (3, .int z3384), (0, .ref h0), (1, .long b1)]) hx hb dX4_directionsOf_136 hl (k := 5) rfl ez3401.symm (by decide) rfl (fun ls hl => ?_)
                    refine lv_goto (tgt := 44) hx hb dX4_directionsOf_139 (by decide) ?_
                    exact ih2 z3401 ⟨by omega, by omega⟩ z3400 ⟨by omega, i32_hi _⟩ w3398 z3384 (by omega) H locs hP hD hS ls (lv_sub hl [0, 1, 2, 5, 6, 7] rfl)
                  · refine lv_lload hx hb dX4_directionsOf_116 (lv_at hl 0 rfl) ?_
                    refine lv_goto (tgt := 124) hx hb dX4_directionsOf_118 (by decide) ?_
                    refine lv_ladd hx hb dX4_directionsOf_124 ?_
                    refine lv_topl (fun w3402 ew3402 => ?_)
                    refine lv_lstore (lv' := [(4, .long w3402), (9, .long w3393), (8, .int z3385), (3, .int z3384), (7, .int x3312), (6, .int x3313), (0, .ref h0), (1, .long b1)]) hx hb dX4_directionsOf_125 hl (by decide) rfl (fun ls hl => ?_)
                    refine lv_iload hx hb dX4_directionsOf_127 (lv_at hl 5 rfl) ?_
                    refine lv_iconst (v := 1) hx hb dX4_directionsOf_129 (by decide) ?_
                    refine lv_iload hx hb dX4_directionsOf_130 (lv_at hl 2 rfl) ?_
                    refine lv_ishl hx hb dX4_directionsOf_132 ?_
                    refine q_shl (X := 1) (Y := z3385.toInt) (M := 8192) 1 13 (by decide) rfl (by omega) (by omega) (by omega) (by omega) (by decide) (by decide) (by decide) (fun z3403 ez3403 hz3403 => ?_)
                    refine lv_ixor hx hb dX4_directionsOf_133 ?_
                    refine q_xor (X := x3313.toInt) (Y := z3403.toInt) (M := 2147483648) 31 rfl rfl (by decide) (by decide) (by omega) (by omega) (by omega) (by omega) (fun z3404 ez3404 hz3404 => ?_)
                    refine lv_istore (lv' := [(6, .int z3404), (4, .long w3402), (9, .long w3393), (8, .int z3385), (3, .int z3384), (7, .int x3312), (0, .ref h0), (1, .long b1)]) hx hb dX4_directionsOf_134 hl (by decide) rfl (fun ls hl => ?_)
                    obtain ⟨z3405, ez3405, hz3405⟩ : ∃ y : Int32, y = x3312 + Int32.ofInt 1 ∧ y.toInt = x3312.toInt + 1 := ⟨_, rfl, ad_int (A := x3312.toInt) (B := 1) rfl (by decide) (by omega) (by omega)⟩
                    refine lv_iinc (v := z3405) (lv' := [(7, .int z3405), (6, .int z3404), (4, .long w3402), (9, .long w3393), (8, .int z3385), (3, .int z3384), (0, .ref h0), (1, .long b1)]) hx hb dX4_directionsOf_136 hl (k := 5) rfl ez3405.symm (by decide) rfl (fun ls hl => ?_)
                    refine lv_goto (tgt := 44) hx hb dX4_directionsOf_139 (by decide) ?_
                    exact ih2 z3405 ⟨by omega, by omega⟩ z3404 ⟨by omega, i32_hi _⟩ w3402 z3384 (by omega) H locs hP hD hS ls (lv_sub hl [0, 1, 2, 5, 6, 7] rfl)
        have hk0 : (0 : Int32).toInt = 0 := by decide
        have hk0 : (1 : Int32).toInt = 1 := by decide
        exact lp2 (((16385 : Int) - 1).toNat + 1) 1 (by decide) 0 (by decide) w2643 0 (by omega) H locs hP hD hS ls (lv_sub hl [0, 1, 2, 3, 4, 5] rfl)
      · refine lv_lload hx hb dX4_directionsOf_20 (lv_at hl 2 rfl) ?_
        refine lv_aload_n hx hb dX4_directionsOf_22 rfl (lv_at hl 4 rfl) ?_
        refine va_get (D := D) (ci := 3) (v := .ref h1) (C := RX4) (T := TX4) (N := 9) hx hb hts i_X4 hown hK hP 0 rfl rfl 2 (by decide) (hts _ kw_224) (fun _ h9 => h9) rfl dX4_directionsOf_23 ?_
        refine lv_iload hx hb dX4_directionsOf_26 (lv_at hl 0 rfl) ?_
        refine va_iald hx hb hK hP 1 0 rfl rfl (in_of (by omega) (by omega)) dX4_directionsOf_28 ?_
        refine rd gf95 (fun z3406 ez3406 hz3406 => ?_)
        refine fL (run_S (n := 1) ⟨hx, hb, hml, hown, hts⟩ (m_X4_unit l D c H.size z3406) (hP.sub [] rfl) (hD.sub [] (by decide) rfl) hK hN rfl rfl kw_936 kw_937 kw_117 kw_938 (by decide +kernel) ⟨(Nat.le_of_ble_eq_true rfl), (Nat.le_of_ble_eq_true rfl)⟩ rfl hl.1 rfl (Nat.le_of_ble_eq_true rfl) dX4_directionsOf_29 ⟨(Nat.le_of_ble_eq_true rfl), (Nat.le_of_ble_eq_true rfl)⟩) hP hD hS hA [] rfl (fun w3407 H locs t hB hj hS => ?_)
        obtain ⟨hP1, hD1⟩ := hB
        obtain ⟨hP, hD⟩ := hj (wr := [(h0, .inr (3, [.int v1, .int v2, .ref h1, .ref h2, u2008, u2009, u2010, u2011, u2012])), (h1, .inl (c 0, 14, .inl f95)), (h2, .inl (c 0, 14, .inl f107))]) (w1 := []) [0, 1, 2] rfl (by decide) (by decide) hP1 hD1
        have hP : va_P D vwCl [(h0, .inr (3, [.int v1, .int v2, .ref h1, .ref h2, u2008, u2009, u2010, u2011, u2012])), (h1, .inl (c 0, 14, .inl f95)), (h2, .inl (c 0, 14, .inl f107))] H := hP
        have hD : va_D A [(h0, .inr (3, [.int v1, .int v2, .ref h1, .ref h2, u2008, u2009, u2010, u2011, u2012])), (h1, .inl (c 0, 14, .inl f95)), (h2, .inl (c 0, 14, .inl f107))] := hD
        refine lv_ladd hx hb dX4_directionsOf_32 ?_
        refine lv_topl (fun w3408 ew3408 => ?_)
        refine lv_lstore (lv' := [(4, .long w3408), (7, .int x2642), (6, .int 0), (3, .int 0), (0, .ref h0), (1, .long b1)]) hx hb dX4_directionsOf_33 hl (by decide) rfl (fun ls hl => ?_)
        obtain ⟨z3409, ez3409, hz3409⟩ : ∃ y : Int32, y = x2642 + Int32.ofInt 1 ∧ y.toInt = x2642.toInt + 1 := ⟨_, rfl, ad_int (A := x2642.toInt) (B := 1) rfl (by decide) (by omega) (by omega)⟩
        refine lv_iinc (v := z3409) (lv' := [(7, .int z3409), (4, .long w3408), (6, .int 0), (3, .int 0), (0, .ref h0), (1, .long b1)]) hx hb dX4_directionsOf_35 hl (k := 1) rfl ez3409.symm (by decide) rfl (fun ls hl => ?_)
        refine lv_goto (tgt := 11) hx hb dX4_directionsOf_38 (by decide) ?_
        exact ih1 z3409 ⟨by omega, by omega⟩ w3408 (by omega) H locs hP hD hS ls (lv_sub hl [0, 2, 1, 3, 4, 5] rfl)
  have hk0 : (0 : Int32).toInt = 0 := by decide
  exact lp1 (((14 : Int) - 0).toNat + 1) 0 (by decide) 0 (by omega) s.heap [] hP hD hS ls (lv_sub hl [0, 1, 2, 3, 4, 5] rfl)
