set_option maxHeartbeats 4000000 in
set_option maxRecDepth 100000 in
theorem m_X1_has (l : Launch) (D : va_G) (c : Nat → ClassId) (h0 : Nat) (sz : Nat) (v1 : Int32) (u4 : Value) (u5 : Value) (u6 : Value) (u7 : Value) (u8 : Value) (u9 : Value) (u10 : Value) (a1 : Int32) (gv1 : 0 ≤ v1.toInt ∧ v1.toInt ≤ 6) : Met l yX1_has (Cond.code yX1_has cX1_has 2 (some .boolean) :: TB) ({ frames := 0, cells := 0, slots := 0, locals := 0 } : Room) (va_Pc [.ref h0, .int a1] (PW D c [(h0, .inr (1, [.int v1, u4, u5, u6, u7, u8, u9, u10]))] sz)) ((QIx (fun A r t => (0 ≤ r.toInt ∧ r.toInt ≤ 1) ∧ ((r.toInt = 0 ∧ a1.toInt < 0) ∨ (r.toInt = 0 ∧ 0 ≤ a1.toInt ∧ v1.toInt ≤ a1.toInt) ∨ (r.toInt = 1 ∧ 0 ≤ a1.toInt ∧ a1.toInt < v1.toInt)) ∧ va_P D vwCl [(h0, .inr (1, [.int v1, u4, u5, u6, u7, u8, u9, u10]))] t.heap ∧ va_D A [(h0, .inr (1, [.int v1, u4, u5, u6, u7, u8, u9, u10]))])) (va_A [(h0, .inr (1, [.int v1, u4, u5, u6, u7, u8, u9, u10]))] sz)) 0 0 (va_A [(h0, .inr (1, [.int v1, u4, u5, u6, u7, u8, u9, u10]))] sz) := by
  refine start2 (by decide +kernel) (Nat.le_of_ble_eq_true rfl) ?_
  intro p e s m below meth cd A ls Q hx hb hr hml hts hown hlocks hin hA hS hK hP hD hN hl hQ
  have hown : s.vm.findClass RX1 = some m.cls := hown
  have hl : lv_has ls 2 [(0, .ref h0), (1, .int a1)] := hl
  have hP : va_P D vwCl [(h0, .inr (1, [.int v1, u4, u5, u6, u7, u8, u9, u10]))] s.heap := hP
  refine lv_iload_n hx hb dX1_has_0 rfl (lv_at hl 1 rfl) ?_
  refine B_if_lt (tgt := 16) (X := a1.toInt) hx hb dX1_has_1 (by decide) rfl (fun hc1001 => ?_) (fun hc1001 => ?_)
  · refine lv_iconst (v := 0) hx hb dX1_has_16 (by decide) ?_
    have hk0 : (0 : Int32).toInt = 0 := by decide
    exact rI hQ hx hb hr hlocks (by decide) hS (Nat.le_of_ble_eq_true rfl) (Nat.le_of_ble_eq_true rfl) dX1_has_17 (fun t ht => ⟨by decide, (by omega), by rw [ht]; exact hP, hD⟩)
  · refine lv_iload_n hx hb dX1_has_4 rfl (lv_at hl 1 rfl) ?_
    refine lv_aload_n hx hb dX1_has_5 rfl (lv_at hl 0 rfl) ?_
    refine va_get (D := D) (ci := 1) (v := .int v1) (C := RX1) (T := TX1) (N := 8) hx hb hts i_X1 hown hK hP 0 rfl rfl 0 (by decide) (hts _ kw_273) (fun _ h9 => h9) rfl dX1_has_6 ?_
    refine B_icmp_ge (tgt := 16) (X := a1.toInt) (Y := v1.toInt) hx hb dX1_has_9 (by decide) rfl rfl (fun hc1002 => ?_) (fun hc1002 => ?_)
    · refine lv_iconst (v := 0) hx hb dX1_has_16 (by decide) ?_
      have hk0 : (0 : Int32).toInt = 0 := by decide
      exact rI hQ hx hb hr hlocks (by decide) hS (Nat.le_of_ble_eq_true rfl) (Nat.le_of_ble_eq_true rfl) dX1_has_17 (fun t ht => ⟨by decide, (by omega), by rw [ht]; exact hP, hD⟩)
    · refine lv_iconst (v := 1) hx hb dX1_has_12 (by decide) ?_
      refine lv_goto (tgt := 17) hx hb dX1_has_13 (by decide) ?_
      have hk0 : (1 : Int32).toInt = 1 := by decide
      exact rI hQ hx hb hr hlocks (by decide) hS (Nat.le_of_ble_eq_true rfl) (Nat.le_of_ble_eq_true rfl) dX1_has_17 (fun t ht => ⟨by decide, (by omega), by rw [ht]; exact hP, hD⟩)
set_option maxHeartbeats 4000000 in
set_option maxRecDepth 100000 in
theorem m_X1_stands (l : Launch) (D : va_G) (c : Nat → ClassId) (h0 h1 h2 h3 h4 h5 h6 h7 : Nat) (sz : Nat) (v1 : Int32) (f4 : Nat → Int32) (a1 : Int32) (gv1 : 0 ≤ v1.toInt ∧ v1.toInt ≤ 6) (gf4 : Rg f4 (-1) 13) : Met l yX1_stands (Cond.code yX1_stands cX1_stands 2 (some .boolean) :: TB) ({ frames := 1, cells := 0, slots := 0, locals := 21 } : Room) (va_Pc [.ref h0, .int a1] (PW D c [(h0, .inr (1, [.int v1, .ref h6, .ref h2, .ref h5, .ref h1, .ref h7, .ref h3, .ref h4])), (h1, .inl (c 0, 6, .inl f4))] sz)) ((QIx (fun A r t => (0 ≤ r.toInt ∧ r.toInt ≤ 1) ∧ ((r.toInt = 0) ∨ (r.toInt = 0 ∧ 0 ≤ a1.toInt ∧ a1.toInt < v1.toInt ∧ (f4 (Int32.toNatClampNeg a1)).toInt ≠ (-1)) ∨ (r.toInt = 1 ∧ 0 ≤ a1.toInt ∧ a1.toInt < v1.toInt ∧ (f4 (Int32.toNatClampNeg a1)).toInt = (-1))) ∧ va_P D vwCl [(h0, .inr (1, [.int v1, .ref h6, .ref h2, .ref h5, .ref h1, .ref h7, .ref h3, .ref h4])), (h1, .inl (c 0, 6, .inl f4))] t.heap ∧ va_D A [(h0, .inr (1, [.int v1, .ref h6, .ref h2, .ref h5, .ref h1, .ref h7, .ref h3, .ref h4])), (h1, .inl (c 0, 6, .inl f4))])) (va_A [(h0, .inr (1, [.int v1, .ref h6, .ref h2, .ref h5, .ref h1, .ref h7, .ref h3, .ref h4])), (h1, .inl (c 0, 6, .inl f4))] sz)) 0 0 (va_A [(h0, .inr (1, [.int v1, .ref h6, .ref h2, .ref h5, .ref h1, .ref h7, .ref h3, .ref h4])), (h1, .inl (c 0, 6, .inl f4))] sz) := by
  refine start2 (by decide +kernel) (Nat.le_of_ble_eq_true rfl) ?_
  intro p e s m below meth cd A ls Q hx hb hr hml hts hown hlocks hin hA hS hK hP hD hN hl hQ
  have hown : s.vm.findClass RX1 = some m.cls := hown
  have hl : lv_has ls 2 [(0, .ref h0), (1, .int a1)] := hl
  have hP : va_P D vwCl [(h0, .inr (1, [.int v1, .ref h6, .ref h2, .ref h5, .ref h1, .ref h7, .ref h3, .ref h4])), (h1, .inl (c 0, 6, .inl f4))] s.heap := hP
  refine lv_aload_n hx hb dX1_stands_0 rfl (lv_at hl 0 rfl) ?_
  refine lv_iload_n hx hb dX1_stands_1 rfl (lv_at hl 1 rfl) ?_
  refine fI (run_V (n := 1) (ci := 1) ⟨hx, hb, hml, hown, hts⟩ (m_X1_has l D c h0 s.heap.size v1 (.ref h6) (.ref h2) (.ref h5) (.ref h1) (.ref h7) (.ref h3) (.ref h4) a1 gv1) (hP.sub [0] rfl) (hD.sub [0] (by decide) rfl) hK hN rfl rfl kw_787 kw_731 kw_732 kw_118 kw_733 ⟨rfl, by decide +kernel⟩ ⟨(Nat.le_of_ble_eq_true rfl), (Nat.le_of_ble_eq_true rfl)⟩ rfl rfl rfl hl.1 rfl (Nat.le_of_ble_eq_true rfl) dX1_stands_2 ⟨(Nat.le_of_ble_eq_true rfl), (Nat.le_of_ble_eq_true rfl)⟩) hP hD hS hA [0] rfl (fun z1001 H locs t hB hj hS => ?_)
  obtain ⟨hq1002, hq1003, hP1, hD1⟩ := hB
  obtain ⟨hP, hD⟩ := hj (wr := [(h1, .inl (c 0, 6, .inl f4))]) (w1 := [(h0, .inr (1, [.int v1, .ref h6, .ref h2, .ref h5, .ref h1, .ref h7, .ref h3, .ref h4]))]) [1] rfl (by decide) (by decide) hP1 hD1
  have hP : va_P D vwCl [(h1, .inl (c 0, 6, .inl f4)), (h0, .inr (1, [.int v1, .ref h6, .ref h2, .ref h5, .ref h1, .ref h7, .ref h3, .ref h4]))] H := hP
  have hD : va_D A [(h1, .inl (c 0, 6, .inl f4)), (h0, .inr (1, [.int v1, .ref h6, .ref h2, .ref h5, .ref h1, .ref h7, .ref h3, .ref h4]))] := hD
  refine B_if_eq (tgt := 22) (X := z1001.toInt) hx hb dX1_stands_5 (by decide) rfl (fun hc1004 => ?_) (fun hc1004 => ?_)
  · refine lv_iconst (v := 0) hx hb dX1_stands_22 (by decide) ?_
    have hP := hP.sub (ws' := [(h0, .inr (1, [.int v1, .ref h6, .ref h2, .ref h5, .ref h1, .ref h7, .ref h3, .ref h4])), (h1, .inl (c 0, 6, .inl f4))]) [1, 0] rfl
    have hD := hD.sub (ws' := [(h0, .inr (1, [.int v1, .ref h6, .ref h2, .ref h5, .ref h1, .ref h7, .ref h3, .ref h4])), (h1, .inl (c 0, 6, .inl f4))]) [1, 0] (by decide) rfl
    have hk0 : (0 : Int32).toInt = 0 := by decide
    exact rI hQ hx hb hr hlocks (by decide) hS (Nat.le_of_ble_eq_true rfl) (Nat.le_of_ble_eq_true rfl) dX1_stands_23 (fun t ht => ⟨by decide, (by omega), by rw [ht]; exact hP, hD⟩)
  · refine lv_aload_n hx hb dX1_stands_8 rfl (lv_at hl 0 rfl) ?_
    refine va_get (D := D) (ci := 1) (v := .ref h1) (C := RX1) (T := TX1) (N := 8) hx hb hts i_X1 hown hK hP 1 rfl rfl 4 (by decide) (hts _ kw_293) (fun _ h9 => h9) rfl dX1_stands_9 ?_
    refine lv_iload_n hx hb dX1_stands_12 rfl (lv_at hl 1 rfl) ?_
    refine va_iald hx hb hK hP 0 0 rfl rfl (in_of (by omega) (by omega)) dX1_stands_13 ?_
    refine rd gf4 (fun z1005 ez1005 hz1005 => ?_)
    refine lv_iconst (v := (-1)) hx hb dX1_stands_14 (by decide) ?_
    refine B_icmp_ne (tgt := 22) (X := z1005.toInt) (Y := (-1)) hx hb dX1_stands_15 (by decide) rfl (by decide) (fun hc1006 => ?_) (fun hc1006 => ?_)
    · refine lv_iconst (v := 0) hx hb dX1_stands_22 (by decide) ?_
      have hP := hP.sub (ws' := [(h0, .inr (1, [.int v1, .ref h6, .ref h2, .ref h5, .ref h1, .ref h7, .ref h3, .ref h4])), (h1, .inl (c 0, 6, .inl f4))]) [1, 0] rfl
      have hD := hD.sub (ws' := [(h0, .inr (1, [.int v1, .ref h6, .ref h2, .ref h5, .ref h1, .ref h7, .ref h3, .ref h4])), (h1, .inl (c 0, 6, .inl f4))]) [1, 0] (by decide) rfl
      have etz1005 : z1005.toInt = (f4 (Int32.toNatClampNeg a1)).toInt := congrArg Int32.toInt ez1005
      have hk0 : (0 : Int32).toInt = 0 := by decide
      exact rI hQ hx hb hr hlocks (by decide) hS (Nat.le_of_ble_eq_true rfl) (Nat.le_of_ble_eq_true rfl) dX1_stands_23 (fun t ht => ⟨by decide, (by omega), by rw [ht]; exact hP, hD⟩)
    · refine lv_iconst (v := 1) hx hb dX1_stands_18 (by decide) ?_
      refine lv_goto (tgt := 23) hx hb dX1_stands_19 (by decide) ?_
      have hP := hP.sub (ws' := [(h0, .inr (1, [.int v1, .ref h6, .ref h2, .ref h5, .ref h1, .ref h7, .ref h3, .ref h4])), (h1, .inl (c 0, 6, .inl f4))]) [1, 0] rfl
      have hD := hD.sub (ws' := [(h0, .inr (1, [.int v1, .ref h6, .ref h2, .ref h5, .ref h1, .ref h7, .ref h3, .ref h4])), (h1, .inl (c 0, 6, .inl f4))]) [1, 0] (by decide) rfl
      have etz1005 : z1005.toInt = (f4 (Int32.toNatClampNeg a1)).toInt := congrArg Int32.toInt ez1005
      have hk0 : (1 : Int32).toInt = 1 := by decide
      exact rI hQ hx hb hr hlocks (by decide) hS (Nat.le_of_ble_eq_true rfl) (Nat.le_of_ble_eq_true rfl) dX1_stands_23 (fun t ht => ⟨by decide, (by omega), by rw [ht]; exact hP, hD⟩)
set_option maxHeartbeats 4000000 in
set_option maxRecDepth 100000 in
theorem m_X1_standing (l : Launch) (D : va_G) (c : Nat → ClassId) (h0 h1 : Nat) (sz : Nat) (v1 : Int32) (u66 : Value) (u67 : Value) (u68 : Value) (u69 : Value) (u70 : Value) (u71 : Value) (f3 : Nat → Int32) (gv1 : 0 ≤ v1.toInt ∧ v1.toInt ≤ 6) (gf3 : Rg f3 (-1) 13) : Met l yX1_standing (Cond.code yX1_standing cX1_standing 3 (some .int) :: TB) ({ frames := 0, cells := 0, slots := 0, locals := 0 } : Room) (va_Pc [.ref h0] (PW D c [(h0, .inr (1, [.int v1, u66, u67, u68, .ref h1, u69, u70, u71])), (h1, .inl (c 0, 6, .inl f3))] sz)) ((QIx (fun A r t => (0 ≤ r.toInt ∧ r.toInt ≤ 2147483647) ∧ va_P D vwCl [(h0, .inr (1, [.int v1, u66, u67, u68, .ref h1, u69, u70, u71])), (h1, .inl (c 0, 6, .inl f3))] t.heap ∧ va_D A [(h0, .inr (1, [.int v1, u66, u67, u68, .ref h1, u69, u70, u71])), (h1, .inl (c 0, 6, .inl f3))])) (va_A [(h0, .inr (1, [.int v1, u66, u67, u68, .ref h1, u69, u70, u71])), (h1, .inl (c 0, 6, .inl f3))] sz)) 0 0 (va_A [(h0, .inr (1, [.int v1, u66, u67, u68, .ref h1, u69, u70, u71])), (h1, .inl (c 0, 6, .inl f3))] sz) := by
  refine start2 (by decide +kernel) (Nat.le_of_ble_eq_true rfl) ?_
  intro p e s m below meth cd A ls Q hx hb hr hml hts hown hlocks hin hA hS hK hP hD hN hl hQ
  have hown : s.vm.findClass RX1 = some m.cls := hown
  have hl : lv_has ls 3 [(0, .ref h0)] := hl
  have hP : va_P D vwCl [(h0, .inr (1, [.int v1, u66, u67, u68, .ref h1, u69, u70, u71])), (h1, .inl (c 0, 6, .inl f3))] s.heap := hP
  refine lv_iconst (v := 0) hx hb dX1_standing_0 (by decide) ?_
  refine lv_istore_n (lv' := [(1, .int 0), (0, .ref h0)]) hx hb dX1_standing_1 rfl hl (by decide) rfl (fun ls hl => ?_)
  refine lv_iconst (v := 0) hx hb dX1_standing_2 (by decide) ?_
  refine lv_istore_n (lv' := [(2, .int 0), (1, .int 0), (0, .ref h0)]) hx hb dX1_standing_3 rfl hl (by decide) rfl (fun ls hl => ?_)
  have lp1 : ∀ (n1 : Nat), ∀ (x1054 : Int32) (hx1054 : 0 ≤ x1054.toInt ∧ x1054.toInt ≤ 6) (x1055 : Int32) (hx1055 : 0 ≤ x1055.toInt ∧ x1055.toInt ≤ 2147483647) (hm1 : (6 : Int) - x1054.toInt < (n1 : Int)) (H : Heap) (locs : List Loc) (hP : va_P D vwCl [(h0, .inr (1, [.int v1, u66, u67, u68, .ref h1, u69, u70, u71])), (h1, .inl (c 0, 6, .inl f3))] H) (hD : va_D A [(h0, .inr (1, [.int v1, u66, u67, u68, .ref h1, u69, u70, u71])), (h1, .inl (c 0, 6, .inl f3))]) (hS : va_S A s.heap H locs) (ls : Array Slot) (hl : lv_has ls 3 [(2, .int x1054), (1, .int x1055), (0, .ref h0)]), W p l e ({ frames := 0, cells := 0, slots := 0, locals := 0 } : Room) s m [.ref h0].toArray below meth cd H locs 0 0 Q (F0 m 4 ls []) := by
    intro n1
    induction n1 with
    | zero =>
      intro x1054 hx1054 x1055 hx1055 hm1 H locs hP hD hS ls hl
      exact absurd hm1 (by omega)
    | succ n1 ih1 =>
      intro x1054 hx1054 x1055 hx1055 hm1 H locs hP hD hS ls hl
      refine lv_iload_n hx hb dX1_standing_4 rfl (lv_at hl 0 rfl) ?_
      refine lv_aload_n hx hb dX1_standing_5 rfl (lv_at hl 2 rfl) ?_
      refine va_get (D := D) (ci := 1) (v := .int v1) (C := RX1) (T := TX1) (N := 8) hx hb hts i_X1 hown hK hP 0 rfl rfl 0 (by decide) (hts _ kw_273) (fun _ h9 => h9) rfl dX1_standing_6 ?_
      refine B_icmp_ge (tgt := 38) (X := x1054.toInt) (Y := v1.toInt) hx hb dX1_standing_9 (by decide) rfl rfl (fun hc1064 => ?_) (fun hc1064 => ?_)
      · refine lv_iload_n hx hb dX1_standing_38 rfl (lv_at hl 1 rfl) ?_
        exact rI hQ hx hb hr hlocks rfl hS (Nat.le_of_ble_eq_true rfl) (Nat.le_of_ble_eq_true rfl) dX1_standing_39 (fun t ht => ⟨hx1055, by rw [ht]; exact hP, hD⟩)
      · refine lv_iload_n hx hb dX1_standing_12 rfl (lv_at hl 1 rfl) ?_
        refine lv_aload_n hx hb dX1_standing_13 rfl (lv_at hl 2 rfl) ?_
        refine va_get (D := D) (ci := 1) (v := .ref h1) (C := RX1) (T := TX1) (N := 8) hx hb hts i_X1 hown hK hP 0 rfl rfl 4 (by decide) (hts _ kw_293) (fun _ h9 => h9) rfl dX1_standing_14 ?_
        refine lv_iload_n hx hb dX1_standing_17 rfl (lv_at hl 0 rfl) ?_
        refine va_iald hx hb hK hP 1 0 rfl rfl (in_of (by omega) (by omega)) dX1_standing_18 ?_
        refine rd gf3 (fun z1065 ez1065 hz1065 => ?_)
        refine lv_iconst (v := (-1)) hx hb dX1_standing_19 (by decide) ?_
        refine B_icmp_ne (tgt := 29) (X := z1065.toInt) (Y := (-1)) hx hb dX1_standing_20 (by decide) rfl (by decide) (fun hc1066 => ?_) (fun hc1066 => ?_)
        · refine lv_iconst (v := 0) hx hb dX1_standing_29 (by decide) ?_
          refine lv_ior hx hb dX1_standing_30 ?_
          refine q_or (X := x1055.toInt) (Y := 0) (M := 2147483648) 31 rfl (by decide) (by decide) (by decide) (by omega) (by omega) (by omega) (by omega) (fun z1067 ez1067 hz1067 => ?_)
          refine lv_istore_n (lv' := [(1, .int z1067), (2, .int x1054), (0, .ref h0)]) hx hb dX1_standing_31 rfl hl (by decide) rfl (fun ls hl => ?_)
          obtain ⟨z1068, ez1068, hz1068⟩ : ∃ y : Int32, y = x1054 + Int32.ofInt 1 ∧ y.toInt = x1054.toInt + 1 := ⟨_, rfl, ad_int (A := x1054.toInt) (B := 1) rfl (by decide) (by omega) (by omega)⟩
          refine lv_iinc (v := z1068) (lv' := [(2, .int z1068), (1, .int z1067), (0, .ref h0)]) hx hb dX1_standing_32 hl (k := 1) rfl ez1068.symm (by decide) rfl (fun ls hl => ?_)
          refine lv_goto (tgt := 4) hx hb dX1_standing_35 (by decide) ?_
          exact ih1 z1068 ⟨by omega, by omega⟩ z1067 ⟨by omega, i32_hi _⟩ (by omega) H locs hP hD hS ls (lv_sub hl [0, 1, 2] rfl)
        · refine lv_iconst (v := 1) hx hb dX1_standing_23 (by decide) ?_
          refine lv_iload_n hx hb dX1_standing_24 rfl (lv_at hl 0 rfl) ?_
          refine lv_ishl hx hb dX1_standing_25 ?_
          refine q_shl (X := 1) (Y := x1054.toInt) (M := 32) 1 5 (by decide) rfl (by omega) (by omega) (by omega) (by omega) (by decide) (by decide) (by decide) (fun z1069 ez1069 hz1069 => ?_)
          refine lv_goto (tgt := 30) hx hb dX1_standing_26 (by decide) ?_
          refine lv_ior hx hb dX1_standing_30 ?_
          refine q_or (X := x1055.toInt) (Y := z1069.toInt) (M := 2147483648) 31 rfl rfl (by decide) (by decide) (by omega) (by omega) (by omega) (by omega) (fun z1070 ez1070 hz1070 => ?_)
          refine lv_istore_n (lv' := [(1, .int z1070), (2, .int x1054), (0, .ref h0)]) hx hb dX1_standing_31 rfl hl (by decide) rfl (fun ls hl => ?_)
          obtain ⟨z1071, ez1071, hz1071⟩ : ∃ y : Int32, y = x1054 + Int32.ofInt 1 ∧ y.toInt = x1054.toInt + 1 := ⟨_, rfl, ad_int (A := x1054.toInt) (B := 1) rfl (by decide) (by omega) (by omega)⟩
          refine lv_iinc (v := z1071) (lv' := [(2, .int z1071), (1, .int z1070), (0, .ref h0)]) hx hb dX1_standing_32 hl (k := 1) rfl ez1071.symm (by decide) rfl (fun ls hl => ?_)
          refine lv_goto (tgt := 4) hx hb dX1_standing_35 (by decide) ?_
          exact ih1 z1071 ⟨by omega, by omega⟩ z1070 ⟨by omega, i32_hi _⟩ (by omega) H locs hP hD hS ls (lv_sub hl [0, 1, 2] rfl)
  have hk0 : (0 : Int32).toInt = 0 := by decide
  exact lp1 (((6 : Int) - 0).toNat + 1) 0 (by decide) 0 (by decide) (by omega) s.heap [] hP hD hS ls (lv_sub hl [0, 1, 2] rfl)
set_option maxHeartbeats 4000000 in
set_option maxRecDepth 100000 in
theorem m_X1_busyWays (l : Launch) (D : va_G) (c : Nat → ClassId) (h0 h1 : Nat) (sz : Nat) (v1 : Int32) (u75 : Value) (u76 : Value) (u77 : Value) (u78 : Value) (u79 : Value) (u80 : Value) (f3 : Nat → Int32) (gv1 : 0 ≤ v1.toInt ∧ v1.toInt ≤ 6) (gf3 : Rg f3 (-1) 13) : Met l yX1_busyWays (Cond.code yX1_busyWays cX1_busyWays 3 (some .int) :: TB) ({ frames := 0, cells := 0, slots := 0, locals := 0 } : Room) (va_Pc [.ref h0] (PW D c [(h0, .inr (1, [.int v1, u75, u76, u77, .ref h1, u78, u79, u80])), (h1, .inl (c 0, 6, .inl f3))] sz)) ((QIx (fun A r t => va_P D vwCl [(h0, .inr (1, [.int v1, u75, u76, u77, .ref h1, u78, u79, u80])), (h1, .inl (c 0, 6, .inl f3))] t.heap ∧ va_D A [(h0, .inr (1, [.int v1, u75, u76, u77, .ref h1, u78, u79, u80])), (h1, .inl (c 0, 6, .inl f3))])) (va_A [(h0, .inr (1, [.int v1, u75, u76, u77, .ref h1, u78, u79, u80])), (h1, .inl (c 0, 6, .inl f3))] sz)) 0 0 (va_A [(h0, .inr (1, [.int v1, u75, u76, u77, .ref h1, u78, u79, u80])), (h1, .inl (c 0, 6, .inl f3))] sz) := by
  refine start2 (by decide +kernel) (Nat.le_of_ble_eq_true rfl) ?_
  intro p e s m below meth cd A ls Q hx hb hr hml hts hown hlocks hin hA hS hK hP hD hN hl hQ
  have hown : s.vm.findClass RX1 = some m.cls := hown
  have hl : lv_has ls 3 [(0, .ref h0)] := hl
  have hP : va_P D vwCl [(h0, .inr (1, [.int v1, u75, u76, u77, .ref h1, u78, u79, u80])), (h1, .inl (c 0, 6, .inl f3))] s.heap := hP
  refine lv_iconst (v := 0) hx hb dX1_busyWays_0 (by decide) ?_
  refine lv_istore_n (lv' := [(1, .int 0), (0, .ref h0)]) hx hb dX1_busyWays_1 rfl hl (by decide) rfl (fun ls hl => ?_)
  refine lv_iconst (v := 0) hx hb dX1_busyWays_2 (by decide) ?_
  refine lv_istore_n (lv' := [(2, .int 0), (1, .int 0), (0, .ref h0)]) hx hb dX1_busyWays_3 rfl hl (by decide) rfl (fun ls hl => ?_)
  have lp1 : ∀ (n1 : Nat), ∀ (x1062 : Int32) (hx1062 : 0 ≤ x1062.toInt ∧ x1062.toInt ≤ 6) (x1063 : Int32) (hm1 : (6 : Int) - x1062.toInt < (n1 : Int)) (H : Heap) (locs : List Loc) (hP : va_P D vwCl [(h0, .inr (1, [.int v1, u75, u76, u77, .ref h1, u78, u79, u80])), (h1, .inl (c 0, 6, .inl f3))] H) (hD : va_D A [(h0, .inr (1, [.int v1, u75, u76, u77, .ref h1, u78, u79, u80])), (h1, .inl (c 0, 6, .inl f3))]) (hS : va_S A s.heap H locs) (ls : Array Slot) (hl : lv_has ls 3 [(2, .int x1062), (1, .int x1063), (0, .ref h0)]), W p l e ({ frames := 0, cells := 0, slots := 0, locals := 0 } : Room) s m [.ref h0].toArray below meth cd H locs 0 0 Q (F0 m 4 ls []) := by
    intro n1
    induction n1 with
    | zero =>
      intro x1062 hx1062 x1063 hm1 H locs hP hD hS ls hl
      exact absurd hm1 (by omega)
    | succ n1 ih1 =>
      intro x1062 hx1062 x1063 hm1 H locs hP hD hS ls hl
      refine lv_iload_n hx hb dX1_busyWays_4 rfl (lv_at hl 0 rfl) ?_
      refine lv_aload_n hx hb dX1_busyWays_5 rfl (lv_at hl 2 rfl) ?_
      refine va_get (D := D) (ci := 1) (v := .int v1) (C := RX1) (T := TX1) (N := 8) hx hb hts i_X1 hown hK hP 0 rfl rfl 0 (by decide) (hts _ kw_273) (fun _ h9 => h9) rfl dX1_busyWays_6 ?_
      refine B_icmp_ge (tgt := 43) (X := x1062.toInt) (Y := v1.toInt) hx hb dX1_busyWays_9 (by decide) rfl rfl (fun hc1073 => ?_) (fun hc1073 => ?_)
      · refine lv_iload_n hx hb dX1_busyWays_43 rfl (lv_at hl 1 rfl) ?_
        exact rI hQ hx hb hr hlocks rfl hS (Nat.le_of_ble_eq_true rfl) (Nat.le_of_ble_eq_true rfl) dX1_busyWays_44 (fun t ht => ⟨by rw [ht]; exact hP, hD⟩)
      · refine lv_iload_n hx hb dX1_busyWays_12 rfl (lv_at hl 1 rfl) ?_
        refine lv_aload_n hx hb dX1_busyWays_13 rfl (lv_at hl 2 rfl) ?_
        refine va_get (D := D) (ci := 1) (v := .ref h1) (C := RX1) (T := TX1) (N := 8) hx hb hts i_X1 hown hK hP 0 rfl rfl 4 (by decide) (hts _ kw_293) (fun _ h9 => h9) rfl dX1_busyWays_14 ?_
        refine lv_iload_n hx hb dX1_busyWays_17 rfl (lv_at hl 0 rfl) ?_
        refine va_iald hx hb hK hP 1 0 rfl rfl (in_of (by omega) (by omega)) dX1_busyWays_18 ?_
        refine rd gf3 (fun z1074 ez1074 hz1074 => ?_)
        refine lv_iconst (v := (-1)) hx hb dX1_busyWays_19 (by decide) ?_
        refine B_icmp_ne (tgt := 27) (X := z1074.toInt) (Y := (-1)) hx hb dX1_busyWays_20 (by decide) rfl (by decide) (fun hc1075 => ?_) (fun hc1075 => ?_)
        · refine lv_iconst (v := 1) hx hb dX1_busyWays_27 (by decide) ?_
          refine lv_aload_n hx hb dX1_busyWays_28 rfl (lv_at hl 2 rfl) ?_
          refine va_get (D := D) (ci := 1) (v := .ref h1) (C := RX1) (T := TX1) (N := 8) hx hb hts i_X1 hown hK hP 0 rfl rfl 4 (by decide) (hts _ kw_293) (fun _ h9 => h9) rfl dX1_busyWays_29 ?_
          refine lv_iload_n hx hb dX1_busyWays_32 rfl (lv_at hl 0 rfl) ?_
          refine va_iald hx hb hK hP 1 0 rfl rfl (in_of (by omega) (by omega)) dX1_busyWays_33 ?_
          refine rd gf3 (fun z1076 ez1076 hz1076 => ?_)
          refine lv_ishl hx hb dX1_busyWays_34 ?_
          refine o_any (fun z1077 ez1077 => ?_)
          refine lv_ior hx hb dX1_busyWays_35 ?_
          refine o_any (fun z1078 ez1078 => ?_)
          refine lv_istore_n (lv' := [(1, .int z1078), (2, .int x1062), (0, .ref h0)]) hx hb dX1_busyWays_36 rfl hl (by decide) rfl (fun ls hl => ?_)
          obtain ⟨z1079, ez1079, hz1079⟩ : ∃ y : Int32, y = x1062 + Int32.ofInt 1 ∧ y.toInt = x1062.toInt + 1 := ⟨_, rfl, ad_int (A := x1062.toInt) (B := 1) rfl (by decide) (by omega) (by omega)⟩
          refine lv_iinc (v := z1079) (lv' := [(2, .int z1079), (1, .int z1078), (0, .ref h0)]) hx hb dX1_busyWays_37 hl (k := 1) rfl ez1079.symm (by decide) rfl (fun ls hl => ?_)
          refine lv_goto (tgt := 4) hx hb dX1_busyWays_40 (by decide) ?_
          exact ih1 z1079 ⟨by omega, by omega⟩ z1078 (by omega) H locs hP hD hS ls (lv_sub hl [0, 1, 2] rfl)
        · refine lv_iconst (v := 0) hx hb dX1_busyWays_23 (by decide) ?_
          refine lv_goto (tgt := 35) hx hb dX1_busyWays_24 (by decide) ?_
          refine lv_ior hx hb dX1_busyWays_35 ?_
          refine o_any (fun z1080 ez1080 => ?_)
          refine lv_istore_n (lv' := [(1, .int z1080), (2, .int x1062), (0, .ref h0)]) hx hb dX1_busyWays_36 rfl hl (by decide) rfl (fun ls hl => ?_)
          obtain ⟨z1081, ez1081, hz1081⟩ : ∃ y : Int32, y = x1062 + Int32.ofInt 1 ∧ y.toInt = x1062.toInt + 1 := ⟨_, rfl, ad_int (A := x1062.toInt) (B := 1) rfl (by decide) (by omega) (by omega)⟩
          refine lv_iinc (v := z1081) (lv' := [(2, .int z1081), (1, .int z1080), (0, .ref h0)]) hx hb dX1_busyWays_37 hl (k := 1) rfl ez1081.symm (by decide) rfl (fun ls hl => ?_)
          refine lv_goto (tgt := 4) hx hb dX1_busyWays_40 (by decide) ?_
          exact ih1 z1081 ⟨by omega, by omega⟩ z1080 (by omega) H locs hP hD hS ls (lv_sub hl [0, 1, 2] rfl)
  have hk0 : (0 : Int32).toInt = 0 := by decide
  exact lp1 (((6 : Int) - 0).toNat + 1) 0 (by decide) 0 (by omega) s.heap [] hP hD hS ls (lv_sub hl [0, 1, 2] rfl)
set_option maxHeartbeats 4000000 in
set_option maxRecDepth 100000 in
theorem m_X1_countOn (l : Launch) (D : va_G) (c : Nat → ClassId) (h0 h1 : Nat) (sz : Nat) (v1 : Int32) (u69 : Value) (u70 : Value) (u71 : Value) (u72 : Value) (u73 : Value) (u74 : Value) (f3 : Nat → Int32) (a1 : Int32) (gv1 : 0 ≤ v1.toInt ∧ v1.toInt ≤ 6) (gf3 : Rg f3 (-1) 13) : Met l yX1_countOn (Cond.code yX1_countOn cX1_countOn 4 (some .int) :: TB) ({ frames := 0, cells := 0, slots := 0, locals := 0 } : Room) (va_Pc [.ref h0, .int a1] (PW D c [(h0, .inr (1, [.int v1, u69, u70, u71, .ref h1, u72, u73, u74])), (h1, .inl (c 0, 6, .inl f3))] sz)) ((QIx (fun A r t => va_P D vwCl [(h0, .inr (1, [.int v1, u69, u70, u71, .ref h1, u72, u73, u74])), (h1, .inl (c 0, 6, .inl f3))] t.heap ∧ va_D A [(h0, .inr (1, [.int v1, u69, u70, u71, .ref h1, u72, u73, u74])), (h1, .inl (c 0, 6, .inl f3))])) (va_A [(h0, .inr (1, [.int v1, u69, u70, u71, .ref h1, u72, u73, u74])), (h1, .inl (c 0, 6, .inl f3))] sz)) 0 0 (va_A [(h0, .inr (1, [.int v1, u69, u70, u71, .ref h1, u72, u73, u74])), (h1, .inl (c 0, 6, .inl f3))] sz) := by
  refine start2 (by decide +kernel) (Nat.le_of_ble_eq_true rfl) ?_
  intro p e s m below meth cd A ls Q hx hb hr hml hts hown hlocks hin hA hS hK hP hD hN hl hQ
  have hown : s.vm.findClass RX1 = some m.cls := hown
  have hl : lv_has ls 4 [(0, .ref h0), (1, .int a1)] := hl
  have hP : va_P D vwCl [(h0, .inr (1, [.int v1, u69, u70, u71, .ref h1, u72, u73, u74])), (h1, .inl (c 0, 6, .inl f3))] s.heap := hP
  refine lv_iconst (v := 0) hx hb dX1_countOn_0 (by decide) ?_
  refine lv_istore_n (lv' := [(2, .int 0), (0, .ref h0), (1, .int a1)]) hx hb dX1_countOn_1 rfl hl (by decide) rfl (fun ls hl => ?_)
  refine lv_iconst (v := 0) hx hb dX1_countOn_2 (by decide) ?_
  refine lv_istore_n (lv' := [(3, .int 0), (2, .int 0), (0, .ref h0), (1, .int a1)]) hx hb dX1_countOn_3 rfl hl (by decide) rfl (fun ls hl => ?_)
  have lp1 : ∀ (n1 : Nat), ∀ (x1058 : Int32) (hx1058 : 0 ≤ x1058.toInt ∧ x1058.toInt ≤ 6) (x1059 : Int32) (hm1 : (6 : Int) - x1058.toInt < (n1 : Int)) (H : Heap) (locs : List Loc) (hP : va_P D vwCl [(h0, .inr (1, [.int v1, u69, u70, u71, .ref h1, u72, u73, u74])), (h1, .inl (c 0, 6, .inl f3))] H) (hD : va_D A [(h0, .inr (1, [.int v1, u69, u70, u71, .ref h1, u72, u73, u74])), (h1, .inl (c 0, 6, .inl f3))]) (hS : va_S A s.heap H locs) (ls : Array Slot) (hl : lv_has ls 4 [(3, .int x1058), (2, .int x1059), (0, .ref h0), (1, .int a1)]), W p l e ({ frames := 0, cells := 0, slots := 0, locals := 0 } : Room) s m [.ref h0, .int a1].toArray below meth cd H locs 0 0 Q (F0 m 4 ls []) := by
    intro n1
    induction n1 with
    | zero =>
      intro x1058 hx1058 x1059 hm1 H locs hP hD hS ls hl
      exact absurd hm1 (by omega)
    | succ n1 ih1 =>
      intro x1058 hx1058 x1059 hm1 H locs hP hD hS ls hl
      refine lv_iload_n hx hb dX1_countOn_4 rfl (lv_at hl 0 rfl) ?_
      refine lv_aload_n hx hb dX1_countOn_5 rfl (lv_at hl 2 rfl) ?_
      refine va_get (D := D) (ci := 1) (v := .int v1) (C := RX1) (T := TX1) (N := 8) hx hb hts i_X1 hown hK hP 0 rfl rfl 0 (by decide) (hts _ kw_273) (fun _ h9 => h9) rfl dX1_countOn_6 ?_
      refine B_icmp_ge (tgt := 36) (X := x1058.toInt) (Y := v1.toInt) hx hb dX1_countOn_9 (by decide) rfl rfl (fun hc1067 => ?_) (fun hc1067 => ?_)
      · refine lv_iload_n hx hb dX1_countOn_36 rfl (lv_at hl 1 rfl) ?_
        exact rI hQ hx hb hr hlocks rfl hS (Nat.le_of_ble_eq_true rfl) (Nat.le_of_ble_eq_true rfl) dX1_countOn_37 (fun t ht => ⟨by rw [ht]; exact hP, hD⟩)
      · refine lv_iload_n hx hb dX1_countOn_12 rfl (lv_at hl 1 rfl) ?_
        refine lv_aload_n hx hb dX1_countOn_13 rfl (lv_at hl 2 rfl) ?_
        refine va_get (D := D) (ci := 1) (v := .ref h1) (C := RX1) (T := TX1) (N := 8) hx hb hts i_X1 hown hK hP 0 rfl rfl 4 (by decide) (hts _ kw_293) (fun _ h9 => h9) rfl dX1_countOn_14 ?_
        refine lv_iload_n hx hb dX1_countOn_17 rfl (lv_at hl 0 rfl) ?_
        refine va_iald hx hb hK hP 1 0 rfl rfl (in_of (by omega) (by omega)) dX1_countOn_18 ?_
        refine rd gf3 (fun z1068 ez1068 hz1068 => ?_)
        refine lv_iload_n hx hb dX1_countOn_19 rfl (lv_at hl 3 rfl) ?_
        refine B_icmp_ne (tgt := 27) (X := z1068.toInt) (Y := a1.toInt) hx hb dX1_countOn_20 (by decide) rfl rfl (fun hc1069 => ?_) (fun hc1069 => ?_)
        · refine lv_iconst (v := 0) hx hb dX1_countOn_27 (by decide) ?_
          refine lv_iadd hx hb dX1_countOn_28 ?_
          refine q_add (X := x1059.toInt) (Y := 0) rfl (by decide) (by have q := i32_lo x1059; have q := i32_hi x1059; omega) (by have q := i32_lo x1059; have q := i32_hi x1059; omega) (fun z1070 ez1070 hz1070 => ?_)
          refine lv_istore_n (lv' := [(2, .int z1070), (3, .int x1058), (0, .ref h0), (1, .int a1)]) hx hb dX1_countOn_29 rfl hl (by decide) rfl (fun ls hl => ?_)
          obtain ⟨z1071, ez1071, hz1071⟩ : ∃ y : Int32, y = x1058 + Int32.ofInt 1 ∧ y.toInt = x1058.toInt + 1 := ⟨_, rfl, ad_int (A := x1058.toInt) (B := 1) rfl (by decide) (by omega) (by omega)⟩
          refine lv_iinc (v := z1071) (lv' := [(3, .int z1071), (2, .int z1070), (0, .ref h0), (1, .int a1)]) hx hb dX1_countOn_30 hl (k := 1) rfl ez1071.symm (by decide) rfl (fun ls hl => ?_)
          refine lv_goto (tgt := 4) hx hb dX1_countOn_33 (by decide) ?_
          exact ih1 z1071 ⟨by omega, by omega⟩ z1070 (by omega) H locs hP hD hS ls (lv_sub hl [0, 1, 2, 3] rfl)
        · refine lv_iconst (v := 1) hx hb dX1_countOn_23 (by decide) ?_
          refine lv_goto (tgt := 28) hx hb dX1_countOn_24 (by decide) ?_
          refine lv_iadd hx hb dX1_countOn_28 ?_
          refine o_any (fun z1072 ez1072 => ?_)
          refine lv_istore_n (lv' := [(2, .int z1072), (3, .int x1058), (0, .ref h0), (1, .int a1)]) hx hb dX1_countOn_29 rfl hl (by decide) rfl (fun ls hl => ?_)
          obtain ⟨z1073, ez1073, hz1073⟩ : ∃ y : Int32, y = x1058 + Int32.ofInt 1 ∧ y.toInt = x1058.toInt + 1 := ⟨_, rfl, ad_int (A := x1058.toInt) (B := 1) rfl (by decide) (by omega) (by omega)⟩
          refine lv_iinc (v := z1073) (lv' := [(3, .int z1073), (2, .int z1072), (0, .ref h0), (1, .int a1)]) hx hb dX1_countOn_30 hl (k := 1) rfl ez1073.symm (by decide) rfl (fun ls hl => ?_)
          refine lv_goto (tgt := 4) hx hb dX1_countOn_33 (by decide) ?_
          exact ih1 z1073 ⟨by omega, by omega⟩ z1072 (by omega) H locs hP hD hS ls (lv_sub hl [0, 1, 2, 3] rfl)
  have hk0 : (0 : Int32).toInt = 0 := by decide
  exact lp1 (((6 : Int) - 0).toNat + 1) 0 (by decide) 0 (by omega) s.heap [] hP hD hS ls (lv_sub hl [0, 1, 2, 3] rfl)
set_option maxHeartbeats 4000000 in
set_option maxRecDepth 100000 in
theorem m_X1_countAt (l : Launch) (D : va_G) (c : Nat → ClassId) (h0 h1 : Nat) (sz : Nat) (v1 : Int32) (u69 : Value) (u70 : Value) (u71 : Value) (u72 : Value) (u73 : Value) (u74 : Value) (f3 : Nat → Int32) (a1 : Int32) (gv1 : 0 ≤ v1.toInt ∧ v1.toInt ≤ 6) (gf3 : Rg f3 0 8) : Met l yX1_countAt (Cond.code yX1_countAt cX1_countAt 4 (some .int) :: TB) ({ frames := 0, cells := 0, slots := 0, locals := 0 } : Room) (va_Pc [.ref h0, .int a1] (PW D c [(h0, .inr (1, [.int v1, .ref h1, u69, u70, u71, u72, u73, u74])), (h1, .inl (c 0, 6, .inl f3))] sz)) ((QIx (fun A r t => va_P D vwCl [(h0, .inr (1, [.int v1, .ref h1, u69, u70, u71, u72, u73, u74])), (h1, .inl (c 0, 6, .inl f3))] t.heap ∧ va_D A [(h0, .inr (1, [.int v1, .ref h1, u69, u70, u71, u72, u73, u74])), (h1, .inl (c 0, 6, .inl f3))])) (va_A [(h0, .inr (1, [.int v1, .ref h1, u69, u70, u71, u72, u73, u74])), (h1, .inl (c 0, 6, .inl f3))] sz)) 0 0 (va_A [(h0, .inr (1, [.int v1, .ref h1, u69, u70, u71, u72, u73, u74])), (h1, .inl (c 0, 6, .inl f3))] sz) := by
  refine start2 (by decide +kernel) (Nat.le_of_ble_eq_true rfl) ?_
  intro p e s m below meth cd A ls Q hx hb hr hml hts hown hlocks hin hA hS hK hP hD hN hl hQ
  have hown : s.vm.findClass RX1 = some m.cls := hown
  have hl : lv_has ls 4 [(0, .ref h0), (1, .int a1)] := hl
  have hP : va_P D vwCl [(h0, .inr (1, [.int v1, .ref h1, u69, u70, u71, u72, u73, u74])), (h1, .inl (c 0, 6, .inl f3))] s.heap := hP
  refine lv_iconst (v := 0) hx hb dX1_countAt_0 (by decide) ?_
  refine lv_istore_n (lv' := [(2, .int 0), (0, .ref h0), (1, .int a1)]) hx hb dX1_countAt_1 rfl hl (by decide) rfl (fun ls hl => ?_)
  refine lv_iconst (v := 0) hx hb dX1_countAt_2 (by decide) ?_
  refine lv_istore_n (lv' := [(3, .int 0), (2, .int 0), (0, .ref h0), (1, .int a1)]) hx hb dX1_countAt_3 rfl hl (by decide) rfl (fun ls hl => ?_)
  have lp1 : ∀ (n1 : Nat), ∀ (x1058 : Int32) (hx1058 : 0 ≤ x1058.toInt ∧ x1058.toInt ≤ 6) (x1059 : Int32) (hm1 : (6 : Int) - x1058.toInt < (n1 : Int)) (H : Heap) (locs : List Loc) (hP : va_P D vwCl [(h0, .inr (1, [.int v1, .ref h1, u69, u70, u71, u72, u73, u74])), (h1, .inl (c 0, 6, .inl f3))] H) (hD : va_D A [(h0, .inr (1, [.int v1, .ref h1, u69, u70, u71, u72, u73, u74])), (h1, .inl (c 0, 6, .inl f3))]) (hS : va_S A s.heap H locs) (ls : Array Slot) (hl : lv_has ls 4 [(3, .int x1058), (2, .int x1059), (0, .ref h0), (1, .int a1)]), W p l e ({ frames := 0, cells := 0, slots := 0, locals := 0 } : Room) s m [.ref h0, .int a1].toArray below meth cd H locs 0 0 Q (F0 m 4 ls []) := by
    intro n1
    induction n1 with
    | zero =>
      intro x1058 hx1058 x1059 hm1 H locs hP hD hS ls hl
      exact absurd hm1 (by omega)
    | succ n1 ih1 =>
      intro x1058 hx1058 x1059 hm1 H locs hP hD hS ls hl
      refine lv_iload_n hx hb dX1_countAt_4 rfl (lv_at hl 0 rfl) ?_
      refine lv_aload_n hx hb dX1_countAt_5 rfl (lv_at hl 2 rfl) ?_
      refine va_get (D := D) (ci := 1) (v := .int v1) (C := RX1) (T := TX1) (N := 8) hx hb hts i_X1 hown hK hP 0 rfl rfl 0 (by decide) (hts _ kw_273) (fun _ h9 => h9) rfl dX1_countAt_6 ?_
      refine B_icmp_ge (tgt := 36) (X := x1058.toInt) (Y := v1.toInt) hx hb dX1_countAt_9 (by decide) rfl rfl (fun hc1067 => ?_) (fun hc1067 => ?_)
      · refine lv_iload_n hx hb dX1_countAt_36 rfl (lv_at hl 1 rfl) ?_
        exact rI hQ hx hb hr hlocks rfl hS (Nat.le_of_ble_eq_true rfl) (Nat.le_of_ble_eq_true rfl) dX1_countAt_37 (fun t ht => ⟨by rw [ht]; exact hP, hD⟩)
      · refine lv_iload_n hx hb dX1_countAt_12 rfl (lv_at hl 1 rfl) ?_
        refine lv_aload_n hx hb dX1_countAt_13 rfl (lv_at hl 2 rfl) ?_
        refine va_get (D := D) (ci := 1) (v := .ref h1) (C := RX1) (T := TX1) (N := 8) hx hb hts i_X1 hown hK hP 0 rfl rfl 1 (by decide) (hts _ kw_279) (fun _ h9 => h9) rfl dX1_countAt_14 ?_
        refine lv_iload_n hx hb dX1_countAt_17 rfl (lv_at hl 0 rfl) ?_
        refine va_iald hx hb hK hP 1 0 rfl rfl (in_of (by omega) (by omega)) dX1_countAt_18 ?_
        refine rd gf3 (fun z1068 ez1068 hz1068 => ?_)
        refine lv_iload_n hx hb dX1_countAt_19 rfl (lv_at hl 3 rfl) ?_
        refine B_icmp_ne (tgt := 27) (X := z1068.toInt) (Y := a1.toInt) hx hb dX1_countAt_20 (by decide) rfl rfl (fun hc1069 => ?_) (fun hc1069 => ?_)
        · refine lv_iconst (v := 0) hx hb dX1_countAt_27 (by decide) ?_
          refine lv_iadd hx hb dX1_countAt_28 ?_
          refine q_add (X := x1059.toInt) (Y := 0) rfl (by decide) (by have q := i32_lo x1059; have q := i32_hi x1059; omega) (by have q := i32_lo x1059; have q := i32_hi x1059; omega) (fun z1070 ez1070 hz1070 => ?_)
          refine lv_istore_n (lv' := [(2, .int z1070), (3, .int x1058), (0, .ref h0), (1, .int a1)]) hx hb dX1_countAt_29 rfl hl (by decide) rfl (fun ls hl => ?_)
          obtain ⟨z1071, ez1071, hz1071⟩ : ∃ y : Int32, y = x1058 + Int32.ofInt 1 ∧ y.toInt = x1058.toInt + 1 := ⟨_, rfl, ad_int (A := x1058.toInt) (B := 1) rfl (by decide) (by omega) (by omega)⟩
          refine lv_iinc (v := z1071) (lv' := [(3, .int z1071), (2, .int z1070), (0, .ref h0), (1, .int a1)]) hx hb dX1_countAt_30 hl (k := 1) rfl ez1071.symm (by decide) rfl (fun ls hl => ?_)
          refine lv_goto (tgt := 4) hx hb dX1_countAt_33 (by decide) ?_
          exact ih1 z1071 ⟨by omega, by omega⟩ z1070 (by omega) H locs hP hD hS ls (lv_sub hl [0, 1, 2, 3] rfl)
        · refine lv_iconst (v := 1) hx hb dX1_countAt_23 (by decide) ?_
          refine lv_goto (tgt := 28) hx hb dX1_countAt_24 (by decide) ?_
          refine lv_iadd hx hb dX1_countAt_28 ?_
          refine o_any (fun z1072 ez1072 => ?_)
          refine lv_istore_n (lv' := [(2, .int z1072), (3, .int x1058), (0, .ref h0), (1, .int a1)]) hx hb dX1_countAt_29 rfl hl (by decide) rfl (fun ls hl => ?_)
          obtain ⟨z1073, ez1073, hz1073⟩ : ∃ y : Int32, y = x1058 + Int32.ofInt 1 ∧ y.toInt = x1058.toInt + 1 := ⟨_, rfl, ad_int (A := x1058.toInt) (B := 1) rfl (by decide) (by omega) (by omega)⟩
          refine lv_iinc (v := z1073) (lv' := [(3, .int z1073), (2, .int z1072), (0, .ref h0), (1, .int a1)]) hx hb dX1_countAt_30 hl (k := 1) rfl ez1073.symm (by decide) rfl (fun ls hl => ?_)
          refine lv_goto (tgt := 4) hx hb dX1_countAt_33 (by decide) ?_
          exact ih1 z1073 ⟨by omega, by omega⟩ z1072 (by omega) H locs hP hD hS ls (lv_sub hl [0, 1, 2, 3] rfl)
  have hk0 : (0 : Int32).toInt = 0 := by decide
  exact lp1 (((6 : Int) - 0).toNat + 1) 0 (by decide) 0 (by omega) s.heap [] hP hD hS ls (lv_sub hl [0, 1, 2, 3] rfl)
set_option maxHeartbeats 4000000 in
set_option maxRecDepth 100000 in
theorem m_X1_atAims (l : Launch) (D : va_G) (c : Nat → ClassId) (h0 h1 h2 : Nat) (sz : Nat) (v1 : Int32) (u78 : Value) (u79 : Value) (u80 : Value) (u81 : Value) (u82 : Value) (f3 : Nat → Int32) (f5 : Nat → Int32) (gv1 : 0 ≤ v1.toInt ∧ v1.toInt ≤ 6) (gf3 : Rg f3 0 8) (gf5 : Rg f5 0 7) : Met l yX1_atAims (Cond.code yX1_atAims cX1_atAims 3 (some .int) :: TB) ({ frames := 0, cells := 0, slots := 0, locals := 0 } : Room) (va_Pc [.ref h0] (PW D c [(h0, .inr (1, [.int v1, .ref h1, .ref h2, u78, u79, u80, u81, u82])), (h1, .inl (c 0, 6, .inl f3)), (h2, .inl (c 0, 6, .inl f5))] sz)) ((QIx (fun A r t => va_P D vwCl [(h0, .inr (1, [.int v1, .ref h1, .ref h2, u78, u79, u80, u81, u82])), (h1, .inl (c 0, 6, .inl f3)), (h2, .inl (c 0, 6, .inl f5))] t.heap ∧ va_D A [(h0, .inr (1, [.int v1, .ref h1, .ref h2, u78, u79, u80, u81, u82])), (h1, .inl (c 0, 6, .inl f3)), (h2, .inl (c 0, 6, .inl f5))])) (va_A [(h0, .inr (1, [.int v1, .ref h1, .ref h2, u78, u79, u80, u81, u82])), (h1, .inl (c 0, 6, .inl f3)), (h2, .inl (c 0, 6, .inl f5))] sz)) 0 0 (va_A [(h0, .inr (1, [.int v1, .ref h1, .ref h2, u78, u79, u80, u81, u82])), (h1, .inl (c 0, 6, .inl f3)), (h2, .inl (c 0, 6, .inl f5))] sz) := by
  refine start2 (by decide +kernel) (Nat.le_of_ble_eq_true rfl) ?_
  intro p e s m below meth cd A ls Q hx hb hr hml hts hown hlocks hin hA hS hK hP hD hN hl hQ
  have hown : s.vm.findClass RX1 = some m.cls := hown
  have hl : lv_has ls 3 [(0, .ref h0)] := hl
  have hP : va_P D vwCl [(h0, .inr (1, [.int v1, .ref h1, .ref h2, u78, u79, u80, u81, u82])), (h1, .inl (c 0, 6, .inl f3)), (h2, .inl (c 0, 6, .inl f5))] s.heap := hP
  refine lv_iconst (v := 0) hx hb dX1_atAims_0 (by decide) ?_
  refine lv_istore_n (lv' := [(1, .int 0), (0, .ref h0)]) hx hb dX1_atAims_1 rfl hl (by decide) rfl (fun ls hl => ?_)
  refine lv_iconst (v := 0) hx hb dX1_atAims_2 (by decide) ?_
  refine lv_istore_n (lv' := [(2, .int 0), (1, .int 0), (0, .ref h0)]) hx hb dX1_atAims_3 rfl hl (by decide) rfl (fun ls hl => ?_)
  have lp1 : ∀ (n1 : Nat), ∀ (x1065 : Int32) (hx1065 : 0 ≤ x1065.toInt ∧ x1065.toInt ≤ 6) (x1066 : Int32) (hm1 : (6 : Int) - x1065.toInt < (n1 : Int)) (H : Heap) (locs : List Loc) (hP : va_P D vwCl [(h0, .inr (1, [.int v1, .ref h1, .ref h2, u78, u79, u80, u81, u82])), (h1, .inl (c 0, 6, .inl f3)), (h2, .inl (c 0, 6, .inl f5))] H) (hD : va_D A [(h0, .inr (1, [.int v1, .ref h1, .ref h2, u78, u79, u80, u81, u82])), (h1, .inl (c 0, 6, .inl f3)), (h2, .inl (c 0, 6, .inl f5))]) (hS : va_S A s.heap H locs) (ls : Array Slot) (hl : lv_has ls 3 [(2, .int x1065), (1, .int x1066), (0, .ref h0)]), W p l e ({ frames := 0, cells := 0, slots := 0, locals := 0 } : Room) s m [.ref h0].toArray below meth cd H locs 0 0 Q (F0 m 4 ls []) := by
    intro n1
    induction n1 with
    | zero =>
      intro x1065 hx1065 x1066 hm1 H locs hP hD hS ls hl
      exact absurd hm1 (by omega)
    | succ n1 ih1 =>
      intro x1065 hx1065 x1066 hm1 H locs hP hD hS ls hl
      refine lv_iload_n hx hb dX1_atAims_4 rfl (lv_at hl 0 rfl) ?_
      refine lv_aload_n hx hb dX1_atAims_5 rfl (lv_at hl 2 rfl) ?_
      refine va_get (D := D) (ci := 1) (v := .int v1) (C := RX1) (T := TX1) (N := 8) hx hb hts i_X1 hown hK hP 0 rfl rfl 0 (by decide) (hts _ kw_273) (fun _ h9 => h9) rfl dX1_atAims_6 ?_
      refine B_icmp_ge (tgt := 41) (X := x1065.toInt) (Y := v1.toInt) hx hb dX1_atAims_9 (by decide) rfl rfl (fun hc1075 => ?_) (fun hc1075 => ?_)
      · refine lv_iload_n hx hb dX1_atAims_41 rfl (lv_at hl 1 rfl) ?_
        exact rI hQ hx hb hr hlocks rfl hS (Nat.le_of_ble_eq_true rfl) (Nat.le_of_ble_eq_true rfl) dX1_atAims_42 (fun t ht => ⟨by rw [ht]; exact hP, hD⟩)
      · refine lv_iload_n hx hb dX1_atAims_12 rfl (lv_at hl 1 rfl) ?_
        refine lv_aload_n hx hb dX1_atAims_13 rfl (lv_at hl 2 rfl) ?_
        refine va_get (D := D) (ci := 1) (v := .ref h1) (C := RX1) (T := TX1) (N := 8) hx hb hts i_X1 hown hK hP 0 rfl rfl 1 (by decide) (hts _ kw_279) (fun _ h9 => h9) rfl dX1_atAims_14 ?_
        refine lv_iload_n hx hb dX1_atAims_17 rfl (lv_at hl 0 rfl) ?_
        refine va_iald hx hb hK hP 1 0 rfl rfl (in_of (by omega) (by omega)) dX1_atAims_18 ?_
        refine rd gf3 (fun z1076 ez1076 hz1076 => ?_)
        refine lv_aload_n hx hb dX1_atAims_19 rfl (lv_at hl 2 rfl) ?_
        refine va_get (D := D) (ci := 1) (v := .ref h2) (C := RX1) (T := TX1) (N := 8) hx hb hts i_X1 hown hK hP 0 rfl rfl 2 (by decide) (hts _ kw_285) (fun _ h9 => h9) rfl dX1_atAims_20 ?_
        refine lv_iload_n hx hb dX1_atAims_23 rfl (lv_at hl 0 rfl) ?_
        refine va_iald hx hb hK hP 2 0 rfl rfl (in_of (by omega) (by omega)) dX1_atAims_24 ?_
        refine rd gf5 (fun z1077 ez1077 hz1077 => ?_)
        refine B_icmp_ne (tgt := 32) (X := z1076.toInt) (Y := z1077.toInt) hx hb dX1_atAims_25 (by decide) rfl rfl (fun hc1078 => ?_) (fun hc1078 => ?_)
        · refine lv_iconst (v := 0) hx hb dX1_atAims_32 (by decide) ?_
          refine lv_iadd hx hb dX1_atAims_33 ?_
          refine q_add (X := x1066.toInt) (Y := 0) rfl (by decide) (by have q := i32_lo x1066; have q := i32_hi x1066; omega) (by have q := i32_lo x1066; have q := i32_hi x1066; omega) (fun z1079 ez1079 hz1079 => ?_)
          refine lv_istore_n (lv' := [(1, .int z1079), (2, .int x1065), (0, .ref h0)]) hx hb dX1_atAims_34 rfl hl (by decide) rfl (fun ls hl => ?_)
          obtain ⟨z1080, ez1080, hz1080⟩ : ∃ y : Int32, y = x1065 + Int32.ofInt 1 ∧ y.toInt = x1065.toInt + 1 := ⟨_, rfl, ad_int (A := x1065.toInt) (B := 1) rfl (by decide) (by omega) (by omega)⟩
          refine lv_iinc (v := z1080) (lv' := [(2, .int z1080), (1, .int z1079), (0, .ref h0)]) hx hb dX1_atAims_35 hl (k := 1) rfl ez1080.symm (by decide) rfl (fun ls hl => ?_)
          refine lv_goto (tgt := 4) hx hb dX1_atAims_38 (by decide) ?_
          exact ih1 z1080 ⟨by omega, by omega⟩ z1079 (by omega) H locs hP hD hS ls (lv_sub hl [0, 1, 2] rfl)
        · refine lv_iconst (v := 1) hx hb dX1_atAims_28 (by decide) ?_
          refine lv_goto (tgt := 33) hx hb dX1_atAims_29 (by decide) ?_
          refine lv_iadd hx hb dX1_atAims_33 ?_
          refine o_any (fun z1081 ez1081 => ?_)
          refine lv_istore_n (lv' := [(1, .int z1081), (2, .int x1065), (0, .ref h0)]) hx hb dX1_atAims_34 rfl hl (by decide) rfl (fun ls hl => ?_)
          obtain ⟨z1082, ez1082, hz1082⟩ : ∃ y : Int32, y = x1065 + Int32.ofInt 1 ∧ y.toInt = x1065.toInt + 1 := ⟨_, rfl, ad_int (A := x1065.toInt) (B := 1) rfl (by decide) (by omega) (by omega)⟩
          refine lv_iinc (v := z1082) (lv' := [(2, .int z1082), (1, .int z1081), (0, .ref h0)]) hx hb dX1_atAims_35 hl (k := 1) rfl ez1082.symm (by decide) rfl (fun ls hl => ?_)
          refine lv_goto (tgt := 4) hx hb dX1_atAims_38 (by decide) ?_
          exact ih1 z1082 ⟨by omega, by omega⟩ z1081 (by omega) H locs hP hD hS ls (lv_sub hl [0, 1, 2] rfl)
  have hk0 : (0 : Int32).toInt = 0 := by decide
  exact lp1 (((6 : Int) - 0).toNat + 1) 0 (by decide) 0 (by omega) s.heap [] hP hD hS ls (lv_sub hl [0, 1, 2] rfl)
set_option maxHeartbeats 4000000 in
set_option maxRecDepth 100000 in
theorem m_X1_allAtAims (l : Launch) (D : va_G) (c : Nat → ClassId) (h0 h1 h2 h3 h4 h5 h6 h7 : Nat) (sz : Nat) (v1 : Int32) (f2 : Nat → Int32) (f3 : Nat → Int32) (gv1 : 0 ≤ v1.toInt ∧ v1.toInt ≤ 6) (gf2 : Rg f2 0 8) (gf3 : Rg f3 0 7) : Met l yX1_allAtAims (Cond.code yX1_allAtAims cX1_allAtAims 1 (some .boolean) :: TB) ({ frames := 1, cells := 0, slots := 0, locals := 22 } : Room) (va_Pc [.ref h0] (PW D c [(h0, .inr (1, [.int v1, .ref h1, .ref h2, .ref h5, .ref h6, .ref h7, .ref h3, .ref h4])), (h1, .inl (c 0, 6, .inl f2)), (h2, .inl (c 0, 6, .inl f3))] sz)) ((QIx (fun A r t => (0 ≤ r.toInt ∧ r.toInt ≤ 1) ∧ ((r.toInt = 0) ∨ (r.toInt = 1)) ∧ va_P D vwCl [(h0, .inr (1, [.int v1, .ref h1, .ref h2, .ref h5, .ref h6, .ref h7, .ref h3, .ref h4])), (h1, .inl (c 0, 6, .inl f2)), (h2, .inl (c 0, 6, .inl f3))] t.heap ∧ va_D A [(h0, .inr (1, [.int v1, .ref h1, .ref h2, .ref h5, .ref h6, .ref h7, .ref h3, .ref h4])), (h1, .inl (c 0, 6, .inl f2)), (h2, .inl (c 0, 6, .inl f3))])) (va_A [(h0, .inr (1, [.int v1, .ref h1, .ref h2, .ref h5, .ref h6, .ref h7, .ref h3, .ref h4])), (h1, .inl (c 0, 6, .inl f2)), (h2, .inl (c 0, 6, .inl f3))] sz)) 0 0 (va_A [(h0, .inr (1, [.int v1, .ref h1, .ref h2, .ref h5, .ref h6, .ref h7, .ref h3, .ref h4])), (h1, .inl (c 0, 6, .inl f2)), (h2, .inl (c 0, 6, .inl f3))] sz) := by
  refine start2 (by decide +kernel) (Nat.le_of_ble_eq_true rfl) ?_
  intro p e s m below meth cd A ls Q hx hb hr hml hts hown hlocks hin hA hS hK hP hD hN hl hQ
  have hown : s.vm.findClass RX1 = some m.cls := hown
  have hl : lv_has ls 1 [(0, .ref h0)] := hl
  have hP : va_P D vwCl [(h0, .inr (1, [.int v1, .ref h1, .ref h2, .ref h5, .ref h6, .ref h7, .ref h3, .ref h4])), (h1, .inl (c 0, 6, .inl f2)), (h2, .inl (c 0, 6, .inl f3))] s.heap := hP
  refine lv_aload_n hx hb dX1_allAtAims_0 rfl (lv_at hl 0 rfl) ?_
  refine fI (run_V (n := 0) (ci := 1) ⟨hx, hb, hml, hown, hts⟩ (m_X1_atAims l D c h0 h1 h2 s.heap.size v1 (.ref h5) (.ref h6) (.ref h7) (.ref h3) (.ref h4) f2 f3 gv1 gf2 gf3) (hP.sub [0, 1, 2] rfl) (hD.sub [0, 1, 2] (by decide) rfl) hK hN rfl rfl kw_1067 kw_1068 kw_1069 kw_118 kw_1070 ⟨rfl, by decide +kernel⟩ ⟨(Nat.le_of_ble_eq_true rfl), (Nat.le_of_ble_eq_true rfl)⟩ rfl rfl rfl hl.1 rfl (Nat.le_of_ble_eq_true rfl) dX1_allAtAims_1 ⟨(Nat.le_of_ble_eq_true rfl), (Nat.le_of_ble_eq_true rfl)⟩) hP hD hS hA [0, 1, 2] rfl (fun z1001 H locs t hB hj hS => ?_)
  obtain ⟨hP1, hD1⟩ := hB
  obtain ⟨hP, hD⟩ := hj (wr := []) (w1 := [(h0, .inr (1, [.int v1, .ref h1, .ref h2, .ref h5, .ref h6, .ref h7, .ref h3, .ref h4])), (h1, .inl (c 0, 6, .inl f2)), (h2, .inl (c 0, 6, .inl f3))]) [] rfl (by decide) (by decide) hP1 hD1
  have hP : va_P D vwCl [(h0, .inr (1, [.int v1, .ref h1, .ref h2, .ref h5, .ref h6, .ref h7, .ref h3, .ref h4])), (h1, .inl (c 0, 6, .inl f2)), (h2, .inl (c 0, 6, .inl f3))] H := hP
  have hD : va_D A [(h0, .inr (1, [.int v1, .ref h1, .ref h2, .ref h5, .ref h6, .ref h7, .ref h3, .ref h4])), (h1, .inl (c 0, 6, .inl f2)), (h2, .inl (c 0, 6, .inl f3))] := hD
  refine lv_aload_n hx hb dX1_allAtAims_4 rfl (lv_at hl 0 rfl) ?_
  refine va_get (D := D) (ci := 1) (v := .int v1) (C := RX1) (T := TX1) (N := 8) hx hb hts i_X1 hown hK hP 0 rfl rfl 0 (by decide) (hts _ kw_273) (fun _ h9 => h9) rfl dX1_allAtAims_5 ?_
  refine B_icmp_ne (tgt := 15) (X := z1001.toInt) (Y := v1.toInt) hx hb dX1_allAtAims_8 (by decide) rfl rfl (fun hc1002 => ?_) (fun hc1002 => ?_)
  · refine lv_iconst (v := 0) hx hb dX1_allAtAims_15 (by decide) ?_
    have hk0 : (0 : Int32).toInt = 0 := by decide
    exact rI hQ hx hb hr hlocks (by decide) hS (Nat.le_of_ble_eq_true rfl) (Nat.le_of_ble_eq_true rfl) dX1_allAtAims_16 (fun t ht => ⟨by decide, (by omega), by rw [ht]; exact hP, hD⟩)
  · refine lv_iconst (v := 1) hx hb dX1_allAtAims_11 (by decide) ?_
    refine lv_goto (tgt := 16) hx hb dX1_allAtAims_12 (by decide) ?_
    have hk0 : (1 : Int32).toInt = 1 := by decide
    exact rI hQ hx hb hr hlocks (by decide) hS (Nat.le_of_ble_eq_true rfl) (Nat.le_of_ble_eq_true rfl) dX1_allAtAims_16 (fun t ht => ⟨by decide, (by omega), by rw [ht]; exact hP, hD⟩)
set_option maxHeartbeats 4000000 in
set_option maxRecDepth 100000 in
theorem m_X1_meetings (l : Launch) (D : va_G) (c : Nat → ClassId) (h0 h1 h2 : Nat) (sz : Nat) (v1 : Int32) (u928 : Value) (u929 : Value) (u930 : Value) (u931 : Value) (u932 : Value) (f4 : Nat → Int32) (f10 : Nat → Int32) (gv1 : 0 ≤ v1.toInt ∧ v1.toInt ≤ 6) (gf4 : Rg f4 (-1) 13) (gf10 : Rg f10 (-1) 7) : Met l yX1_meetings (Cond.code yX1_meetings cX1_meetings 4 (some .int) :: TB) ({ frames := 0, cells := 0, slots := 0, locals := 0 } : Room) (va_Pc [.ref h0] (PW D c [(h0, .inr (1, [.int v1, u928, u929, u930, .ref h1, u931, .ref h2, u932])), (h1, .inl (c 0, 6, .inl f4)), (h2, .inl (c 0, 6, .inl f10))] sz)) ((QIx (fun A r t => va_P D vwCl [(h0, .inr (1, [.int v1, u928, u929, u930, .ref h1, u931, .ref h2, u932])), (h1, .inl (c 0, 6, .inl f4)), (h2, .inl (c 0, 6, .inl f10))] t.heap ∧ va_D A [(h0, .inr (1, [.int v1, u928, u929, u930, .ref h1, u931, .ref h2, u932])), (h1, .inl (c 0, 6, .inl f4)), (h2, .inl (c 0, 6, .inl f10))])) (va_A [(h0, .inr (1, [.int v1, u928, u929, u930, .ref h1, u931, .ref h2, u932])), (h1, .inl (c 0, 6, .inl f4)), (h2, .inl (c 0, 6, .inl f10))] sz)) 0 0 (va_A [(h0, .inr (1, [.int v1, u928, u929, u930, .ref h1, u931, .ref h2, u932])), (h1, .inl (c 0, 6, .inl f4)), (h2, .inl (c 0, 6, .inl f10))] sz) := by
  refine start2 (by decide +kernel) (Nat.le_of_ble_eq_true rfl) ?_
  intro p e s m below meth cd A ls Q hx hb hr hml hts hown hlocks hin hA hS hK hP hD hN hl hQ
  have hown : s.vm.findClass RX1 = some m.cls := hown
  have hl : lv_has ls 4 [(0, .ref h0)] := hl
  have hP : va_P D vwCl [(h0, .inr (1, [.int v1, u928, u929, u930, .ref h1, u931, .ref h2, u932])), (h1, .inl (c 0, 6, .inl f4)), (h2, .inl (c 0, 6, .inl f10))] s.heap := hP
  refine lv_iconst (v := 0) hx hb dX1_meetings_0 (by decide) ?_
  refine lv_istore_n (lv' := [(1, .int 0), (0, .ref h0)]) hx hb dX1_meetings_1 rfl hl (by decide) rfl (fun ls hl => ?_)
  refine lv_iconst (v := 1) hx hb dX1_meetings_2 (by decide) ?_
  refine lv_istore_n (lv' := [(2, .int 1), (1, .int 0), (0, .ref h0)]) hx hb dX1_meetings_3 rfl hl (by decide) rfl (fun ls hl => ?_)
  have lp1 : ∀ (n1 : Nat), ∀ (x1796 : Int32) (hx1796 : 1 ≤ x1796.toInt ∧ x1796.toInt ≤ 6) (x1797 : Int32) (hm1 : (6 : Int) - x1796.toInt < (n1 : Int)) (H : Heap) (locs : List Loc) (hP : va_P D vwCl [(h0, .inr (1, [.int v1, u928, u929, u930, .ref h1, u931, .ref h2, u932])), (h1, .inl (c 0, 6, .inl f4)), (h2, .inl (c 0, 6, .inl f10))] H) (hD : va_D A [(h0, .inr (1, [.int v1, u928, u929, u930, .ref h1, u931, .ref h2, u932])), (h1, .inl (c 0, 6, .inl f4)), (h2, .inl (c 0, 6, .inl f10))]) (hS : va_S A s.heap H locs) (ls : Array Slot) (hl : lv_has ls 4 [(2, .int x1796), (1, .int x1797), (0, .ref h0)]), W p l e ({ frames := 0, cells := 0, slots := 0, locals := 0 } : Room) s m [.ref h0].toArray below meth cd H locs 0 0 Q (F0 m 4 ls []) := by
    intro n1
    induction n1 with
    | zero =>
      intro x1796 hx1796 x1797 hm1 H locs hP hD hS ls hl
      exact absurd hm1 (by omega)
    | succ n1 ih1 =>
      intro x1796 hx1796 x1797 hm1 H locs hP hD hS ls hl
      refine lv_iload_n hx hb dX1_meetings_4 rfl (lv_at hl 0 rfl) ?_
      refine lv_aload_n hx hb dX1_meetings_5 rfl (lv_at hl 2 rfl) ?_
      refine va_get (D := D) (ci := 1) (v := .int v1) (C := RX1) (T := TX1) (N := 8) hx hb hts i_X1 hown hK hP 0 rfl rfl 0 (by decide) (hts _ kw_273) (fun _ h9 => h9) rfl dX1_meetings_6 ?_
      refine B_icmp_ge (tgt := 79) (X := x1796.toInt) (Y := v1.toInt) hx hb dX1_meetings_9 (by decide) rfl rfl (fun hc1925 => ?_) (fun hc1925 => ?_)
      · refine lv_iload_n hx hb dX1_meetings_79 rfl (lv_at hl 1 rfl) ?_
        exact rI hQ hx hb hr hlocks rfl hS (Nat.le_of_ble_eq_true rfl) (Nat.le_of_ble_eq_true rfl) dX1_meetings_80 (fun t ht => ⟨by rw [ht]; exact hP, hD⟩)
      · refine lv_iconst (v := 0) hx hb dX1_meetings_12 (by decide) ?_
        refine lv_istore_n (lv' := [(3, .int 0), (2, .int x1796), (1, .int x1797), (0, .ref h0)]) hx hb dX1_meetings_13 rfl hl (by decide) rfl (fun ls hl => ?_)
        have lp2 : ∀ (n2 : Nat), ∀ (x2033 : Int32) (hx2033 : 0 ≤ x2033.toInt ∧ x2033.toInt ≤ 5) (x2034 : Int32) (hm2 : (5 : Int) - x2033.toInt < (n2 : Int)) (H : Heap) (locs : List Loc) (hP : va_P D vwCl [(h0, .inr (1, [.int v1, u928, u929, u930, .ref h1, u931, .ref h2, u932])), (h1, .inl (c 0, 6, .inl f4)), (h2, .inl (c 0, 6, .inl f10))] H) (hD : va_D A [(h0, .inr (1, [.int v1, u928, u929, u930, .ref h1, u931, .ref h2, u932])), (h1, .inl (c 0, 6, .inl f4)), (h2, .inl (c 0, 6, .inl f10))]) (hS : va_S A s.heap H locs) (ls : Array Slot) (hl : lv_has ls 4 [(3, .int x2033), (2, .int x1796), (1, .int x2034), (0, .ref h0)]), W p l e ({ frames := 0, cells := 0, slots := 0, locals := 0 } : Room) s m [.ref h0].toArray below meth cd H locs 0 0 Q (F0 m 14 ls []) := by
          intro n2
          induction n2 with
          | zero =>
            intro x2033 hx2033 x2034 hm2 H locs hP hD hS ls hl
            exact absurd hm2 (by omega)
          | succ n2 ih2 =>
            intro x2033 hx2033 x2034 hm2 H locs hP hD hS ls hl
            refine lv_iload_n hx hb dX1_meetings_14 rfl (lv_at hl 0 rfl) ?_
            refine lv_iload_n hx hb dX1_meetings_15 rfl (lv_at hl 1 rfl) ?_
            refine B_icmp_ge (tgt := 73) (X := x2033.toInt) (Y := x1796.toInt) hx hb dX1_meetings_16 (by decide) rfl rfl (fun hc2052 => ?_) (fun hc2052 => ?_)
            · obtain ⟨z2053, ez2053, hz2053⟩ : ∃ y : Int32, y = x1796 + Int32.ofInt 1 ∧ y.toInt = x1796.toInt + 1 := ⟨_, rfl, ad_int (A := x1796.toInt) (B := 1) rfl (by decide) (by omega) (by omega)⟩
              refine lv_iinc (v := z2053) (lv' := [(2, .int z2053), (3, .int x2033), (1, .int x2034), (0, .ref h0)]) hx hb dX1_meetings_73 hl (k := 1) rfl ez2053.symm (by decide) rfl (fun ls hl => ?_)
              refine lv_goto (tgt := 4) hx hb dX1_meetings_76 (by decide) ?_
              exact ih1 z2053 ⟨by omega, by omega⟩ x2034 (by omega) H locs hP hD hS ls (lv_sub hl [0, 2, 3] rfl)
            · refine lv_aload_n hx hb dX1_meetings_19 rfl (lv_at hl 3 rfl) ?_
              refine va_get (D := D) (ci := 1) (v := .ref h1) (C := RX1) (T := TX1) (N := 8) hx hb hts i_X1 hown hK hP 0 rfl rfl 4 (by decide) (hts _ kw_293) (fun _ h9 => h9) rfl dX1_meetings_20 ?_
              refine lv_iload_n hx hb dX1_meetings_23 rfl (lv_at hl 1 rfl) ?_
              refine va_iald hx hb hK hP 1 0 rfl rfl (in_of (by omega) (by omega)) dX1_meetings_24 ?_
              refine rd gf4 (fun z2054 ez2054 hz2054 => ?_)
              refine lv_iconst (v := (-1)) hx hb dX1_meetings_25 (by decide) ?_
              refine B_icmp_eq (tgt := 73) (X := z2054.toInt) (Y := (-1)) hx hb dX1_meetings_26 (by decide) rfl (by decide) (fun hc2055 => ?_) (fun hc2055 => ?_)
              · obtain ⟨z2056, ez2056, hz2056⟩ : ∃ y : Int32, y = x1796 + Int32.ofInt 1 ∧ y.toInt = x1796.toInt + 1 := ⟨_, rfl, ad_int (A := x1796.toInt) (B := 1) rfl (by decide) (by omega) (by omega)⟩
                refine lv_iinc (v := z2056) (lv' := [(2, .int z2056), (3, .int x2033), (1, .int x2034), (0, .ref h0)]) hx hb dX1_meetings_73 hl (k := 1) rfl ez2056.symm (by decide) rfl (fun ls hl => ?_)
                refine lv_goto (tgt := 4) hx hb dX1_meetings_76 (by decide) ?_
                exact ih1 z2056 ⟨by omega, by omega⟩ x2034 (by omega) H locs hP hD hS ls (lv_sub hl [0, 2, 3] rfl)
              · refine lv_iload_n hx hb dX1_meetings_29 rfl (lv_at hl 2 rfl) ?_
                refine lv_aload_n hx hb dX1_meetings_30 rfl (lv_at hl 3 rfl) ?_
                refine va_get (D := D) (ci := 1) (v := .ref h1) (C := RX1) (T := TX1) (N := 8) hx hb hts i_X1 hown hK hP 0 rfl rfl 4 (by decide) (hts _ kw_293) (fun _ h9 => h9) rfl dX1_meetings_31 ?_
                refine lv_iload_n hx hb dX1_meetings_34 rfl (lv_at hl 0 rfl) ?_
                refine va_iald hx hb hK hP 1 0 rfl rfl (in_of (by omega) (by omega)) dX1_meetings_35 ?_
                refine rd gf4 (fun z2057 ez2057 hz2057 => ?_)
                refine lv_aload_n hx hb dX1_meetings_36 rfl (lv_at hl 3 rfl) ?_
                refine va_get (D := D) (ci := 1) (v := .ref h1) (C := RX1) (T := TX1) (N := 8) hx hb hts i_X1 hown hK hP 0 rfl rfl 4 (by decide) (hts _ kw_293) (fun _ h9 => h9) rfl dX1_meetings_37 ?_
                refine lv_iload_n hx hb dX1_meetings_40 rfl (lv_at hl 1 rfl) ?_
                refine va_iald hx hb hK hP 1 0 rfl rfl (in_of (by omega) (by omega)) dX1_meetings_41 ?_
                refine rd gf4 (fun z2058 ez2058 hz2058 => ?_)
                refine B_icmp_ne (tgt := 64) (X := z2057.toInt) (Y := z2058.toInt) hx hb dX1_meetings_42 (by decide) rfl rfl (fun hc2059 => ?_) (fun hc2059 => ?_)
                · refine lv_iconst (v := 0) hx hb dX1_meetings_64 (by decide) ?_
                  refine lv_iadd hx hb dX1_meetings_65 ?_
                  refine q_add (X := x2034.toInt) (Y := 0) rfl (by decide) (by have q := i32_lo x2034; have q := i32_hi x2034; omega) (by have q := i32_lo x2034; have q := i32_hi x2034; omega) (fun z2060 ez2060 hz2060 => ?_)
                  refine lv_istore_n (lv' := [(1, .int z2060), (3, .int x2033), (2, .int x1796), (0, .ref h0)]) hx hb dX1_meetings_66 rfl hl (by decide) rfl (fun ls hl => ?_)
                  obtain ⟨z2061, ez2061, hz2061⟩ : ∃ y : Int32, y = x2033 + Int32.ofInt 1 ∧ y.toInt = x2033.toInt + 1 := ⟨_, rfl, ad_int (A := x2033.toInt) (B := 1) rfl (by decide) (by omega) (by omega)⟩
                  refine lv_iinc (v := z2061) (lv' := [(3, .int z2061), (1, .int z2060), (2, .int x1796), (0, .ref h0)]) hx hb dX1_meetings_67 hl (k := 1) rfl ez2061.symm (by decide) rfl (fun ls hl => ?_)
                  refine lv_goto (tgt := 14) hx hb dX1_meetings_70 (by decide) ?_
                  exact ih2 z2061 ⟨by omega, by omega⟩ z2060 (by omega) H locs hP hD hS ls (lv_sub hl [0, 2, 1, 3] rfl)
                · refine lv_aload_n hx hb dX1_meetings_45 rfl (lv_at hl 3 rfl) ?_
                  refine va_get (D := D) (ci := 1) (v := .ref h2) (C := RX1) (T := TX1) (N := 8) hx hb hts i_X1 hown hK hP 0 rfl rfl 6 (by decide) (hts _ kw_299) (fun _ h9 => h9) rfl dX1_meetings_46 ?_
                  refine lv_iload_n hx hb dX1_meetings_49 rfl (lv_at hl 0 rfl) ?_
                  refine va_iald hx hb hK hP 2 0 rfl rfl (in_of (by omega) (by omega)) dX1_meetings_50 ?_
                  refine rd gf10 (fun z2062 ez2062 hz2062 => ?_)
                  refine lv_aload_n hx hb dX1_meetings_51 rfl (lv_at hl 3 rfl) ?_
                  refine va_get (D := D) (ci := 1) (v := .ref h2) (C := RX1) (T := TX1) (N := 8) hx hb hts i_X1 hown hK hP 0 rfl rfl 6 (by decide) (hts _ kw_299) (fun _ h9 => h9) rfl dX1_meetings_52 ?_
                  refine lv_iload_n hx hb dX1_meetings_55 rfl (lv_at hl 1 rfl) ?_
                  refine va_iald hx hb hK hP 2 0 rfl rfl (in_of (by omega) (by omega)) dX1_meetings_56 ?_
                  refine rd gf10 (fun z2063 ez2063 hz2063 => ?_)
                  refine B_icmp_eq (tgt := 64) (X := z2062.toInt) (Y := z2063.toInt) hx hb dX1_meetings_57 (by decide) rfl rfl (fun hc2064 => ?_) (fun hc2064 => ?_)
                  · refine lv_iconst (v := 0) hx hb dX1_meetings_64 (by decide) ?_
                    refine lv_iadd hx hb dX1_meetings_65 ?_
                    refine q_add (X := x2034.toInt) (Y := 0) rfl (by decide) (by have q := i32_lo x2034; have q := i32_hi x2034; omega) (by have q := i32_lo x2034; have q := i32_hi x2034; omega) (fun z2065 ez2065 hz2065 => ?_)
                    refine lv_istore_n (lv' := [(1, .int z2065), (3, .int x2033), (2, .int x1796), (0, .ref h0)]) hx hb dX1_meetings_66 rfl hl (by decide) rfl (fun ls hl => ?_)
                    obtain ⟨z2066, ez2066, hz2066⟩ : ∃ y : Int32, y = x2033 + Int32.ofInt 1 ∧ y.toInt = x2033.toInt + 1 := ⟨_, rfl, ad_int (A := x2033.toInt) (B := 1) rfl (by decide) (by omega) (by omega)⟩
                    refine lv_iinc (v := z2066) (lv' := [(3, .int z2066), (1, .int z2065), (2, .int x1796), (0, .ref h0)]) hx hb dX1_meetings_67 hl (k := 1) rfl ez2066.symm (by decide) rfl (fun ls hl => ?_)
                    refine lv_goto (tgt := 14) hx hb dX1_meetings_70 (by decide) ?_
                    exact ih2 z2066 ⟨by omega, by omega⟩ z2065 (by omega) H locs hP hD hS ls (lv_sub hl [0, 2, 1, 3] rfl)
                  · refine lv_iconst (v := 1) hx hb dX1_meetings_60 (by decide) ?_
                    refine lv_goto (tgt := 65) hx hb dX1_meetings_61 (by decide) ?_
                    refine lv_iadd hx hb dX1_meetings_65 ?_
                    refine o_any (fun z2067 ez2067 => ?_)
                    refine lv_istore_n (lv' := [(1, .int z2067), (3, .int x2033), (2, .int x1796), (0, .ref h0)]) hx hb dX1_meetings_66 rfl hl (by decide) rfl (fun ls hl => ?_)
                    obtain ⟨z2068, ez2068, hz2068⟩ : ∃ y : Int32, y = x2033 + Int32.ofInt 1 ∧ y.toInt = x2033.toInt + 1 := ⟨_, rfl, ad_int (A := x2033.toInt) (B := 1) rfl (by decide) (by omega) (by omega)⟩
                    refine lv_iinc (v := z2068) (lv' := [(3, .int z2068), (1, .int z2067), (2, .int x1796), (0, .ref h0)]) hx hb dX1_meetings_67 hl (k := 1) rfl ez2068.symm (by decide) rfl (fun ls hl => ?_)
                    refine lv_goto (tgt := 14) hx hb dX1_meetings_70 (by decide) ?_
                    exact ih2 z2068 ⟨by omega, by omega⟩ z2067 (by omega) H locs hP hD hS ls (lv_sub hl [0, 2, 1, 3] rfl)
        have hk0 : (0 : Int32).toInt = 0 := by decide
        exact lp2 (((5 : Int) - 0).toNat + 1) 0 (by decide) x1797 (by omega) H locs hP hD hS ls (lv_sub hl [0, 1, 2, 3] rfl)
  have hk0 : (0 : Int32).toInt = 0 := by decide
  have hk0 : (1 : Int32).toInt = 1 := by decide
  exact lp1 (((6 : Int) - 1).toNat + 1) 1 (by decide) 0 (by omega) s.heap [] hP hD hS ls (lv_sub hl [0, 1, 2] rfl)
set_option maxHeartbeats 4000000 in
set_option maxRecDepth 100000 in
theorem m_X1_add (l : Launch) (D : va_G) (c : Nat → ClassId) (h0 h1 h2 h3 h4 h5 h6 h7 : Nat) (sz : Nat) (v1 : Int32) (f2 : Nat → Int32) (f3 : Nat → Int32) (f4 : Nat → Int32) (f7 : Nat → Int32) (f9 : Nat → Int32) (f12 : Nat → Int32) (f16 : Nat → Int32) (a1 : Int32) (a2 : Int32) (a3 : Int32) (gn1 : Int32) (gv1 : 0 ≤ v1.toInt ∧ v1.toInt ≤ 6) (gf2 : Rg f2 (-1) 13) (gf3 : Rg f3 0 8) (gf4 : Rg f4 (-1) 7) (gf7 : Rg f7 0 7) (ga1 : 0 ≤ a1.toInt ∧ a1.toInt ≤ 7) (ga2 : 0 ≤ a2.toInt ∧ a2.toInt ≤ 7) (ge0 : 0 ≤ gn1.toInt) (ge1 : OnOK gn1 v1 f2) (ge2 : PlOK v1 f3 f2) (ge3 : HdOK v1 f2 f4) : Met l yX1_add (Cond.code yX1_add cX1_add 4 none :: TB) ({ frames := 0, cells := 0, slots := 0, locals := 0 } : Room) (va_Pc [.ref h0, .int a1, .int a2, .int a3] (PW D c [(h0, .inr (1, [.int v1, .ref h2, .ref h4, .ref h5, .ref h1, .ref h6, .ref h3, .ref h7])), (h1, .inl (c 0, 6, .inl f2)), (h2, .inl (c 0, 6, .inl f3)), (h3, .inl (c 0, 6, .inl f4)), (h4, .inl (c 0, 6, .inl f7)), (h5, .inl (c 0, 6, .inl f9)), (h6, .inl (c 0, 6, .inl f12)), (h7, .inl (c 0, 6, .inl f16))] sz)) ((QV (fun A t => ∃ (z900 : Int32) (f901 : Nat → Int32) (f902 : Nat → Int32) (f903 : Nat → Int32) (f904 : Nat → Int32) (f905 : Nat → Int32) (f906 : Nat → Int32) (f907 : Nat → Int32), (0 ≤ z900.toInt ∧ z900.toInt ≤ 6) ∧ (Rg f901 (-1) 13) ∧ (Rg f902 0 8) ∧ (Rg f903 (-1) 7) ∧ (Rg f904 0 7) ∧ (OnOK gn1 z900 f901) ∧ (PlOK z900 f902 f901) ∧ (HdOK z900 f901 f903) ∧ va_P D vwCl [(h0, .inr (1, [.int z900, .ref h2, .ref h4, .ref h5, .ref h1, .ref h6, .ref h3, .ref h7])), (h1, .inl (c 0, 6, .inl f901)), (h2, .inl (c 0, 6, .inl f902)), (h3, .inl (c 0, 6, .inl f903)), (h4, .inl (c 0, 6, .inl f904)), (h5, .inl (c 0, 6, .inl f905)), (h6, .inl (c 0, 6, .inl f906)), (h7, .inl (c 0, 6, .inl f907))] t.heap ∧ va_D A [(h0, .inr (1, [.int z900, .ref h2, .ref h4, .ref h5, .ref h1, .ref h6, .ref h3, .ref h7])), (h1, .inl (c 0, 6, .inl f901)), (h2, .inl (c 0, 6, .inl f902)), (h3, .inl (c 0, 6, .inl f903)), (h4, .inl (c 0, 6, .inl f904)), (h5, .inl (c 0, 6, .inl f905)), (h6, .inl (c 0, 6, .inl f906)), (h7, .inl (c 0, 6, .inl f907))])) (va_A [(h0, .inr (1, [.int v1, .ref h2, .ref h4, .ref h5, .ref h1, .ref h6, .ref h3, .ref h7])), (h1, .inl (c 0, 6, .inl f2)), (h2, .inl (c 0, 6, .inl f3)), (h3, .inl (c 0, 6, .inl f4)), (h4, .inl (c 0, 6, .inl f7)), (h5, .inl (c 0, 6, .inl f9)), (h6, .inl (c 0, 6, .inl f12)), (h7, .inl (c 0, 6, .inl f16))] sz)) 0 0 (va_A [(h0, .inr (1, [.int v1, .ref h2, .ref h4, .ref h5, .ref h1, .ref h6, .ref h3, .ref h7])), (h1, .inl (c 0, 6, .inl f2)), (h2, .inl (c 0, 6, .inl f3)), (h3, .inl (c 0, 6, .inl f4)), (h4, .inl (c 0, 6, .inl f7)), (h5, .inl (c 0, 6, .inl f9)), (h6, .inl (c 0, 6, .inl f12)), (h7, .inl (c 0, 6, .inl f16))] sz) := by
  refine start2 (by decide +kernel) (Nat.le_of_ble_eq_true rfl) ?_
  intro p e s m below meth cd A ls Q hx hb hr hml hts hown hlocks hin hA hS hK hP hD hN hl hQ
  have hown : s.vm.findClass RX1 = some m.cls := hown
  have hl : lv_has ls 4 [(0, .ref h0), (1, .int a1), (2, .int a2), (3, .int a3)] := hl
  have hP : va_P D vwCl [(h0, .inr (1, [.int v1, .ref h2, .ref h4, .ref h5, .ref h1, .ref h6, .ref h3, .ref h7])), (h1, .inl (c 0, 6, .inl f2)), (h2, .inl (c 0, 6, .inl f3)), (h3, .inl (c 0, 6, .inl f4)), (h4, .inl (c 0, 6, .inl f7)), (h5, .inl (c 0, 6, .inl f9)), (h6, .inl (c 0, 6, .inl f12)), (h7, .inl (c 0, 6, .inl f16))] s.heap := hP
  refine lv_aload_n hx hb dX1_add_0 rfl (lv_at hl 0 rfl) ?_
  refine va_get (D := D) (ci := 1) (v := .int v1) (C := RX1) (T := TX1) (N := 8) hx hb hts i_X1 hown hK hP 0 rfl rfl 0 (by decide) (hts _ kw_273) (fun _ h9 => h9) rfl dX1_add_1 ?_
  refine lv_bipush (v := 6) hx hb dX1_add_4 (by decide) ?_
  refine B_icmp_lt (tgt := 10) (X := v1.toInt) (Y := 6) hx hb dX1_add_6 (by decide) rfl (by decide) (fun hc1001 => ?_) (fun hc1001 => ?_)
  · refine lv_aload_n hx hb dX1_add_10 rfl (lv_at hl 0 rfl) ?_
    refine va_get (D := D) (ci := 1) (v := .ref h2) (C := RX1) (T := TX1) (N := 8) hx hb hts i_X1 hown hK hP 0 rfl rfl 1 (by decide) (hts _ kw_279) (fun _ h9 => h9) rfl dX1_add_11 ?_
    refine lv_aload_n hx hb dX1_add_14 rfl (lv_at hl 0 rfl) ?_
    refine va_get (D := D) (ci := 1) (v := .int v1) (C := RX1) (T := TX1) (N := 8) hx hb hts i_X1 hown hK hP 0 rfl rfl 0 (by decide) (hts _ kw_273) (fun _ h9 => h9) rfl dX1_add_15 ?_
    refine lv_iload_n hx hb dX1_add_18 rfl (lv_at hl 1 rfl) ?_
    refine va_iast hx hb hK hP hD hS 2 0 rfl rfl (in_of (by omega) (by omega)) dX1_add_19 (fun H locs hP hD hS => ?_)
    obtain ⟨f1002, ef1002, hf1002, hP, hD⟩ : ∃ y : Nat → Int32, y = upd f3 (Int32.toNatClampNeg v1) a1 ∧ Rg y 0 8 ∧ va_P D vwCl [(h0, .inr (1, [.int v1, .ref h2, .ref h4, .ref h5, .ref h1, .ref h6, .ref h3, .ref h7])), (h1, .inl (c 0, 6, .inl f2)), (h2, .inl (c 0, 6, .inl y)), (h3, .inl (c 0, 6, .inl f4)), (h4, .inl (c 0, 6, .inl f7)), (h5, .inl (c 0, 6, .inl f9)), (h6, .inl (c 0, 6, .inl f12)), (h7, .inl (c 0, 6, .inl f16))] H ∧ va_D A [(h0, .inr (1, [.int v1, .ref h2, .ref h4, .ref h5, .ref h1, .ref h6, .ref h3, .ref h7])), (h1, .inl (c 0, 6, .inl f2)), (h2, .inl (c 0, 6, .inl y)), (h3, .inl (c 0, 6, .inl f4)), (h4, .inl (c 0, 6, .inl f7)), (h5, .inl (c 0, 6, .inl f9)), (h6, .inl (c 0, 6, .inl f12)), (h7, .inl (c 0, 6, .inl f16))] := ⟨_, rfl, (Rg.upd gf3 (by omega) (by omega)), hP, hD⟩
    refine lv_aload_n hx hb dX1_add_20 rfl (lv_at hl 0 rfl) ?_
    refine va_get (D := D) (ci := 1) (v := .ref h4) (C := RX1) (T := TX1) (N := 8) hx hb hts i_X1 hown hK hP 0 rfl rfl 2 (by decide) (hts _ kw_285) (fun _ h9 => h9) rfl dX1_add_21 ?_
    refine lv_aload_n hx hb dX1_add_24 rfl (lv_at hl 0 rfl) ?_
    refine va_get (D := D) (ci := 1) (v := .int v1) (C := RX1) (T := TX1) (N := 8) hx hb hts i_X1 hown hK hP 0 rfl rfl 0 (by decide) (hts _ kw_273) (fun _ h9 => h9) rfl dX1_add_25 ?_
    refine lv_iload_n hx hb dX1_add_28 rfl (lv_at hl 2 rfl) ?_
    refine va_iast hx hb hK hP hD hS 4 0 rfl rfl (in_of (by omega) (by omega)) dX1_add_29 (fun H locs hP hD hS => ?_)
    obtain ⟨f1003, ef1003, hf1003, hP, hD⟩ : ∃ y : Nat → Int32, y = upd f7 (Int32.toNatClampNeg v1) a2 ∧ Rg y 0 7 ∧ va_P D vwCl [(h0, .inr (1, [.int v1, .ref h2, .ref h4, .ref h5, .ref h1, .ref h6, .ref h3, .ref h7])), (h1, .inl (c 0, 6, .inl f2)), (h2, .inl (c 0, 6, .inl f1002)), (h3, .inl (c 0, 6, .inl f4)), (h4, .inl (c 0, 6, .inl y)), (h5, .inl (c 0, 6, .inl f9)), (h6, .inl (c 0, 6, .inl f12)), (h7, .inl (c 0, 6, .inl f16))] H ∧ va_D A [(h0, .inr (1, [.int v1, .ref h2, .ref h4, .ref h5, .ref h1, .ref h6, .ref h3, .ref h7])), (h1, .inl (c 0, 6, .inl f2)), (h2, .inl (c 0, 6, .inl f1002)), (h3, .inl (c 0, 6, .inl f4)), (h4, .inl (c 0, 6, .inl y)), (h5, .inl (c 0, 6, .inl f9)), (h6, .inl (c 0, 6, .inl f12)), (h7, .inl (c 0, 6, .inl f16))] := ⟨_, rfl, (Rg.upd gf7 (by omega) (by omega)), hP, hD⟩
    refine lv_aload_n hx hb dX1_add_30 rfl (lv_at hl 0 rfl) ?_
    refine va_get (D := D) (ci := 1) (v := .ref h5) (C := RX1) (T := TX1) (N := 8) hx hb hts i_X1 hown hK hP 0 rfl rfl 3 (by decide) (hts _ kw_289) (fun _ h9 => h9) rfl dX1_add_31 ?_
    refine lv_aload_n hx hb dX1_add_34 rfl (lv_at hl 0 rfl) ?_
    refine va_get (D := D) (ci := 1) (v := .int v1) (C := RX1) (T := TX1) (N := 8) hx hb hts i_X1 hown hK hP 0 rfl rfl 0 (by decide) (hts _ kw_273) (fun _ h9 => h9) rfl dX1_add_35 ?_
    refine lv_iload_n hx hb dX1_add_38 rfl (lv_at hl 3 rfl) ?_
    refine va_iast hx hb hK hP hD hS 5 0 rfl rfl (in_of (by omega) (by omega)) dX1_add_39 (fun H locs hP hD hS => ?_)
    obtain ⟨f1004, ef1004, hP, hD⟩ : ∃ y : Nat → Int32, y = upd f9 (Int32.toNatClampNeg v1) a3 ∧ va_P D vwCl [(h0, .inr (1, [.int v1, .ref h2, .ref h4, .ref h5, .ref h1, .ref h6, .ref h3, .ref h7])), (h1, .inl (c 0, 6, .inl f2)), (h2, .inl (c 0, 6, .inl f1002)), (h3, .inl (c 0, 6, .inl f4)), (h4, .inl (c 0, 6, .inl f1003)), (h5, .inl (c 0, 6, .inl y)), (h6, .inl (c 0, 6, .inl f12)), (h7, .inl (c 0, 6, .inl f16))] H ∧ va_D A [(h0, .inr (1, [.int v1, .ref h2, .ref h4, .ref h5, .ref h1, .ref h6, .ref h3, .ref h7])), (h1, .inl (c 0, 6, .inl f2)), (h2, .inl (c 0, 6, .inl f1002)), (h3, .inl (c 0, 6, .inl f4)), (h4, .inl (c 0, 6, .inl f1003)), (h5, .inl (c 0, 6, .inl y)), (h6, .inl (c 0, 6, .inl f12)), (h7, .inl (c 0, 6, .inl f16))] := ⟨_, rfl, hP, hD⟩
    refine lv_aload_n hx hb dX1_add_40 rfl (lv_at hl 0 rfl) ?_
    refine va_get (D := D) (ci := 1) (v := .ref h1) (C := RX1) (T := TX1) (N := 8) hx hb hts i_X1 hown hK hP 0 rfl rfl 4 (by decide) (hts _ kw_293) (fun _ h9 => h9) rfl dX1_add_41 ?_
    refine lv_aload_n hx hb dX1_add_44 rfl (lv_at hl 0 rfl) ?_
    refine va_get (D := D) (ci := 1) (v := .int v1) (C := RX1) (T := TX1) (N := 8) hx hb hts i_X1 hown hK hP 0 rfl rfl 0 (by decide) (hts _ kw_273) (fun _ h9 => h9) rfl dX1_add_45 ?_
    refine lv_iconst (v := (-1)) hx hb dX1_add_48 (by decide) ?_
    refine va_iast hx hb hK hP hD hS 1 0 rfl rfl (in_of (by omega) (by omega)) dX1_add_49 (fun H locs hP hD hS => ?_)
    obtain ⟨f1005, ef1005, hf1005, hP, hD⟩ : ∃ y : Nat → Int32, y = upd f2 (Int32.toNatClampNeg v1) (-1) ∧ Rg y (-1) 13 ∧ va_P D vwCl [(h0, .inr (1, [.int v1, .ref h2, .ref h4, .ref h5, .ref h1, .ref h6, .ref h3, .ref h7])), (h1, .inl (c 0, 6, .inl y)), (h2, .inl (c 0, 6, .inl f1002)), (h3, .inl (c 0, 6, .inl f4)), (h4, .inl (c 0, 6, .inl f1003)), (h5, .inl (c 0, 6, .inl f1004)), (h6, .inl (c 0, 6, .inl f12)), (h7, .inl (c 0, 6, .inl f16))] H ∧ va_D A [(h0, .inr (1, [.int v1, .ref h2, .ref h4, .ref h5, .ref h1, .ref h6, .ref h3, .ref h7])), (h1, .inl (c 0, 6, .inl y)), (h2, .inl (c 0, 6, .inl f1002)), (h3, .inl (c 0, 6, .inl f4)), (h4, .inl (c 0, 6, .inl f1003)), (h5, .inl (c 0, 6, .inl f1004)), (h6, .inl (c 0, 6, .inl f12)), (h7, .inl (c 0, 6, .inl f16))] := ⟨_, rfl, (Rg.upd gf2 (by decide) (by decide)), hP, hD⟩
    refine lv_aload_n hx hb dX1_add_50 rfl (lv_at hl 0 rfl) ?_
    refine va_get (D := D) (ci := 1) (v := .ref h6) (C := RX1) (T := TX1) (N := 8) hx hb hts i_X1 hown hK hP 0 rfl rfl 5 (by decide) (hts _ kw_296) (fun _ h9 => h9) rfl dX1_add_51 ?_
    refine lv_aload_n hx hb dX1_add_54 rfl (lv_at hl 0 rfl) ?_
    refine va_get (D := D) (ci := 1) (v := .int v1) (C := RX1) (T := TX1) (N := 8) hx hb hts i_X1 hown hK hP 0 rfl rfl 0 (by decide) (hts _ kw_273) (fun _ h9 => h9) rfl dX1_add_55 ?_
    refine lv_iconst (v := 0) hx hb dX1_add_58 (by decide) ?_
    refine va_iast hx hb hK hP hD hS 6 0 rfl rfl (in_of (by omega) (by omega)) dX1_add_59 (fun H locs hP hD hS => ?_)
    obtain ⟨f1006, ef1006, hP, hD⟩ : ∃ y : Nat → Int32, y = upd f12 (Int32.toNatClampNeg v1) 0 ∧ va_P D vwCl [(h0, .inr (1, [.int v1, .ref h2, .ref h4, .ref h5, .ref h1, .ref h6, .ref h3, .ref h7])), (h1, .inl (c 0, 6, .inl f1005)), (h2, .inl (c 0, 6, .inl f1002)), (h3, .inl (c 0, 6, .inl f4)), (h4, .inl (c 0, 6, .inl f1003)), (h5, .inl (c 0, 6, .inl f1004)), (h6, .inl (c 0, 6, .inl y)), (h7, .inl (c 0, 6, .inl f16))] H ∧ va_D A [(h0, .inr (1, [.int v1, .ref h2, .ref h4, .ref h5, .ref h1, .ref h6, .ref h3, .ref h7])), (h1, .inl (c 0, 6, .inl f1005)), (h2, .inl (c 0, 6, .inl f1002)), (h3, .inl (c 0, 6, .inl f4)), (h4, .inl (c 0, 6, .inl f1003)), (h5, .inl (c 0, 6, .inl f1004)), (h6, .inl (c 0, 6, .inl y)), (h7, .inl (c 0, 6, .inl f16))] := ⟨_, rfl, hP, hD⟩
    refine lv_aload_n hx hb dX1_add_60 rfl (lv_at hl 0 rfl) ?_
    refine va_get (D := D) (ci := 1) (v := .ref h3) (C := RX1) (T := TX1) (N := 8) hx hb hts i_X1 hown hK hP 0 rfl rfl 6 (by decide) (hts _ kw_299) (fun _ h9 => h9) rfl dX1_add_61 ?_
    refine lv_aload_n hx hb dX1_add_64 rfl (lv_at hl 0 rfl) ?_
    refine va_get (D := D) (ci := 1) (v := .int v1) (C := RX1) (T := TX1) (N := 8) hx hb hts i_X1 hown hK hP 0 rfl rfl 0 (by decide) (hts _ kw_273) (fun _ h9 => h9) rfl dX1_add_65 ?_
    refine lv_iconst (v := (-1)) hx hb dX1_add_68 (by decide) ?_
    refine va_iast hx hb hK hP hD hS 3 0 rfl rfl (in_of (by omega) (by omega)) dX1_add_69 (fun H locs hP hD hS => ?_)
    obtain ⟨f1007, ef1007, hf1007, hP, hD⟩ : ∃ y : Nat → Int32, y = upd f4 (Int32.toNatClampNeg v1) (-1) ∧ Rg y (-1) 7 ∧ va_P D vwCl [(h0, .inr (1, [.int v1, .ref h2, .ref h4, .ref h5, .ref h1, .ref h6, .ref h3, .ref h7])), (h1, .inl (c 0, 6, .inl f1005)), (h2, .inl (c 0, 6, .inl f1002)), (h3, .inl (c 0, 6, .inl y)), (h4, .inl (c 0, 6, .inl f1003)), (h5, .inl (c 0, 6, .inl f1004)), (h6, .inl (c 0, 6, .inl f1006)), (h7, .inl (c 0, 6, .inl f16))] H ∧ va_D A [(h0, .inr (1, [.int v1, .ref h2, .ref h4, .ref h5, .ref h1, .ref h6, .ref h3, .ref h7])), (h1, .inl (c 0, 6, .inl f1005)), (h2, .inl (c 0, 6, .inl f1002)), (h3, .inl (c 0, 6, .inl y)), (h4, .inl (c 0, 6, .inl f1003)), (h5, .inl (c 0, 6, .inl f1004)), (h6, .inl (c 0, 6, .inl f1006)), (h7, .inl (c 0, 6, .inl f16))] := ⟨_, rfl, (Rg.upd gf4 (by decide) (by decide)), hP, hD⟩
    refine lv_aload_n hx hb dX1_add_70 rfl (lv_at hl 0 rfl) ?_
    refine va_get (D := D) (ci := 1) (v := .ref h7) (C := RX1) (T := TX1) (N := 8) hx hb hts i_X1 hown hK hP 0 rfl rfl 7 (by decide) (hts _ kw_302) (fun _ h9 => h9) rfl dX1_add_71 ?_
    refine lv_aload_n hx hb dX1_add_74 rfl (lv_at hl 0 rfl) ?_
    refine va_get (D := D) (ci := 1) (v := .int v1) (C := RX1) (T := TX1) (N := 8) hx hb hts i_X1 hown hK hP 0 rfl rfl 0 (by decide) (hts _ kw_273) (fun _ h9 => h9) rfl dX1_add_75 ?_
    refine lv_iload_n hx hb dX1_add_78 rfl (lv_at hl 1 rfl) ?_
    refine lv_iload_n hx hb dX1_add_79 rfl (lv_at hl 2 rfl) ?_
    refine B_icmp_ne (tgt := 87) (X := a1.toInt) (Y := a2.toInt) hx hb dX1_add_80 (by decide) rfl rfl (fun hc1008 => ?_) (fun hc1008 => ?_)
    · refine lv_iconst (v := (-1)) hx hb dX1_add_87 (by decide) ?_
      refine va_iast hx hb hK hP hD hS 7 0 rfl rfl (in_of (by omega) (by omega)) dX1_add_88 (fun H locs hP hD hS => ?_)
      obtain ⟨f1009, ef1009, hP, hD⟩ : ∃ y : Nat → Int32, y = upd f16 (Int32.toNatClampNeg v1) (-1) ∧ va_P D vwCl [(h0, .inr (1, [.int v1, .ref h2, .ref h4, .ref h5, .ref h1, .ref h6, .ref h3, .ref h7])), (h1, .inl (c 0, 6, .inl f1005)), (h2, .inl (c 0, 6, .inl f1002)), (h3, .inl (c 0, 6, .inl f1007)), (h4, .inl (c 0, 6, .inl f1003)), (h5, .inl (c 0, 6, .inl f1004)), (h6, .inl (c 0, 6, .inl f1006)), (h7, .inl (c 0, 6, .inl y))] H ∧ va_D A [(h0, .inr (1, [.int v1, .ref h2, .ref h4, .ref h5, .ref h1, .ref h6, .ref h3, .ref h7])), (h1, .inl (c 0, 6, .inl f1005)), (h2, .inl (c 0, 6, .inl f1002)), (h3, .inl (c 0, 6, .inl f1007)), (h4, .inl (c 0, 6, .inl f1003)), (h5, .inl (c 0, 6, .inl f1004)), (h6, .inl (c 0, 6, .inl f1006)), (h7, .inl (c 0, 6, .inl y))] := ⟨_, rfl, hP, hD⟩
      refine lv_aload_n hx hb dX1_add_89 rfl (lv_at hl 0 rfl) ?_
      refine lv_dup hx hb dX1_add_90 rfl ?_
      refine va_get (D := D) (ci := 1) (v := .int v1) (C := RX1) (T := TX1) (N := 8) hx hb hts i_X1 hown hK hP 0 rfl rfl 0 (by decide) (hts _ kw_273) (fun _ h9 => h9) rfl dX1_add_91 ?_
      refine lv_iconst (v := 1) hx hb dX1_add_94 (by decide) ?_
      refine lv_iadd hx hb dX1_add_95 ?_
      refine q_add (X := v1.toInt) (Y := 1) rfl (by decide) (by omega) (by omega) (fun z1010 ez1010 hz1010 => ?_)
      refine va_put (D := D) (ci := 1) (v := .int z1010) (ty := .int) (C := RX1) (T := TX1) (N := 8) hx hb hts i_X1 tyX1 tyX1_ok nmX1 hown hK hP hD hS 0 rfl rfl 0 (by decide) (hts _ kw_273) (fun _ h9 => h9) rfl (tyX1_ok 0 (by decide)) rfl rfl (Nat.le_of_ble_eq_true rfl) dX1_add_96 (fun H locs hP hD hS => ?_)
      have hP : va_P D vwCl [(h0, .inr (1, [.int z1010, .ref h2, .ref h4, .ref h5, .ref h1, .ref h6, .ref h3, .ref h7])), (h1, .inl (c 0, 6, .inl f1005)), (h2, .inl (c 0, 6, .inl f1002)), (h3, .inl (c 0, 6, .inl f1007)), (h4, .inl (c 0, 6, .inl f1003)), (h5, .inl (c 0, 6, .inl f1004)), (h6, .inl (c 0, 6, .inl f1006)), (h7, .inl (c 0, 6, .inl f1009))] H := hP
      have hD : va_D A [(h0, .inr (1, [.int z1010, .ref h2, .ref h4, .ref h5, .ref h1, .ref h6, .ref h3, .ref h7])), (h1, .inl (c 0, 6, .inl f1005)), (h2, .inl (c 0, 6, .inl f1002)), (h3, .inl (c 0, 6, .inl f1007)), (h4, .inl (c 0, 6, .inl f1003)), (h5, .inl (c 0, 6, .inl f1004)), (h6, .inl (c 0, 6, .inl f1006)), (h7, .inl (c 0, 6, .inl f1009))] := hD
      have km : (-1 : Int32).toInt = -1 := by decide
      have hv1011 : OnOK gn1 z1010 f1005 := by rw [ef1005]; exact OnOK.add ge1 (by omega) (by omega) (by omega)
      have hv1012 : PlOK z1010 f1002 f1005 := by rw [ef1005, ef1002]; exact PlOK.add ge2 (by omega) (by omega) (by omega)
      have hv1013 : HdOK z1010 f1005 f1007 := by rw [ef1005, ef1007]; exact HdOK.add ge3 (by omega) (by omega) km
      exact rV hQ hx hb hr hlocks hS (Nat.le_of_ble_eq_true rfl) (Nat.le_of_ble_eq_true rfl) dX1_add_99 (fun t ht => ⟨z1010, f1005, f1002, f1007, f1003, f1004, f1006, f1009, ⟨by omega, by omega⟩, hf1005, hf1002, hf1007, hf1003, hv1011, hv1012, hv1013, by rw [ht]; exact hP, hD⟩)
    · refine lv_iconst (v := 0) hx hb dX1_add_83 (by decide) ?_
      refine lv_goto (tgt := 88) hx hb dX1_add_84 (by decide) ?_
      refine va_iast hx hb hK hP hD hS 7 0 rfl rfl (in_of (by omega) (by omega)) dX1_add_88 (fun H locs hP hD hS => ?_)
      obtain ⟨f1014, ef1014, hP, hD⟩ : ∃ y : Nat → Int32, y = upd f16 (Int32.toNatClampNeg v1) 0 ∧ va_P D vwCl [(h0, .inr (1, [.int v1, .ref h2, .ref h4, .ref h5, .ref h1, .ref h6, .ref h3, .ref h7])), (h1, .inl (c 0, 6, .inl f1005)), (h2, .inl (c 0, 6, .inl f1002)), (h3, .inl (c 0, 6, .inl f1007)), (h4, .inl (c 0, 6, .inl f1003)), (h5, .inl (c 0, 6, .inl f1004)), (h6, .inl (c 0, 6, .inl f1006)), (h7, .inl (c 0, 6, .inl y))] H ∧ va_D A [(h0, .inr (1, [.int v1, .ref h2, .ref h4, .ref h5, .ref h1, .ref h6, .ref h3, .ref h7])), (h1, .inl (c 0, 6, .inl f1005)), (h2, .inl (c 0, 6, .inl f1002)), (h3, .inl (c 0, 6, .inl f1007)), (h4, .inl (c 0, 6, .inl f1003)), (h5, .inl (c 0, 6, .inl f1004)), (h6, .inl (c 0, 6, .inl f1006)), (h7, .inl (c 0, 6, .inl y))] := ⟨_, rfl, hP, hD⟩
      refine lv_aload_n hx hb dX1_add_89 rfl (lv_at hl 0 rfl) ?_
      refine lv_dup hx hb dX1_add_90 rfl ?_
      refine va_get (D := D) (ci := 1) (v := .int v1) (C := RX1) (T := TX1) (N := 8) hx hb hts i_X1 hown hK hP 0 rfl rfl 0 (by decide) (hts _ kw_273) (fun _ h9 => h9) rfl dX1_add_91 ?_
      refine lv_iconst (v := 1) hx hb dX1_add_94 (by decide) ?_
      refine lv_iadd hx hb dX1_add_95 ?_
      refine q_add (X := v1.toInt) (Y := 1) rfl (by decide) (by omega) (by omega) (fun z1015 ez1015 hz1015 => ?_)
      refine va_put (D := D) (ci := 1) (v := .int z1015) (ty := .int) (C := RX1) (T := TX1) (N := 8) hx hb hts i_X1 tyX1 tyX1_ok nmX1 hown hK hP hD hS 0 rfl rfl 0 (by decide) (hts _ kw_273) (fun _ h9 => h9) rfl (tyX1_ok 0 (by decide)) rfl rfl (Nat.le_of_ble_eq_true rfl) dX1_add_96 (fun H locs hP hD hS => ?_)
      have hP : va_P D vwCl [(h0, .inr (1, [.int z1015, .ref h2, .ref h4, .ref h5, .ref h1, .ref h6, .ref h3, .ref h7])), (h1, .inl (c 0, 6, .inl f1005)), (h2, .inl (c 0, 6, .inl f1002)), (h3, .inl (c 0, 6, .inl f1007)), (h4, .inl (c 0, 6, .inl f1003)), (h5, .inl (c 0, 6, .inl f1004)), (h6, .inl (c 0, 6, .inl f1006)), (h7, .inl (c 0, 6, .inl f1014))] H := hP
      have hD : va_D A [(h0, .inr (1, [.int z1015, .ref h2, .ref h4, .ref h5, .ref h1, .ref h6, .ref h3, .ref h7])), (h1, .inl (c 0, 6, .inl f1005)), (h2, .inl (c 0, 6, .inl f1002)), (h3, .inl (c 0, 6, .inl f1007)), (h4, .inl (c 0, 6, .inl f1003)), (h5, .inl (c 0, 6, .inl f1004)), (h6, .inl (c 0, 6, .inl f1006)), (h7, .inl (c 0, 6, .inl f1014))] := hD
      have km : (-1 : Int32).toInt = -1 := by decide
      have hv1016 : OnOK gn1 z1015 f1005 := by rw [ef1005]; exact OnOK.add ge1 (by omega) (by omega) (by omega)
      have hv1017 : PlOK z1015 f1002 f1005 := by rw [ef1005, ef1002]; exact PlOK.add ge2 (by omega) (by omega) (by omega)
      have hv1018 : HdOK z1015 f1005 f1007 := by rw [ef1005, ef1007]; exact HdOK.add ge3 (by omega) (by omega) km
      exact rV hQ hx hb hr hlocks hS (Nat.le_of_ble_eq_true rfl) (Nat.le_of_ble_eq_true rfl) dX1_add_99 (fun t ht => ⟨z1015, f1005, f1002, f1007, f1003, f1004, f1006, f1014, ⟨by omega, by omega⟩, hf1005, hf1002, hf1007, hf1003, hv1016, hv1017, hv1018, by rw [ht]; exact hP, hD⟩)
  · exact rV hQ hx hb hr hlocks hS (Nat.le_of_ble_eq_true rfl) (Nat.le_of_ble_eq_true rfl) dX1_add_9 (fun t ht => ⟨v1, f2, f3, f4, f7, f9, f12, f16, gv1, gf2, gf3, gf4, gf7, ge1, ge2, ge3, by rw [ht]; exact hP, hD⟩)
set_option maxHeartbeats 4000000 in
set_option maxRecDepth 100000 in
theorem m_X1_copyFrom (l : Launch) (D : va_G) (c : Nat → ClassId) (h0 h1 h2 h3 h4 h5 h6 h7 h8 h9 h10 h11 h12 h13 h14 h15 : Nat) (sz : Nat) (v1 : Int32) (v2 : Int32) (f3 : Nat → Int32) (f4 : Nat → Int32) (f5 : Nat → Int32) (f6 : Nat → Int32) (f7 : Nat → Int32) (f8 : Nat → Int32) (f10 : Nat → Int32) (f11 : Nat → Int32) (f13 : Nat → Int32) (f14 : Nat → Int32) (f17 : Nat → Int32) (f18 : Nat → Int32) (f21 : Nat → Int32) (f22 : Nat → Int32) (gn1 : Int32) (gv1 : 0 ≤ v1.toInt ∧ v1.toInt ≤ 6) (gv2 : 0 ≤ v2.toInt ∧ v2.toInt ≤ 6) (gf3 : Rg f3 (-1) 13) (gf4 : Rg f4 0 8) (gf5 : Rg f5 (-1) 7) (gf6 : Rg f6 (-1) 13) (gf7 : Rg f7 0 8) (gf8 : Rg f8 (-1) 7) (gf10 : Rg f10 0 7) (gf11 : Rg f11 0 7) (ge0 : OnOK gn1 v2 f3) (ge1 : PlOK v2 f4 f3) (ge2 : HdOK v2 f3 f5) : Met l yX1_copyFrom (Cond.code yX1_copyFrom cX1_copyFrom 2 none :: TB) ({ frames := 1, cells := 0, slots := 0, locals := 18 } : Room) (va_Pc [.ref h0, .ref h1] (PW D c [(h0, .inr (1, [.int v1, .ref h6, .ref h9, .ref h11, .ref h5, .ref h13, .ref h7, .ref h15])), (h1, .inr (1, [.int v2, .ref h3, .ref h8, .ref h10, .ref h2, .ref h12, .ref h4, .ref h14])), (h2, .inl (c 0, 6, .inl f3)), (h3, .inl (c 0, 6, .inl f4)), (h4, .inl (c 0, 6, .inl f5)), (h5, .inl (c 0, 6, .inl f6)), (h6, .inl (c 0, 6, .inl f7)), (h7, .inl (c 0, 6, .inl f8)), (h8, .inl (c 0, 6, .inl f10)), (h9, .inl (c 0, 6, .inl f11)), (h10, .inl (c 0, 6, .inl f13)), (h11, .inl (c 0, 6, .inl f14)), (h12, .inl (c 0, 6, .inl f17)), (h13, .inl (c 0, 6, .inl f18)), (h14, .inl (c 0, 6, .inl f21)), (h15, .inl (c 0, 6, .inl f22))] sz)) ((QV (fun A t => ∃ (f900 : Nat → Int32) (f901 : Nat → Int32) (f902 : Nat → Int32) (f903 : Nat → Int32) (f904 : Nat → Int32) (f905 : Nat → Int32) (f906 : Nat → Int32), (Rg f900 (-1) 13) ∧ (Rg f901 0 8) ∧ (Rg f902 (-1) 7) ∧ (Rg f903 0 7) ∧ (OnOK gn1 v2 f900) ∧ (PlOK v2 f901 f900) ∧ (HdOK v2 f900 f902) ∧ va_P D vwCl [(h0, .inr (1, [.int v2, .ref h6, .ref h9, .ref h11, .ref h5, .ref h13, .ref h7, .ref h15])), (h1, .inr (1, [.int v2, .ref h3, .ref h8, .ref h10, .ref h2, .ref h12, .ref h4, .ref h14])), (h2, .inl (c 0, 6, .inl f3)), (h3, .inl (c 0, 6, .inl f4)), (h4, .inl (c 0, 6, .inl f5)), (h5, .inl (c 0, 6, .inl f900)), (h6, .inl (c 0, 6, .inl f901)), (h7, .inl (c 0, 6, .inl f902)), (h8, .inl (c 0, 6, .inl f10)), (h9, .inl (c 0, 6, .inl f903)), (h10, .inl (c 0, 6, .inl f13)), (h11, .inl (c 0, 6, .inl f904)), (h12, .inl (c 0, 6, .inl f17)), (h13, .inl (c 0, 6, .inl f905)), (h14, .inl (c 0, 6, .inl f21)), (h15, .inl (c 0, 6, .inl f906))] t.heap ∧ va_D A [(h0, .inr (1, [.int v2, .ref h6, .ref h9, .ref h11, .ref h5, .ref h13, .ref h7, .ref h15])), (h1, .inr (1, [.int v2, .ref h3, .ref h8, .ref h10, .ref h2, .ref h12, .ref h4, .ref h14])), (h2, .inl (c 0, 6, .inl f3)), (h3, .inl (c 0, 6, .inl f4)), (h4, .inl (c 0, 6, .inl f5)), (h5, .inl (c 0, 6, .inl f900)), (h6, .inl (c 0, 6, .inl f901)), (h7, .inl (c 0, 6, .inl f902)), (h8, .inl (c 0, 6, .inl f10)), (h9, .inl (c 0, 6, .inl f903)), (h10, .inl (c 0, 6, .inl f13)), (h11, .inl (c 0, 6, .inl f904)), (h12, .inl (c 0, 6, .inl f17)), (h13, .inl (c 0, 6, .inl f905)), (h14, .inl (c 0, 6, .inl f21)), (h15, .inl (c 0, 6, .inl f906))])) (va_A [(h0, .inr (1, [.int v1, .ref h6, .ref h9, .ref h11, .ref h5, .ref h13, .ref h7, .ref h15])), (h1, .inr (1, [.int v2, .ref h3, .ref h8, .ref h10, .ref h2, .ref h12, .ref h4, .ref h14])), (h2, .inl (c 0, 6, .inl f3)), (h3, .inl (c 0, 6, .inl f4)), (h4, .inl (c 0, 6, .inl f5)), (h5, .inl (c 0, 6, .inl f6)), (h6, .inl (c 0, 6, .inl f7)), (h7, .inl (c 0, 6, .inl f8)), (h8, .inl (c 0, 6, .inl f10)), (h9, .inl (c 0, 6, .inl f11)), (h10, .inl (c 0, 6, .inl f13)), (h11, .inl (c 0, 6, .inl f14)), (h12, .inl (c 0, 6, .inl f17)), (h13, .inl (c 0, 6, .inl f18)), (h14, .inl (c 0, 6, .inl f21)), (h15, .inl (c 0, 6, .inl f22))] sz)) 0 0 (va_A [(h0, .inr (1, [.int v1, .ref h6, .ref h9, .ref h11, .ref h5, .ref h13, .ref h7, .ref h15])), (h1, .inr (1, [.int v2, .ref h3, .ref h8, .ref h10, .ref h2, .ref h12, .ref h4, .ref h14])), (h2, .inl (c 0, 6, .inl f3)), (h3, .inl (c 0, 6, .inl f4)), (h4, .inl (c 0, 6, .inl f5)), (h5, .inl (c 0, 6, .inl f6)), (h6, .inl (c 0, 6, .inl f7)), (h7, .inl (c 0, 6, .inl f8)), (h8, .inl (c 0, 6, .inl f10)), (h9, .inl (c 0, 6, .inl f11)), (h10, .inl (c 0, 6, .inl f13)), (h11, .inl (c 0, 6, .inl f14)), (h12, .inl (c 0, 6, .inl f17)), (h13, .inl (c 0, 6, .inl f18)), (h14, .inl (c 0, 6, .inl f21)), (h15, .inl (c 0, 6, .inl f22))] sz) := by
  refine start2 (by decide +kernel) (Nat.le_of_ble_eq_true rfl) ?_
  intro p e s m below meth cd A ls Q hx hb hr hml hts hown hlocks hin hA hS hK hP hD hN hl hQ
  have hown : s.vm.findClass RX1 = some m.cls := hown
  have hl : lv_has ls 2 [(0, .ref h0), (1, .ref h1)] := hl
  have hP : va_P D vwCl [(h0, .inr (1, [.int v1, .ref h6, .ref h9, .ref h11, .ref h5, .ref h13, .ref h7, .ref h15])), (h1, .inr (1, [.int v2, .ref h3, .ref h8, .ref h10, .ref h2, .ref h12, .ref h4, .ref h14])), (h2, .inl (c 0, 6, .inl f3)), (h3, .inl (c 0, 6, .inl f4)), (h4, .inl (c 0, 6, .inl f5)), (h5, .inl (c 0, 6, .inl f6)), (h6, .inl (c 0, 6, .inl f7)), (h7, .inl (c 0, 6, .inl f8)), (h8, .inl (c 0, 6, .inl f10)), (h9, .inl (c 0, 6, .inl f11)), (h10, .inl (c 0, 6, .inl f13)), (h11, .inl (c 0, 6, .inl f14)), (h12, .inl (c 0, 6, .inl f17)), (h13, .inl (c 0, 6, .inl f18)), (h14, .inl (c 0, 6, .inl f21)), (h15, .inl (c 0, 6, .inl f22))] s.heap := hP
  refine lv_aload_n hx hb dX1_copyFrom_0 rfl (lv_at hl 0 rfl) ?_
  refine lv_aload_n hx hb dX1_copyFrom_1 rfl (lv_at hl 1 rfl) ?_
  refine va_get (D := D) (ci := 1) (v := .int v2) (C := RX1) (T := TX1) (N := 8) hx hb hts i_X1 hown hK hP 1 rfl rfl 0 (by decide) (hts _ kw_273) (fun _ h9 => h9) rfl dX1_copyFrom_2 ?_
  refine va_put (D := D) (ci := 1) (v := .int v2) (ty := .int) (C := RX1) (T := TX1) (N := 8) hx hb hts i_X1 tyX1 tyX1_ok nmX1 hown hK hP hD hS 0 rfl rfl 0 (by decide) (hts _ kw_273) (fun _ h9 => h9) rfl (tyX1_ok 0 (by decide)) rfl rfl (Nat.le_of_ble_eq_true rfl) dX1_copyFrom_5 (fun H locs hP hD hS => ?_)
  have hP : va_P D vwCl [(h0, .inr (1, [.int v2, .ref h6, .ref h9, .ref h11, .ref h5, .ref h13, .ref h7, .ref h15])), (h1, .inr (1, [.int v2, .ref h3, .ref h8, .ref h10, .ref h2, .ref h12, .ref h4, .ref h14])), (h2, .inl (c 0, 6, .inl f3)), (h3, .inl (c 0, 6, .inl f4)), (h4, .inl (c 0, 6, .inl f5)), (h5, .inl (c 0, 6, .inl f6)), (h6, .inl (c 0, 6, .inl f7)), (h7, .inl (c 0, 6, .inl f8)), (h8, .inl (c 0, 6, .inl f10)), (h9, .inl (c 0, 6, .inl f11)), (h10, .inl (c 0, 6, .inl f13)), (h11, .inl (c 0, 6, .inl f14)), (h12, .inl (c 0, 6, .inl f17)), (h13, .inl (c 0, 6, .inl f18)), (h14, .inl (c 0, 6, .inl f21)), (h15, .inl (c 0, 6, .inl f22))] H := hP
  have hD : va_D A [(h0, .inr (1, [.int v2, .ref h6, .ref h9, .ref h11, .ref h5, .ref h13, .ref h7, .ref h15])), (h1, .inr (1, [.int v2, .ref h3, .ref h8, .ref h10, .ref h2, .ref h12, .ref h4, .ref h14])), (h2, .inl (c 0, 6, .inl f3)), (h3, .inl (c 0, 6, .inl f4)), (h4, .inl (c 0, 6, .inl f5)), (h5, .inl (c 0, 6, .inl f6)), (h6, .inl (c 0, 6, .inl f7)), (h7, .inl (c 0, 6, .inl f8)), (h8, .inl (c 0, 6, .inl f10)), (h9, .inl (c 0, 6, .inl f11)), (h10, .inl (c 0, 6, .inl f13)), (h11, .inl (c 0, 6, .inl f14)), (h12, .inl (c 0, 6, .inl f17)), (h13, .inl (c 0, 6, .inl f18)), (h14, .inl (c 0, 6, .inl f21)), (h15, .inl (c 0, 6, .inl f22))] := hD
  refine lv_aload_n hx hb dX1_copyFrom_8 rfl (lv_at hl 1 rfl) ?_
  refine va_get (D := D) (ci := 1) (v := .ref h3) (C := RX1) (T := TX1) (N := 8) hx hb hts i_X1 hown hK hP 1 rfl rfl 1 (by decide) (hts _ kw_279) (fun _ h9 => h9) rfl dX1_copyFrom_9 ?_
  refine lv_iconst (v := 0) hx hb dX1_copyFrom_12 (by decide) ?_
  refine lv_aload_n hx hb dX1_copyFrom_13 rfl (lv_at hl 0 rfl) ?_
  refine va_get (D := D) (ci := 1) (v := .ref h6) (C := RX1) (T := TX1) (N := 8) hx hb hts i_X1 hown hK hP 0 rfl rfl 1 (by decide) (hts _ kw_279) (fun _ h9 => h9) rfl dX1_copyFrom_14 ?_
  refine lv_iconst (v := 0) hx hb dX1_copyFrom_17 (by decide) ?_
  refine lv_aload_n hx hb dX1_copyFrom_18 rfl (lv_at hl 0 rfl) ?_
  refine va_get (D := D) (ci := 1) (v := .int v2) (C := RX1) (T := TX1) (N := 8) hx hb hts i_X1 hown hK hP 0 rfl rfl 0 (by decide) (hts _ kw_273) (fun _ h9 => h9) rfl dX1_copyFrom_19 ?_
  refine va_copyi (ty := .int) hx hb (by rw [hml]; exact hl.1.symm) hown (hts _ kw_634) (hts _ kw_629) (hts _ kw_628) (hts _ kw_128) hK hP hD hS 3 6 0 0 rfl rfl rfl rfl rfl (by decide) (by decide) (nl_of (X := v2.toInt) (Y := 0) rfl (by decide) (by omega)) (cp0 (by omega) (by omega)) (cp0 (by omega) (by omega)) (fun _ _ => rfl) (Nat.le_of_ble_eq_true rfl) (Nat.le_of_ble_eq_true rfl) dX1_copyFrom_22 (fun H locs hP hD hS => ?_)
  obtain ⟨f1001, ef1001, hf1001, hP, hD⟩ : ∃ y : Nat → Int32, y = va_cpy f4 f7 (Int32.toNatClampNeg 0) (Int32.toNatClampNeg 0) (Int32.toNatClampNeg v2) ∧ Rg y 0 8 ∧ va_P D vwCl [(h0, .inr (1, [.int v2, .ref h6, .ref h9, .ref h11, .ref h5, .ref h13, .ref h7, .ref h15])), (h1, .inr (1, [.int v2, .ref h3, .ref h8, .ref h10, .ref h2, .ref h12, .ref h4, .ref h14])), (h2, .inl (c 0, 6, .inl f3)), (h3, .inl (c 0, 6, .inl f4)), (h4, .inl (c 0, 6, .inl f5)), (h5, .inl (c 0, 6, .inl f6)), (h6, .inl (c 0, 6, .inl y)), (h7, .inl (c 0, 6, .inl f8)), (h8, .inl (c 0, 6, .inl f10)), (h9, .inl (c 0, 6, .inl f11)), (h10, .inl (c 0, 6, .inl f13)), (h11, .inl (c 0, 6, .inl f14)), (h12, .inl (c 0, 6, .inl f17)), (h13, .inl (c 0, 6, .inl f18)), (h14, .inl (c 0, 6, .inl f21)), (h15, .inl (c 0, 6, .inl f22))] H ∧ va_D A [(h0, .inr (1, [.int v2, .ref h6, .ref h9, .ref h11, .ref h5, .ref h13, .ref h7, .ref h15])), (h1, .inr (1, [.int v2, .ref h3, .ref h8, .ref h10, .ref h2, .ref h12, .ref h4, .ref h14])), (h2, .inl (c 0, 6, .inl f3)), (h3, .inl (c 0, 6, .inl f4)), (h4, .inl (c 0, 6, .inl f5)), (h5, .inl (c 0, 6, .inl f6)), (h6, .inl (c 0, 6, .inl y)), (h7, .inl (c 0, 6, .inl f8)), (h8, .inl (c 0, 6, .inl f10)), (h9, .inl (c 0, 6, .inl f11)), (h10, .inl (c 0, 6, .inl f13)), (h11, .inl (c 0, 6, .inl f14)), (h12, .inl (c 0, 6, .inl f17)), (h13, .inl (c 0, 6, .inl f18)), (h14, .inl (c 0, 6, .inl f21)), (h15, .inl (c 0, 6, .inl f22))] := ⟨_, rfl, (Rg.cpy gf4 gf7), hP, hD⟩
  refine lv_aload_n hx hb dX1_copyFrom_25 rfl (lv_at hl 1 rfl) ?_
  refine va_get (D := D) (ci := 1) (v := .ref h8) (C := RX1) (T := TX1) (N := 8) hx hb hts i_X1 hown hK hP 1 rfl rfl 2 (by decide) (hts _ kw_285) (fun _ h9 => h9) rfl dX1_copyFrom_26 ?_
  refine lv_iconst (v := 0) hx hb dX1_copyFrom_29 (by decide) ?_
  refine lv_aload_n hx hb dX1_copyFrom_30 rfl (lv_at hl 0 rfl) ?_
  refine va_get (D := D) (ci := 1) (v := .ref h9) (C := RX1) (T := TX1) (N := 8) hx hb hts i_X1 hown hK hP 0 rfl rfl 2 (by decide) (hts _ kw_285) (fun _ h9 => h9) rfl dX1_copyFrom_31 ?_
  refine lv_iconst (v := 0) hx hb dX1_copyFrom_34 (by decide) ?_
  refine lv_aload_n hx hb dX1_copyFrom_35 rfl (lv_at hl 0 rfl) ?_
  refine va_get (D := D) (ci := 1) (v := .int v2) (C := RX1) (T := TX1) (N := 8) hx hb hts i_X1 hown hK hP 0 rfl rfl 0 (by decide) (hts _ kw_273) (fun _ h9 => h9) rfl dX1_copyFrom_36 ?_
  refine va_copyi (ty := .int) hx hb (by rw [hml]; exact hl.1.symm) hown (hts _ kw_634) (hts _ kw_629) (hts _ kw_628) (hts _ kw_128) hK hP hD hS 8 9 0 0 rfl rfl rfl rfl rfl (by decide) (by decide) (nl_of (X := v2.toInt) (Y := 0) rfl (by decide) (by omega)) (cp0 (by omega) (by omega)) (cp0 (by omega) (by omega)) (fun _ _ => rfl) (Nat.le_of_ble_eq_true rfl) (Nat.le_of_ble_eq_true rfl) dX1_copyFrom_39 (fun H locs hP hD hS => ?_)
  obtain ⟨f1002, ef1002, hf1002, hP, hD⟩ : ∃ y : Nat → Int32, y = va_cpy f10 f11 (Int32.toNatClampNeg 0) (Int32.toNatClampNeg 0) (Int32.toNatClampNeg v2) ∧ Rg y 0 7 ∧ va_P D vwCl [(h0, .inr (1, [.int v2, .ref h6, .ref h9, .ref h11, .ref h5, .ref h13, .ref h7, .ref h15])), (h1, .inr (1, [.int v2, .ref h3, .ref h8, .ref h10, .ref h2, .ref h12, .ref h4, .ref h14])), (h2, .inl (c 0, 6, .inl f3)), (h3, .inl (c 0, 6, .inl f4)), (h4, .inl (c 0, 6, .inl f5)), (h5, .inl (c 0, 6, .inl f6)), (h6, .inl (c 0, 6, .inl f1001)), (h7, .inl (c 0, 6, .inl f8)), (h8, .inl (c 0, 6, .inl f10)), (h9, .inl (c 0, 6, .inl y)), (h10, .inl (c 0, 6, .inl f13)), (h11, .inl (c 0, 6, .inl f14)), (h12, .inl (c 0, 6, .inl f17)), (h13, .inl (c 0, 6, .inl f18)), (h14, .inl (c 0, 6, .inl f21)), (h15, .inl (c 0, 6, .inl f22))] H ∧ va_D A [(h0, .inr (1, [.int v2, .ref h6, .ref h9, .ref h11, .ref h5, .ref h13, .ref h7, .ref h15])), (h1, .inr (1, [.int v2, .ref h3, .ref h8, .ref h10, .ref h2, .ref h12, .ref h4, .ref h14])), (h2, .inl (c 0, 6, .inl f3)), (h3, .inl (c 0, 6, .inl f4)), (h4, .inl (c 0, 6, .inl f5)), (h5, .inl (c 0, 6, .inl f6)), (h6, .inl (c 0, 6, .inl f1001)), (h7, .inl (c 0, 6, .inl f8)), (h8, .inl (c 0, 6, .inl f10)), (h9, .inl (c 0, 6, .inl y)), (h10, .inl (c 0, 6, .inl f13)), (h11, .inl (c 0, 6, .inl f14)), (h12, .inl (c 0, 6, .inl f17)), (h13, .inl (c 0, 6, .inl f18)), (h14, .inl (c 0, 6, .inl f21)), (h15, .inl (c 0, 6, .inl f22))] := ⟨_, rfl, (Rg.cpy gf10 gf11), hP, hD⟩
  refine lv_aload_n hx hb dX1_copyFrom_42 rfl (lv_at hl 1 rfl) ?_
  refine va_get (D := D) (ci := 1) (v := .ref h10) (C := RX1) (T := TX1) (N := 8) hx hb hts i_X1 hown hK hP 1 rfl rfl 3 (by decide) (hts _ kw_289) (fun _ h9 => h9) rfl dX1_copyFrom_43 ?_
  refine lv_iconst (v := 0) hx hb dX1_copyFrom_46 (by decide) ?_
  refine lv_aload_n hx hb dX1_copyFrom_47 rfl (lv_at hl 0 rfl) ?_
  refine va_get (D := D) (ci := 1) (v := .ref h11) (C := RX1) (T := TX1) (N := 8) hx hb hts i_X1 hown hK hP 0 rfl rfl 3 (by decide) (hts _ kw_289) (fun _ h9 => h9) rfl dX1_copyFrom_48 ?_
  refine lv_iconst (v := 0) hx hb dX1_copyFrom_51 (by decide) ?_
  refine lv_aload_n hx hb dX1_copyFrom_52 rfl (lv_at hl 0 rfl) ?_
  refine va_get (D := D) (ci := 1) (v := .int v2) (C := RX1) (T := TX1) (N := 8) hx hb hts i_X1 hown hK hP 0 rfl rfl 0 (by decide) (hts _ kw_273) (fun _ h9 => h9) rfl dX1_copyFrom_53 ?_
  refine va_copyi (ty := .int) hx hb (by rw [hml]; exact hl.1.symm) hown (hts _ kw_634) (hts _ kw_629) (hts _ kw_628) (hts _ kw_128) hK hP hD hS 10 11 0 0 rfl rfl rfl rfl rfl (by decide) (by decide) (nl_of (X := v2.toInt) (Y := 0) rfl (by decide) (by omega)) (cp0 (by omega) (by omega)) (cp0 (by omega) (by omega)) (fun _ _ => rfl) (Nat.le_of_ble_eq_true rfl) (Nat.le_of_ble_eq_true rfl) dX1_copyFrom_56 (fun H locs hP hD hS => ?_)
  obtain ⟨f1003, ef1003, hP, hD⟩ : ∃ y : Nat → Int32, y = va_cpy f13 f14 (Int32.toNatClampNeg 0) (Int32.toNatClampNeg 0) (Int32.toNatClampNeg v2) ∧ va_P D vwCl [(h0, .inr (1, [.int v2, .ref h6, .ref h9, .ref h11, .ref h5, .ref h13, .ref h7, .ref h15])), (h1, .inr (1, [.int v2, .ref h3, .ref h8, .ref h10, .ref h2, .ref h12, .ref h4, .ref h14])), (h2, .inl (c 0, 6, .inl f3)), (h3, .inl (c 0, 6, .inl f4)), (h4, .inl (c 0, 6, .inl f5)), (h5, .inl (c 0, 6, .inl f6)), (h6, .inl (c 0, 6, .inl f1001)), (h7, .inl (c 0, 6, .inl f8)), (h8, .inl (c 0, 6, .inl f10)), (h9, .inl (c 0, 6, .inl f1002)), (h10, .inl (c 0, 6, .inl f13)), (h11, .inl (c 0, 6, .inl y)), (h12, .inl (c 0, 6, .inl f17)), (h13, .inl (c 0, 6, .inl f18)), (h14, .inl (c 0, 6, .inl f21)), (h15, .inl (c 0, 6, .inl f22))] H ∧ va_D A [(h0, .inr (1, [.int v2, .ref h6, .ref h9, .ref h11, .ref h5, .ref h13, .ref h7, .ref h15])), (h1, .inr (1, [.int v2, .ref h3, .ref h8, .ref h10, .ref h2, .ref h12, .ref h4, .ref h14])), (h2, .inl (c 0, 6, .inl f3)), (h3, .inl (c 0, 6, .inl f4)), (h4, .inl (c 0, 6, .inl f5)), (h5, .inl (c 0, 6, .inl f6)), (h6, .inl (c 0, 6, .inl f1001)), (h7, .inl (c 0, 6, .inl f8)), (h8, .inl (c 0, 6, .inl f10)), (h9, .inl (c 0, 6, .inl f1002)), (h10, .inl (c 0, 6, .inl f13)), (h11, .inl (c 0, 6, .inl y)), (h12, .inl (c 0, 6, .inl f17)), (h13, .inl (c 0, 6, .inl f18)), (h14, .inl (c 0, 6, .inl f21)), (h15, .inl (c 0, 6, .inl f22))] := ⟨_, rfl, hP, hD⟩
  refine lv_aload_n hx hb dX1_copyFrom_59 rfl (lv_at hl 1 rfl) ?_
  refine va_get (D := D) (ci := 1) (v := .ref h2) (C := RX1) (T := TX1) (N := 8) hx hb hts i_X1 hown hK hP 1 rfl rfl 4 (by decide) (hts _ kw_293) (fun _ h9 => h9) rfl dX1_copyFrom_60 ?_
  refine lv_iconst (v := 0) hx hb dX1_copyFrom_63 (by decide) ?_
  refine lv_aload_n hx hb dX1_copyFrom_64 rfl (lv_at hl 0 rfl) ?_
  refine va_get (D := D) (ci := 1) (v := .ref h5) (C := RX1) (T := TX1) (N := 8) hx hb hts i_X1 hown hK hP 0 rfl rfl 4 (by decide) (hts _ kw_293) (fun _ h9 => h9) rfl dX1_copyFrom_65 ?_
  refine lv_iconst (v := 0) hx hb dX1_copyFrom_68 (by decide) ?_
  refine lv_aload_n hx hb dX1_copyFrom_69 rfl (lv_at hl 0 rfl) ?_
  refine va_get (D := D) (ci := 1) (v := .int v2) (C := RX1) (T := TX1) (N := 8) hx hb hts i_X1 hown hK hP 0 rfl rfl 0 (by decide) (hts _ kw_273) (fun _ h9 => h9) rfl dX1_copyFrom_70 ?_
  refine va_copyi (ty := .int) hx hb (by rw [hml]; exact hl.1.symm) hown (hts _ kw_634) (hts _ kw_629) (hts _ kw_628) (hts _ kw_128) hK hP hD hS 2 5 0 0 rfl rfl rfl rfl rfl (by decide) (by decide) (nl_of (X := v2.toInt) (Y := 0) rfl (by decide) (by omega)) (cp0 (by omega) (by omega)) (cp0 (by omega) (by omega)) (fun _ _ => rfl) (Nat.le_of_ble_eq_true rfl) (Nat.le_of_ble_eq_true rfl) dX1_copyFrom_73 (fun H locs hP hD hS => ?_)
  obtain ⟨f1004, ef1004, hf1004, hP, hD⟩ : ∃ y : Nat → Int32, y = va_cpy f3 f6 (Int32.toNatClampNeg 0) (Int32.toNatClampNeg 0) (Int32.toNatClampNeg v2) ∧ Rg y (-1) 13 ∧ va_P D vwCl [(h0, .inr (1, [.int v2, .ref h6, .ref h9, .ref h11, .ref h5, .ref h13, .ref h7, .ref h15])), (h1, .inr (1, [.int v2, .ref h3, .ref h8, .ref h10, .ref h2, .ref h12, .ref h4, .ref h14])), (h2, .inl (c 0, 6, .inl f3)), (h3, .inl (c 0, 6, .inl f4)), (h4, .inl (c 0, 6, .inl f5)), (h5, .inl (c 0, 6, .inl y)), (h6, .inl (c 0, 6, .inl f1001)), (h7, .inl (c 0, 6, .inl f8)), (h8, .inl (c 0, 6, .inl f10)), (h9, .inl (c 0, 6, .inl f1002)), (h10, .inl (c 0, 6, .inl f13)), (h11, .inl (c 0, 6, .inl f1003)), (h12, .inl (c 0, 6, .inl f17)), (h13, .inl (c 0, 6, .inl f18)), (h14, .inl (c 0, 6, .inl f21)), (h15, .inl (c 0, 6, .inl f22))] H ∧ va_D A [(h0, .inr (1, [.int v2, .ref h6, .ref h9, .ref h11, .ref h5, .ref h13, .ref h7, .ref h15])), (h1, .inr (1, [.int v2, .ref h3, .ref h8, .ref h10, .ref h2, .ref h12, .ref h4, .ref h14])), (h2, .inl (c 0, 6, .inl f3)), (h3, .inl (c 0, 6, .inl f4)), (h4, .inl (c 0, 6, .inl f5)), (h5, .inl (c 0, 6, .inl y)), (h6, .inl (c 0, 6, .inl f1001)), (h7, .inl (c 0, 6, .inl f8)), (h8, .inl (c 0, 6, .inl f10)), (h9, .inl (c 0, 6, .inl f1002)), (h10, .inl (c 0, 6, .inl f13)), (h11, .inl (c 0, 6, .inl f1003)), (h12, .inl (c 0, 6, .inl f17)), (h13, .inl (c 0, 6, .inl f18)), (h14, .inl (c 0, 6, .inl f21)), (h15, .inl (c 0, 6, .inl f22))] := ⟨_, rfl, (Rg.cpy gf3 gf6), hP, hD⟩
  refine lv_aload_n hx hb dX1_copyFrom_76 rfl (lv_at hl 1 rfl) ?_
  refine va_get (D := D) (ci := 1) (v := .ref h12) (C := RX1) (T := TX1) (N := 8) hx hb hts i_X1 hown hK hP 1 rfl rfl 5 (by decide) (hts _ kw_296) (fun _ h9 => h9) rfl dX1_copyFrom_77 ?_
  refine lv_iconst (v := 0) hx hb dX1_copyFrom_80 (by decide) ?_
  refine lv_aload_n hx hb dX1_copyFrom_81 rfl (lv_at hl 0 rfl) ?_
  refine va_get (D := D) (ci := 1) (v := .ref h13) (C := RX1) (T := TX1) (N := 8) hx hb hts i_X1 hown hK hP 0 rfl rfl 5 (by decide) (hts _ kw_296) (fun _ h9 => h9) rfl dX1_copyFrom_82 ?_
  refine lv_iconst (v := 0) hx hb dX1_copyFrom_85 (by decide) ?_
  refine lv_aload_n hx hb dX1_copyFrom_86 rfl (lv_at hl 0 rfl) ?_
  refine va_get (D := D) (ci := 1) (v := .int v2) (C := RX1) (T := TX1) (N := 8) hx hb hts i_X1 hown hK hP 0 rfl rfl 0 (by decide) (hts _ kw_273) (fun _ h9 => h9) rfl dX1_copyFrom_87 ?_
  refine va_copyi (ty := .int) hx hb (by rw [hml]; exact hl.1.symm) hown (hts _ kw_634) (hts _ kw_629) (hts _ kw_628) (hts _ kw_128) hK hP hD hS 12 13 0 0 rfl rfl rfl rfl rfl (by decide) (by decide) (nl_of (X := v2.toInt) (Y := 0) rfl (by decide) (by omega)) (cp0 (by omega) (by omega)) (cp0 (by omega) (by omega)) (fun _ _ => rfl) (Nat.le_of_ble_eq_true rfl) (Nat.le_of_ble_eq_true rfl) dX1_copyFrom_90 (fun H locs hP hD hS => ?_)
  obtain ⟨f1005, ef1005, hP, hD⟩ : ∃ y : Nat → Int32, y = va_cpy f17 f18 (Int32.toNatClampNeg 0) (Int32.toNatClampNeg 0) (Int32.toNatClampNeg v2) ∧ va_P D vwCl [(h0, .inr (1, [.int v2, .ref h6, .ref h9, .ref h11, .ref h5, .ref h13, .ref h7, .ref h15])), (h1, .inr (1, [.int v2, .ref h3, .ref h8, .ref h10, .ref h2, .ref h12, .ref h4, .ref h14])), (h2, .inl (c 0, 6, .inl f3)), (h3, .inl (c 0, 6, .inl f4)), (h4, .inl (c 0, 6, .inl f5)), (h5, .inl (c 0, 6, .inl f1004)), (h6, .inl (c 0, 6, .inl f1001)), (h7, .inl (c 0, 6, .inl f8)), (h8, .inl (c 0, 6, .inl f10)), (h9, .inl (c 0, 6, .inl f1002)), (h10, .inl (c 0, 6, .inl f13)), (h11, .inl (c 0, 6, .inl f1003)), (h12, .inl (c 0, 6, .inl f17)), (h13, .inl (c 0, 6, .inl y)), (h14, .inl (c 0, 6, .inl f21)), (h15, .inl (c 0, 6, .inl f22))] H ∧ va_D A [(h0, .inr (1, [.int v2, .ref h6, .ref h9, .ref h11, .ref h5, .ref h13, .ref h7, .ref h15])), (h1, .inr (1, [.int v2, .ref h3, .ref h8, .ref h10, .ref h2, .ref h12, .ref h4, .ref h14])), (h2, .inl (c 0, 6, .inl f3)), (h3, .inl (c 0, 6, .inl f4)), (h4, .inl (c 0, 6, .inl f5)), (h5, .inl (c 0, 6, .inl f1004)), (h6, .inl (c 0, 6, .inl f1001)), (h7, .inl (c 0, 6, .inl f8)), (h8, .inl (c 0, 6, .inl f10)), (h9, .inl (c 0, 6, .inl f1002)), (h10, .inl (c 0, 6, .inl f13)), (h11, .inl (c 0, 6, .inl f1003)), (h12, .inl (c 0, 6, .inl f17)), (h13, .inl (c 0, 6, .inl y)), (h14, .inl (c 0, 6, .inl f21)), (h15, .inl (c 0, 6, .inl f22))] := ⟨_, rfl, hP, hD⟩
  refine lv_aload_n hx hb dX1_copyFrom_93 rfl (lv_at hl 1 rfl) ?_
  refine va_get (D := D) (ci := 1) (v := .ref h4) (C := RX1) (T := TX1) (N := 8) hx hb hts i_X1 hown hK hP 1 rfl rfl 6 (by decide) (hts _ kw_299) (fun _ h9 => h9) rfl dX1_copyFrom_94 ?_
  refine lv_iconst (v := 0) hx hb dX1_copyFrom_97 (by decide) ?_
  refine lv_aload_n hx hb dX1_copyFrom_98 rfl (lv_at hl 0 rfl) ?_
  refine va_get (D := D) (ci := 1) (v := .ref h7) (C := RX1) (T := TX1) (N := 8) hx hb hts i_X1 hown hK hP 0 rfl rfl 6 (by decide) (hts _ kw_299) (fun _ h9 => h9) rfl dX1_copyFrom_99 ?_
  refine lv_iconst (v := 0) hx hb dX1_copyFrom_102 (by decide) ?_
  refine lv_aload_n hx hb dX1_copyFrom_103 rfl (lv_at hl 0 rfl) ?_
  refine va_get (D := D) (ci := 1) (v := .int v2) (C := RX1) (T := TX1) (N := 8) hx hb hts i_X1 hown hK hP 0 rfl rfl 0 (by decide) (hts _ kw_273) (fun _ h9 => h9) rfl dX1_copyFrom_104 ?_
  refine va_copyi (ty := .int) hx hb (by rw [hml]; exact hl.1.symm) hown (hts _ kw_634) (hts _ kw_629) (hts _ kw_628) (hts _ kw_128) hK hP hD hS 4 7 0 0 rfl rfl rfl rfl rfl (by decide) (by decide) (nl_of (X := v2.toInt) (Y := 0) rfl (by decide) (by omega)) (cp0 (by omega) (by omega)) (cp0 (by omega) (by omega)) (fun _ _ => rfl) (Nat.le_of_ble_eq_true rfl) (Nat.le_of_ble_eq_true rfl) dX1_copyFrom_107 (fun H locs hP hD hS => ?_)
  obtain ⟨f1006, ef1006, hf1006, hP, hD⟩ : ∃ y : Nat → Int32, y = va_cpy f5 f8 (Int32.toNatClampNeg 0) (Int32.toNatClampNeg 0) (Int32.toNatClampNeg v2) ∧ Rg y (-1) 7 ∧ va_P D vwCl [(h0, .inr (1, [.int v2, .ref h6, .ref h9, .ref h11, .ref h5, .ref h13, .ref h7, .ref h15])), (h1, .inr (1, [.int v2, .ref h3, .ref h8, .ref h10, .ref h2, .ref h12, .ref h4, .ref h14])), (h2, .inl (c 0, 6, .inl f3)), (h3, .inl (c 0, 6, .inl f4)), (h4, .inl (c 0, 6, .inl f5)), (h5, .inl (c 0, 6, .inl f1004)), (h6, .inl (c 0, 6, .inl f1001)), (h7, .inl (c 0, 6, .inl y)), (h8, .inl (c 0, 6, .inl f10)), (h9, .inl (c 0, 6, .inl f1002)), (h10, .inl (c 0, 6, .inl f13)), (h11, .inl (c 0, 6, .inl f1003)), (h12, .inl (c 0, 6, .inl f17)), (h13, .inl (c 0, 6, .inl f1005)), (h14, .inl (c 0, 6, .inl f21)), (h15, .inl (c 0, 6, .inl f22))] H ∧ va_D A [(h0, .inr (1, [.int v2, .ref h6, .ref h9, .ref h11, .ref h5, .ref h13, .ref h7, .ref h15])), (h1, .inr (1, [.int v2, .ref h3, .ref h8, .ref h10, .ref h2, .ref h12, .ref h4, .ref h14])), (h2, .inl (c 0, 6, .inl f3)), (h3, .inl (c 0, 6, .inl f4)), (h4, .inl (c 0, 6, .inl f5)), (h5, .inl (c 0, 6, .inl f1004)), (h6, .inl (c 0, 6, .inl f1001)), (h7, .inl (c 0, 6, .inl y)), (h8, .inl (c 0, 6, .inl f10)), (h9, .inl (c 0, 6, .inl f1002)), (h10, .inl (c 0, 6, .inl f13)), (h11, .inl (c 0, 6, .inl f1003)), (h12, .inl (c 0, 6, .inl f17)), (h13, .inl (c 0, 6, .inl f1005)), (h14, .inl (c 0, 6, .inl f21)), (h15, .inl (c 0, 6, .inl f22))] := ⟨_, rfl, (Rg.cpy gf5 gf8), hP, hD⟩
  refine lv_aload_n hx hb dX1_copyFrom_110 rfl (lv_at hl 1 rfl) ?_
  refine va_get (D := D) (ci := 1) (v := .ref h14) (C := RX1) (T := TX1) (N := 8) hx hb hts i_X1 hown hK hP 1 rfl rfl 7 (by decide) (hts _ kw_302) (fun _ h9 => h9) rfl dX1_copyFrom_111 ?_
  refine lv_iconst (v := 0) hx hb dX1_copyFrom_114 (by decide) ?_
  refine lv_aload_n hx hb dX1_copyFrom_115 rfl (lv_at hl 0 rfl) ?_
  refine va_get (D := D) (ci := 1) (v := .ref h15) (C := RX1) (T := TX1) (N := 8) hx hb hts i_X1 hown hK hP 0 rfl rfl 7 (by decide) (hts _ kw_302) (fun _ h9 => h9) rfl dX1_copyFrom_116 ?_
  refine lv_iconst (v := 0) hx hb dX1_copyFrom_119 (by decide) ?_
  refine lv_aload_n hx hb dX1_copyFrom_120 rfl (lv_at hl 0 rfl) ?_
  refine va_get (D := D) (ci := 1) (v := .int v2) (C := RX1) (T := TX1) (N := 8) hx hb hts i_X1 hown hK hP 0 rfl rfl 0 (by decide) (hts _ kw_273) (fun _ h9 => h9) rfl dX1_copyFrom_121 ?_
  refine va_copyi (ty := .int) hx hb (by rw [hml]; exact hl.1.symm) hown (hts _ kw_634) (hts _ kw_629) (hts _ kw_628) (hts _ kw_128) hK hP hD hS 14 15 0 0 rfl rfl rfl rfl rfl (by decide) (by decide) (nl_of (X := v2.toInt) (Y := 0) rfl (by decide) (by omega)) (cp0 (by omega) (by omega)) (cp0 (by omega) (by omega)) (fun _ _ => rfl) (Nat.le_of_ble_eq_true rfl) (Nat.le_of_ble_eq_true rfl) dX1_copyFrom_124 (fun H locs hP hD hS => ?_)
  obtain ⟨f1007, ef1007, hP, hD⟩ : ∃ y : Nat → Int32, y = va_cpy f21 f22 (Int32.toNatClampNeg 0) (Int32.toNatClampNeg 0) (Int32.toNatClampNeg v2) ∧ va_P D vwCl [(h0, .inr (1, [.int v2, .ref h6, .ref h9, .ref h11, .ref h5, .ref h13, .ref h7, .ref h15])), (h1, .inr (1, [.int v2, .ref h3, .ref h8, .ref h10, .ref h2, .ref h12, .ref h4, .ref h14])), (h2, .inl (c 0, 6, .inl f3)), (h3, .inl (c 0, 6, .inl f4)), (h4, .inl (c 0, 6, .inl f5)), (h5, .inl (c 0, 6, .inl f1004)), (h6, .inl (c 0, 6, .inl f1001)), (h7, .inl (c 0, 6, .inl f1006)), (h8, .inl (c 0, 6, .inl f10)), (h9, .inl (c 0, 6, .inl f1002)), (h10, .inl (c 0, 6, .inl f13)), (h11, .inl (c 0, 6, .inl f1003)), (h12, .inl (c 0, 6, .inl f17)), (h13, .inl (c 0, 6, .inl f1005)), (h14, .inl (c 0, 6, .inl f21)), (h15, .inl (c 0, 6, .inl y))] H ∧ va_D A [(h0, .inr (1, [.int v2, .ref h6, .ref h9, .ref h11, .ref h5, .ref h13, .ref h7, .ref h15])), (h1, .inr (1, [.int v2, .ref h3, .ref h8, .ref h10, .ref h2, .ref h12, .ref h4, .ref h14])), (h2, .inl (c 0, 6, .inl f3)), (h3, .inl (c 0, 6, .inl f4)), (h4, .inl (c 0, 6, .inl f5)), (h5, .inl (c 0, 6, .inl f1004)), (h6, .inl (c 0, 6, .inl f1001)), (h7, .inl (c 0, 6, .inl f1006)), (h8, .inl (c 0, 6, .inl f10)), (h9, .inl (c 0, 6, .inl f1002)), (h10, .inl (c 0, 6, .inl f13)), (h11, .inl (c 0, 6, .inl f1003)), (h12, .inl (c 0, 6, .inl f17)), (h13, .inl (c 0, 6, .inl f1005)), (h14, .inl (c 0, 6, .inl f21)), (h15, .inl (c 0, 6, .inl y))] := ⟨_, rfl, hP, hD⟩
  have hv1008 : OnOK gn1 v2 f1004 := by rw [ef1004]; exact OnOK.cpy ge0
  have hv1009 : PlOK v2 f1001 f1004 := by rw [ef1004, ef1001]; exact PlOK.cpy ge1
  have hv1010 : HdOK v2 f1004 f1006 := by rw [ef1004, ef1006]; exact HdOK.cpy ge2
  exact rV hQ hx hb hr hlocks hS (Nat.le_of_ble_eq_true rfl) (Nat.le_of_ble_eq_true rfl) dX1_copyFrom_127 (fun t ht => ⟨f1004, f1001, f1006, f1002, f1003, f1005, f1007, hf1004, hf1001, hf1006, hf1002, hv1008, hv1009, hv1010, by rw [ht]; exact hP, hD⟩)
set_option maxHeartbeats 4000000 in
set_option maxRecDepth 100000 in
theorem m_X1_enter (l : Launch) (D : va_G) (c : Nat → ClassId) (h0 h1 h2 h3 h4 : Nat) (sz : Nat) (v1 : Int32) (u10 : Value) (u11 : Value) (u12 : Value) (f2 : Nat → Int32) (f3 : Nat → Int32) (f4 : Nat → Int32) (f7 : Nat → Int32) (a1 : Int32) (a2 : Int32) (a3 : Int32) (gn1 : Int32) (gv1 : 0 ≤ v1.toInt ∧ v1.toInt ≤ 6) (gf2 : Rg f2 (-1) 13) (gf3 : Rg f3 0 8) (gf4 : Rg f4 (-1) 7) (ga1 : 0 ≤ a1.toInt ∧ a1.toInt ≤ 5) (ga2 : 0 ≤ a2.toInt ∧ a2.toInt ≤ 13) (ga3 : 0 ≤ a3.toInt ∧ a3.toInt ≤ 7) (ge0 : a2.toInt < gn1.toInt) (ge1 : OnOK gn1 v1 f2) (ge2 : PlOK v1 f3 f2) (ge3 : HdOK v1 f2 f4) : Met l yX1_enter (Cond.code yX1_enter cX1_enter 4 none :: TB) ({ frames := 0, cells := 0, slots := 0, locals := 0 } : Room) (va_Pc [.ref h0, .int a1, .int a2, .int a3] (PW D c [(h0, .inr (1, [.int v1, .ref h2, u10, u11, .ref h1, .ref h4, .ref h3, u12])), (h1, .inl (c 0, 6, .inl f2)), (h2, .inl (c 0, 6, .inl f3)), (h3, .inl (c 0, 6, .inl f4)), (h4, .inl (c 0, 6, .inl f7))] sz)) ((QV (fun A t => ∃ (f900 : Nat → Int32) (f901 : Nat → Int32) (f902 : Nat → Int32) (f903 : Nat → Int32), (Rg f900 (-1) 13) ∧ (Rg f901 0 8) ∧ (Rg f902 (-1) 7) ∧ (OnOK gn1 v1 f900) ∧ (PlOK v1 f901 f900) ∧ (HdOK v1 f900 f902) ∧ va_P D vwCl [(h0, .inr (1, [.int v1, .ref h2, u10, u11, .ref h1, .ref h4, .ref h3, u12])), (h1, .inl (c 0, 6, .inl f900)), (h2, .inl (c 0, 6, .inl f901)), (h3, .inl (c 0, 6, .inl f902)), (h4, .inl (c 0, 6, .inl f903))] t.heap ∧ va_D A [(h0, .inr (1, [.int v1, .ref h2, u10, u11, .ref h1, .ref h4, .ref h3, u12])), (h1, .inl (c 0, 6, .inl f900)), (h2, .inl (c 0, 6, .inl f901)), (h3, .inl (c 0, 6, .inl f902)), (h4, .inl (c 0, 6, .inl f903))])) (va_A [(h0, .inr (1, [.int v1, .ref h2, u10, u11, .ref h1, .ref h4, .ref h3, u12])), (h1, .inl (c 0, 6, .inl f2)), (h2, .inl (c 0, 6, .inl f3)), (h3, .inl (c 0, 6, .inl f4)), (h4, .inl (c 0, 6, .inl f7))] sz)) 0 0 (va_A [(h0, .inr (1, [.int v1, .ref h2, u10, u11, .ref h1, .ref h4, .ref h3, u12])), (h1, .inl (c 0, 6, .inl f2)), (h2, .inl (c 0, 6, .inl f3)), (h3, .inl (c 0, 6, .inl f4)), (h4, .inl (c 0, 6, .inl f7))] sz) := by
  refine start2 (by decide +kernel) (Nat.le_of_ble_eq_true rfl) ?_
  intro p e s m below meth cd A ls Q hx hb hr hml hts hown hlocks hin hA hS hK hP hD hN hl hQ
  have hown : s.vm.findClass RX1 = some m.cls := hown
  have hl : lv_has ls 4 [(0, .ref h0), (1, .int a1), (2, .int a2), (3, .int a3)] := hl
  have hP : va_P D vwCl [(h0, .inr (1, [.int v1, .ref h2, u10, u11, .ref h1, .ref h4, .ref h3, u12])), (h1, .inl (c 0, 6, .inl f2)), (h2, .inl (c 0, 6, .inl f3)), (h3, .inl (c 0, 6, .inl f4)), (h4, .inl (c 0, 6, .inl f7))] s.heap := hP
  refine lv_aload_n hx hb dX1_enter_0 rfl (lv_at hl 0 rfl) ?_
  refine va_get (D := D) (ci := 1) (v := .ref h2) (C := RX1) (T := TX1) (N := 8) hx hb hts i_X1 hown hK hP 0 rfl rfl 1 (by decide) (hts _ kw_279) (fun _ h9 => h9) rfl dX1_enter_1 ?_
  refine lv_iload_n hx hb dX1_enter_4 rfl (lv_at hl 1 rfl) ?_
  refine lv_bipush (v := 8) hx hb dX1_enter_5 (by decide) ?_
  refine va_iast hx hb hK hP hD hS 2 0 rfl rfl (in_of (by omega) (by omega)) dX1_enter_7 (fun H locs hP hD hS => ?_)
  obtain ⟨f1001, ef1001, hf1001, hP, hD⟩ : ∃ y : Nat → Int32, y = upd f3 (Int32.toNatClampNeg a1) 8 ∧ Rg y 0 8 ∧ va_P D vwCl [(h0, .inr (1, [.int v1, .ref h2, u10, u11, .ref h1, .ref h4, .ref h3, u12])), (h1, .inl (c 0, 6, .inl f2)), (h2, .inl (c 0, 6, .inl y)), (h3, .inl (c 0, 6, .inl f4)), (h4, .inl (c 0, 6, .inl f7))] H ∧ va_D A [(h0, .inr (1, [.int v1, .ref h2, u10, u11, .ref h1, .ref h4, .ref h3, u12])), (h1, .inl (c 0, 6, .inl f2)), (h2, .inl (c 0, 6, .inl y)), (h3, .inl (c 0, 6, .inl f4)), (h4, .inl (c 0, 6, .inl f7))] := ⟨_, rfl, (Rg.upd gf3 (by decide) (by decide)), hP, hD⟩
  refine lv_aload_n hx hb dX1_enter_8 rfl (lv_at hl 0 rfl) ?_
  refine va_get (D := D) (ci := 1) (v := .ref h1) (C := RX1) (T := TX1) (N := 8) hx hb hts i_X1 hown hK hP 0 rfl rfl 4 (by decide) (hts _ kw_293) (fun _ h9 => h9) rfl dX1_enter_9 ?_
  refine lv_iload_n hx hb dX1_enter_12 rfl (lv_at hl 1 rfl) ?_
  refine lv_iload_n hx hb dX1_enter_13 rfl (lv_at hl 2 rfl) ?_
  refine va_iast hx hb hK hP hD hS 1 0 rfl rfl (in_of (by omega) (by omega)) dX1_enter_14 (fun H locs hP hD hS => ?_)
  obtain ⟨f1002, ef1002, hf1002, hP, hD⟩ : ∃ y : Nat → Int32, y = upd f2 (Int32.toNatClampNeg a1) a2 ∧ Rg y (-1) 13 ∧ va_P D vwCl [(h0, .inr (1, [.int v1, .ref h2, u10, u11, .ref h1, .ref h4, .ref h3, u12])), (h1, .inl (c 0, 6, .inl y)), (h2, .inl (c 0, 6, .inl f1001)), (h3, .inl (c 0, 6, .inl f4)), (h4, .inl (c 0, 6, .inl f7))] H ∧ va_D A [(h0, .inr (1, [.int v1, .ref h2, u10, u11, .ref h1, .ref h4, .ref h3, u12])), (h1, .inl (c 0, 6, .inl y)), (h2, .inl (c 0, 6, .inl f1001)), (h3, .inl (c 0, 6, .inl f4)), (h4, .inl (c 0, 6, .inl f7))] := ⟨_, rfl, (Rg.upd gf2 (by omega) (by omega)), hP, hD⟩
  refine lv_aload_n hx hb dX1_enter_15 rfl (lv_at hl 0 rfl) ?_
  refine va_get (D := D) (ci := 1) (v := .ref h4) (C := RX1) (T := TX1) (N := 8) hx hb hts i_X1 hown hK hP 0 rfl rfl 5 (by decide) (hts _ kw_296) (fun _ h9 => h9) rfl dX1_enter_16 ?_
  refine lv_iload_n hx hb dX1_enter_19 rfl (lv_at hl 1 rfl) ?_
  refine lv_iconst (v := 0) hx hb dX1_enter_20 (by decide) ?_
  refine va_iast hx hb hK hP hD hS 4 0 rfl rfl (in_of (by omega) (by omega)) dX1_enter_21 (fun H locs hP hD hS => ?_)
  obtain ⟨f1003, ef1003, hP, hD⟩ : ∃ y : Nat → Int32, y = upd f7 (Int32.toNatClampNeg a1) 0 ∧ va_P D vwCl [(h0, .inr (1, [.int v1, .ref h2, u10, u11, .ref h1, .ref h4, .ref h3, u12])), (h1, .inl (c 0, 6, .inl f1002)), (h2, .inl (c 0, 6, .inl f1001)), (h3, .inl (c 0, 6, .inl f4)), (h4, .inl (c 0, 6, .inl y))] H ∧ va_D A [(h0, .inr (1, [.int v1, .ref h2, u10, u11, .ref h1, .ref h4, .ref h3, u12])), (h1, .inl (c 0, 6, .inl f1002)), (h2, .inl (c 0, 6, .inl f1001)), (h3, .inl (c 0, 6, .inl f4)), (h4, .inl (c 0, 6, .inl y))] := ⟨_, rfl, hP, hD⟩
  refine lv_aload_n hx hb dX1_enter_22 rfl (lv_at hl 0 rfl) ?_
  refine va_get (D := D) (ci := 1) (v := .ref h3) (C := RX1) (T := TX1) (N := 8) hx hb hts i_X1 hown hK hP 0 rfl rfl 6 (by decide) (hts _ kw_299) (fun _ h9 => h9) rfl dX1_enter_23 ?_
  refine lv_iload_n hx hb dX1_enter_26 rfl (lv_at hl 1 rfl) ?_
  refine lv_iload_n hx hb dX1_enter_27 rfl (lv_at hl 3 rfl) ?_
  refine va_iast hx hb hK hP hD hS 3 0 rfl rfl (in_of (by omega) (by omega)) dX1_enter_28 (fun H locs hP hD hS => ?_)
  obtain ⟨f1004, ef1004, hf1004, hP, hD⟩ : ∃ y : Nat → Int32, y = upd f4 (Int32.toNatClampNeg a1) a3 ∧ Rg y (-1) 7 ∧ va_P D vwCl [(h0, .inr (1, [.int v1, .ref h2, u10, u11, .ref h1, .ref h4, .ref h3, u12])), (h1, .inl (c 0, 6, .inl f1002)), (h2, .inl (c 0, 6, .inl f1001)), (h3, .inl (c 0, 6, .inl y)), (h4, .inl (c 0, 6, .inl f1003))] H ∧ va_D A [(h0, .inr (1, [.int v1, .ref h2, u10, u11, .ref h1, .ref h4, .ref h3, u12])), (h1, .inl (c 0, 6, .inl f1002)), (h2, .inl (c 0, 6, .inl f1001)), (h3, .inl (c 0, 6, .inl y)), (h4, .inl (c 0, 6, .inl f1003))] := ⟨_, rfl, (Rg.upd gf4 (by omega) (by omega)), hP, hD⟩
  have km : (-1 : Int32).toInt = -1 := by decide
  have hv1005 : OnOK gn1 v1 f1002 := by rw [ef1002]; exact OnOK.put ge1 (by omega)
  have hv1006 : PlOK v1 f1001 f1002 := by rw [ef1002, ef1001]; exact PlOK.enter ge2 (by omega)
  have hv1007 : HdOK v1 f1002 f1004 := by rw [ef1002, ef1004]; exact HdOK.enter ge3 (by omega)
  exact rV hQ hx hb hr hlocks hS (Nat.le_of_ble_eq_true rfl) (Nat.le_of_ble_eq_true rfl) dX1_enter_29 (fun t ht => ⟨f1002, f1001, f1004, f1003, hf1002, hf1001, hf1004, hv1005, hv1006, hv1007, by rw [ht]; exact hP, hD⟩)
set_option maxHeartbeats 4000000 in
set_option maxRecDepth 100000 in
theorem m_X1_stand (l : Launch) (D : va_G) (c : Nat → ClassId) (h0 h1 h2 h3 h4 h5 h6 : Nat) (sz : Nat) (v1 : Int32) (u17 : Value) (f2 : Nat → Int32) (f3 : Nat → Int32) (f4 : Nat → Int32) (f7 : Nat → Int32) (f10 : Nat → Int32) (f13 : Nat → Int32) (a1 : Int32) (a2 : Int32) (a3 : Int32) (gn1 : Int32) (gv1 : 0 ≤ v1.toInt ∧ v1.toInt ≤ 6) (gf2 : Rg f2 (-1) 13) (gf3 : Rg f3 0 8) (gf4 : Rg f4 (-1) 7) (gf10 : Rg f10 0 7) (ga1 : 0 ≤ a1.toInt ∧ a1.toInt ≤ 5) (ga2 : 0 ≤ a2.toInt ∧ a2.toInt ≤ 7) (ge0 : 0 ≤ gn1.toInt) (ge1 : OnOK gn1 v1 f2) (ge2 : PlOK v1 f3 f2) (ge3 : HdOK v1 f2 f4) : Met l yX1_stand (Cond.code yX1_stand cX1_stand 4 none :: TB) ({ frames := 0, cells := 0, slots := 0, locals := 0 } : Room) (va_Pc [.ref h0, .int a1, .int a2, .int a3] (PW D c [(h0, .inr (1, [.int v1, .ref h2, .ref h5, u17, .ref h1, .ref h4, .ref h3, .ref h6])), (h1, .inl (c 0, 6, .inl f2)), (h2, .inl (c 0, 6, .inl f3)), (h3, .inl (c 0, 6, .inl f4)), (h4, .inl (c 0, 6, .inl f7)), (h5, .inl (c 0, 6, .inl f10)), (h6, .inl (c 0, 6, .inl f13))] sz)) ((QV (fun A t => ∃ (f900 : Nat → Int32) (f901 : Nat → Int32) (f902 : Nat → Int32) (f903 : Nat → Int32) (f904 : Nat → Int32), (Rg f900 (-1) 13) ∧ (Rg f901 0 8) ∧ (Rg f902 (-1) 7) ∧ (OnOK gn1 v1 f900) ∧ (PlOK v1 f901 f900) ∧ (HdOK v1 f900 f902) ∧ va_P D vwCl [(h0, .inr (1, [.int v1, .ref h2, .ref h5, u17, .ref h1, .ref h4, .ref h3, .ref h6])), (h1, .inl (c 0, 6, .inl f900)), (h2, .inl (c 0, 6, .inl f901)), (h3, .inl (c 0, 6, .inl f902)), (h4, .inl (c 0, 6, .inl f903)), (h5, .inl (c 0, 6, .inl f10)), (h6, .inl (c 0, 6, .inl f904))] t.heap ∧ va_D A [(h0, .inr (1, [.int v1, .ref h2, .ref h5, u17, .ref h1, .ref h4, .ref h3, .ref h6])), (h1, .inl (c 0, 6, .inl f900)), (h2, .inl (c 0, 6, .inl f901)), (h3, .inl (c 0, 6, .inl f902)), (h4, .inl (c 0, 6, .inl f903)), (h5, .inl (c 0, 6, .inl f10)), (h6, .inl (c 0, 6, .inl f904))])) (va_A [(h0, .inr (1, [.int v1, .ref h2, .ref h5, u17, .ref h1, .ref h4, .ref h3, .ref h6])), (h1, .inl (c 0, 6, .inl f2)), (h2, .inl (c 0, 6, .inl f3)), (h3, .inl (c 0, 6, .inl f4)), (h4, .inl (c 0, 6, .inl f7)), (h5, .inl (c 0, 6, .inl f10)), (h6, .inl (c 0, 6, .inl f13))] sz)) 0 0 (va_A [(h0, .inr (1, [.int v1, .ref h2, .ref h5, u17, .ref h1, .ref h4, .ref h3, .ref h6])), (h1, .inl (c 0, 6, .inl f2)), (h2, .inl (c 0, 6, .inl f3)), (h3, .inl (c 0, 6, .inl f4)), (h4, .inl (c 0, 6, .inl f7)), (h5, .inl (c 0, 6, .inl f10)), (h6, .inl (c 0, 6, .inl f13))] sz) := by
  refine start2 (by decide +kernel) (Nat.le_of_ble_eq_true rfl) ?_
  intro p e s m below meth cd A ls Q hx hb hr hml hts hown hlocks hin hA hS hK hP hD hN hl hQ
  have hown : s.vm.findClass RX1 = some m.cls := hown
  have hl : lv_has ls 4 [(0, .ref h0), (1, .int a1), (2, .int a2), (3, .int a3)] := hl
  have hP : va_P D vwCl [(h0, .inr (1, [.int v1, .ref h2, .ref h5, u17, .ref h1, .ref h4, .ref h3, .ref h6])), (h1, .inl (c 0, 6, .inl f2)), (h2, .inl (c 0, 6, .inl f3)), (h3, .inl (c 0, 6, .inl f4)), (h4, .inl (c 0, 6, .inl f7)), (h5, .inl (c 0, 6, .inl f10)), (h6, .inl (c 0, 6, .inl f13))] s.heap := hP
  refine lv_aload_n hx hb dX1_stand_0 rfl (lv_at hl 0 rfl) ?_
  refine va_get (D := D) (ci := 1) (v := .ref h2) (C := RX1) (T := TX1) (N := 8) hx hb hts i_X1 hown hK hP 0 rfl rfl 1 (by decide) (hts _ kw_279) (fun _ h9 => h9) rfl dX1_stand_1 ?_
  refine lv_iload_n hx hb dX1_stand_4 rfl (lv_at hl 1 rfl) ?_
  refine lv_iload_n hx hb dX1_stand_5 rfl (lv_at hl 2 rfl) ?_
  refine va_iast hx hb hK hP hD hS 2 0 rfl rfl (in_of (by omega) (by omega)) dX1_stand_6 (fun H locs hP hD hS => ?_)
  obtain ⟨f1001, ef1001, hf1001, hP, hD⟩ : ∃ y : Nat → Int32, y = upd f3 (Int32.toNatClampNeg a1) a2 ∧ Rg y 0 8 ∧ va_P D vwCl [(h0, .inr (1, [.int v1, .ref h2, .ref h5, u17, .ref h1, .ref h4, .ref h3, .ref h6])), (h1, .inl (c 0, 6, .inl f2)), (h2, .inl (c 0, 6, .inl y)), (h3, .inl (c 0, 6, .inl f4)), (h4, .inl (c 0, 6, .inl f7)), (h5, .inl (c 0, 6, .inl f10)), (h6, .inl (c 0, 6, .inl f13))] H ∧ va_D A [(h0, .inr (1, [.int v1, .ref h2, .ref h5, u17, .ref h1, .ref h4, .ref h3, .ref h6])), (h1, .inl (c 0, 6, .inl f2)), (h2, .inl (c 0, 6, .inl y)), (h3, .inl (c 0, 6, .inl f4)), (h4, .inl (c 0, 6, .inl f7)), (h5, .inl (c 0, 6, .inl f10)), (h6, .inl (c 0, 6, .inl f13))] := ⟨_, rfl, (Rg.upd gf3 (by omega) (by omega)), hP, hD⟩
  refine lv_aload_n hx hb dX1_stand_7 rfl (lv_at hl 0 rfl) ?_
  refine va_get (D := D) (ci := 1) (v := .ref h1) (C := RX1) (T := TX1) (N := 8) hx hb hts i_X1 hown hK hP 0 rfl rfl 4 (by decide) (hts _ kw_293) (fun _ h9 => h9) rfl dX1_stand_8 ?_
  refine lv_iload_n hx hb dX1_stand_11 rfl (lv_at hl 1 rfl) ?_
  refine lv_iconst (v := (-1)) hx hb dX1_stand_12 (by decide) ?_
  refine va_iast hx hb hK hP hD hS 1 0 rfl rfl (in_of (by omega) (by omega)) dX1_stand_13 (fun H locs hP hD hS => ?_)
  obtain ⟨f1002, ef1002, hf1002, hP, hD⟩ : ∃ y : Nat → Int32, y = upd f2 (Int32.toNatClampNeg a1) (-1) ∧ Rg y (-1) 13 ∧ va_P D vwCl [(h0, .inr (1, [.int v1, .ref h2, .ref h5, u17, .ref h1, .ref h4, .ref h3, .ref h6])), (h1, .inl (c 0, 6, .inl y)), (h2, .inl (c 0, 6, .inl f1001)), (h3, .inl (c 0, 6, .inl f4)), (h4, .inl (c 0, 6, .inl f7)), (h5, .inl (c 0, 6, .inl f10)), (h6, .inl (c 0, 6, .inl f13))] H ∧ va_D A [(h0, .inr (1, [.int v1, .ref h2, .ref h5, u17, .ref h1, .ref h4, .ref h3, .ref h6])), (h1, .inl (c 0, 6, .inl y)), (h2, .inl (c 0, 6, .inl f1001)), (h3, .inl (c 0, 6, .inl f4)), (h4, .inl (c 0, 6, .inl f7)), (h5, .inl (c 0, 6, .inl f10)), (h6, .inl (c 0, 6, .inl f13))] := ⟨_, rfl, (Rg.upd gf2 (by decide) (by decide)), hP, hD⟩
  refine lv_aload_n hx hb dX1_stand_14 rfl (lv_at hl 0 rfl) ?_
  refine va_get (D := D) (ci := 1) (v := .ref h4) (C := RX1) (T := TX1) (N := 8) hx hb hts i_X1 hown hK hP 0 rfl rfl 5 (by decide) (hts _ kw_296) (fun _ h9 => h9) rfl dX1_stand_15 ?_
  refine lv_iload_n hx hb dX1_stand_18 rfl (lv_at hl 1 rfl) ?_
  refine lv_iconst (v := 0) hx hb dX1_stand_19 (by decide) ?_
  refine va_iast hx hb hK hP hD hS 4 0 rfl rfl (in_of (by omega) (by omega)) dX1_stand_20 (fun H locs hP hD hS => ?_)
  obtain ⟨f1003, ef1003, hP, hD⟩ : ∃ y : Nat → Int32, y = upd f7 (Int32.toNatClampNeg a1) 0 ∧ va_P D vwCl [(h0, .inr (1, [.int v1, .ref h2, .ref h5, u17, .ref h1, .ref h4, .ref h3, .ref h6])), (h1, .inl (c 0, 6, .inl f1002)), (h2, .inl (c 0, 6, .inl f1001)), (h3, .inl (c 0, 6, .inl f4)), (h4, .inl (c 0, 6, .inl y)), (h5, .inl (c 0, 6, .inl f10)), (h6, .inl (c 0, 6, .inl f13))] H ∧ va_D A [(h0, .inr (1, [.int v1, .ref h2, .ref h5, u17, .ref h1, .ref h4, .ref h3, .ref h6])), (h1, .inl (c 0, 6, .inl f1002)), (h2, .inl (c 0, 6, .inl f1001)), (h3, .inl (c 0, 6, .inl f4)), (h4, .inl (c 0, 6, .inl y)), (h5, .inl (c 0, 6, .inl f10)), (h6, .inl (c 0, 6, .inl f13))] := ⟨_, rfl, hP, hD⟩
  refine lv_aload_n hx hb dX1_stand_21 rfl (lv_at hl 0 rfl) ?_
  refine va_get (D := D) (ci := 1) (v := .ref h3) (C := RX1) (T := TX1) (N := 8) hx hb hts i_X1 hown hK hP 0 rfl rfl 6 (by decide) (hts _ kw_299) (fun _ h9 => h9) rfl dX1_stand_22 ?_
  refine lv_iload_n hx hb dX1_stand_25 rfl (lv_at hl 1 rfl) ?_
  refine lv_iconst (v := (-1)) hx hb dX1_stand_26 (by decide) ?_
  refine va_iast hx hb hK hP hD hS 3 0 rfl rfl (in_of (by omega) (by omega)) dX1_stand_27 (fun H locs hP hD hS => ?_)
  obtain ⟨f1004, ef1004, hf1004, hP, hD⟩ : ∃ y : Nat → Int32, y = upd f4 (Int32.toNatClampNeg a1) (-1) ∧ Rg y (-1) 7 ∧ va_P D vwCl [(h0, .inr (1, [.int v1, .ref h2, .ref h5, u17, .ref h1, .ref h4, .ref h3, .ref h6])), (h1, .inl (c 0, 6, .inl f1002)), (h2, .inl (c 0, 6, .inl f1001)), (h3, .inl (c 0, 6, .inl y)), (h4, .inl (c 0, 6, .inl f1003)), (h5, .inl (c 0, 6, .inl f10)), (h6, .inl (c 0, 6, .inl f13))] H ∧ va_D A [(h0, .inr (1, [.int v1, .ref h2, .ref h5, u17, .ref h1, .ref h4, .ref h3, .ref h6])), (h1, .inl (c 0, 6, .inl f1002)), (h2, .inl (c 0, 6, .inl f1001)), (h3, .inl (c 0, 6, .inl y)), (h4, .inl (c 0, 6, .inl f1003)), (h5, .inl (c 0, 6, .inl f10)), (h6, .inl (c 0, 6, .inl f13))] := ⟨_, rfl, (Rg.upd gf4 (by decide) (by decide)), hP, hD⟩
  refine lv_iload_n hx hb dX1_stand_28 rfl (lv_at hl 2 rfl) ?_
  refine lv_aload_n hx hb dX1_stand_29 rfl (lv_at hl 0 rfl) ?_
  refine va_get (D := D) (ci := 1) (v := .ref h5) (C := RX1) (T := TX1) (N := 8) hx hb hts i_X1 hown hK hP 0 rfl rfl 2 (by decide) (hts _ kw_285) (fun _ h9 => h9) rfl dX1_stand_30 ?_
  refine lv_iload_n hx hb dX1_stand_33 rfl (lv_at hl 1 rfl) ?_
  refine va_iald hx hb hK hP 5 0 rfl rfl (in_of (by omega) (by omega)) dX1_stand_34 ?_
  refine rd gf10 (fun z1005 ez1005 hz1005 => ?_)
  refine B_icmp_ne (tgt := 55) (X := a2.toInt) (Y := z1005.toInt) hx hb dX1_stand_35 (by decide) rfl rfl (fun hc1006 => ?_) (fun hc1006 => ?_)
  · have km : (-1 : Int32).toInt = -1 := by decide
    have hv1007 : OnOK gn1 v1 f1002 := by rw [ef1002]; exact OnOK.put ge1 (by omega)
    have hv1008 : PlOK v1 f1001 f1002 := by rw [ef1002, ef1001]; exact PlOK.stand ge2 (by omega)
    have hv1009 : HdOK v1 f1002 f1004 := by rw [ef1002, ef1004]; exact HdOK.stand ge3 km
    have etz1005 : z1005.toInt = (f10 (Int32.toNatClampNeg a1)).toInt := congrArg Int32.toInt ez1005
    exact rV hQ hx hb hr hlocks hS (Nat.le_of_ble_eq_true rfl) (Nat.le_of_ble_eq_true rfl) dX1_stand_55 (fun t ht => ⟨f1002, f1001, f1004, f1003, f13, hf1002, hf1001, hf1004, hv1007, hv1008, hv1009, by rw [ht]; exact hP, hD⟩)
  · refine lv_aload_n hx hb dX1_stand_38 rfl (lv_at hl 0 rfl) ?_
    refine va_get (D := D) (ci := 1) (v := .ref h6) (C := RX1) (T := TX1) (N := 8) hx hb hts i_X1 hown hK hP 0 rfl rfl 7 (by decide) (hts _ kw_302) (fun _ h9 => h9) rfl dX1_stand_39 ?_
    refine lv_iload_n hx hb dX1_stand_42 rfl (lv_at hl 1 rfl) ?_
    refine va_iald hx hb hK hP 6 0 rfl rfl (in_of (by omega) (by omega)) dX1_stand_43 ?_
    refine o_any (fun z1010 ez1010 => ?_)
    refine lv_iconst (v := (-1)) hx hb dX1_stand_44 (by decide) ?_
    refine B_icmp_ne (tgt := 55) (X := z1010.toInt) (Y := (-1)) hx hb dX1_stand_45 (by decide) rfl (by decide) (fun hc1011 => ?_) (fun hc1011 => ?_)
    · have km : (-1 : Int32).toInt = -1 := by decide
      have hv1012 : OnOK gn1 v1 f1002 := by rw [ef1002]; exact OnOK.put ge1 (by omega)
      have hv1013 : PlOK v1 f1001 f1002 := by rw [ef1002, ef1001]; exact PlOK.stand ge2 (by omega)
      have hv1014 : HdOK v1 f1002 f1004 := by rw [ef1002, ef1004]; exact HdOK.stand ge3 km
      have etz1005 : z1005.toInt = (f10 (Int32.toNatClampNeg a1)).toInt := congrArg Int32.toInt ez1005
      have etz1010 : z1010.toInt = (f13 (Int32.toNatClampNeg a1)).toInt := congrArg Int32.toInt ez1010
      exact rV hQ hx hb hr hlocks hS (Nat.le_of_ble_eq_true rfl) (Nat.le_of_ble_eq_true rfl) dX1_stand_55 (fun t ht => ⟨f1002, f1001, f1004, f1003, f13, hf1002, hf1001, hf1004, hv1012, hv1013, hv1014, by rw [ht]; exact hP, hD⟩)
    · refine lv_aload_n hx hb dX1_stand_48 rfl (lv_at hl 0 rfl) ?_
      refine va_get (D := D) (ci := 1) (v := .ref h6) (C := RX1) (T := TX1) (N := 8) hx hb hts i_X1 hown hK hP 0 rfl rfl 7 (by decide) (hts _ kw_302) (fun _ h9 => h9) rfl dX1_stand_49 ?_
      refine lv_iload_n hx hb dX1_stand_52 rfl (lv_at hl 1 rfl) ?_
      refine lv_iload_n hx hb dX1_stand_53 rfl (lv_at hl 3 rfl) ?_
      refine va_iast hx hb hK hP hD hS 6 0 rfl rfl (in_of (by omega) (by omega)) dX1_stand_54 (fun H locs hP hD hS => ?_)
      obtain ⟨f1015, ef1015, hP, hD⟩ : ∃ y : Nat → Int32, y = upd f13 (Int32.toNatClampNeg a1) a3 ∧ va_P D vwCl [(h0, .inr (1, [.int v1, .ref h2, .ref h5, u17, .ref h1, .ref h4, .ref h3, .ref h6])), (h1, .inl (c 0, 6, .inl f1002)), (h2, .inl (c 0, 6, .inl f1001)), (h3, .inl (c 0, 6, .inl f1004)), (h4, .inl (c 0, 6, .inl f1003)), (h5, .inl (c 0, 6, .inl f10)), (h6, .inl (c 0, 6, .inl y))] H ∧ va_D A [(h0, .inr (1, [.int v1, .ref h2, .ref h5, u17, .ref h1, .ref h4, .ref h3, .ref h6])), (h1, .inl (c 0, 6, .inl f1002)), (h2, .inl (c 0, 6, .inl f1001)), (h3, .inl (c 0, 6, .inl f1004)), (h4, .inl (c 0, 6, .inl f1003)), (h5, .inl (c 0, 6, .inl f10)), (h6, .inl (c 0, 6, .inl y))] := ⟨_, rfl, hP, hD⟩
      have km : (-1 : Int32).toInt = -1 := by decide
      have hv1016 : OnOK gn1 v1 f1002 := by rw [ef1002]; exact OnOK.put ge1 (by omega)
      have hv1017 : PlOK v1 f1001 f1002 := by rw [ef1002, ef1001]; exact PlOK.stand ge2 (by omega)
      have hv1018 : HdOK v1 f1002 f1004 := by rw [ef1002, ef1004]; exact HdOK.stand ge3 km
      have etz1005 : z1005.toInt = (f10 (Int32.toNatClampNeg a1)).toInt := congrArg Int32.toInt ez1005
      have etz1010 : z1010.toInt = (f13 (Int32.toNatClampNeg a1)).toInt := congrArg Int32.toInt ez1010
      exact rV hQ hx hb hr hlocks hS (Nat.le_of_ble_eq_true rfl) (Nat.le_of_ble_eq_true rfl) dX1_stand_55 (fun t ht => ⟨f1002, f1001, f1004, f1003, f1015, hf1002, hf1001, hf1004, hv1016, hv1017, hv1018, by rw [ht]; exact hP, hD⟩)
