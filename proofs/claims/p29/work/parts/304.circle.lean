set_option maxHeartbeats 4000000 in
set_option maxRecDepth 100000 in
theorem m_X0_begin (l : Launch) (D : va_G) (c : Nat → ClassId) (h0 h1 h2 h3 h4 h5 : Nat) (sz : Nat) (v1 : Int32) (v2 : Int32) (v3 : Int32) (u1024 : Value) (u1025 : Value) (v4 : Int32) (u1026 : Value) (u1027 : Value) (u1028 : Value) (u1029 : Value) (u1030 : Value) (u1031 : Value) (f5 : Nat → Int32) (v8 : Int32) (v9 : Int32) (u1032 : Value) (u1033 : Value) (u1034 : Value) (u1035 : Value) (u1036 : Value) (u1037 : Value) (f12 : Nat → Int32) (f14 : Nat → Int32) (a1 : Int32) (gv1 : 0 ≤ v1.toInt ∧ v1.toInt ≤ 7) (gv2 : 0 ≤ v2.toInt ∧ v2.toInt ≤ 16383) (gv4 : 0 ≤ v4.toInt ∧ v4.toInt ≤ 6) (gf5 : Rg f5 0 8) (gv8 : 0 ≤ v8.toInt ∧ v8.toInt ≤ 14) (gv9 : 0 ≤ v9.toInt ∧ v9.toInt ≤ 16383) (gf12 : Rg f12 0 13) (ga1 : 0 ≤ a1.toInt ∧ a1.toInt ≤ 5) : Met l yX0_begin (Cond.code yX0_begin cX0_begin 4 none :: TB) ({ frames := 0, cells := 0, slots := 0, locals := 0 } : Room) (va_Pc [.ref h0, .int a1] (PW D c [(h0, .inr (0, [.int v1, .int v2, .ref h3, .ref h1, .ref h4, .int v3, u1024, u1025])), (h1, .inr (1, [.int v4, .ref h2, u1026, u1027, u1028, u1029, u1030, u1031])), (h2, .inl (c 0, 6, .inl f5)), (h3, .inr (3, [.int v8, .int v9, u1032, u1033, u1034, u1035, .ref h5, u1036, u1037])), (h4, .inl (c 0, 14, .inl f12)), (h5, .inl (c 0, 14, .inl f14))] sz)) ((QV (fun A t => ∃ (z900 : Int32) (z901 : Int32) (f902 : Nat → Int32), (0 ≤ z900.toInt ∧ z900.toInt ≤ 7) ∧ (Rg f902 0 13) ∧ va_P D vwCl [(h0, .inr (0, [.int z900, .int v9, .ref h3, .ref h1, .ref h4, .int z901, u1024, u1025])), (h1, .inr (1, [.int v4, .ref h2, u1026, u1027, u1028, u1029, u1030, u1031])), (h2, .inl (c 0, 6, .inl f5)), (h3, .inr (3, [.int v8, .int v9, u1032, u1033, u1034, u1035, .ref h5, u1036, u1037])), (h4, .inl (c 0, 14, .inl f902)), (h5, .inl (c 0, 14, .inl f14))] t.heap ∧ va_D A [(h0, .inr (0, [.int z900, .int v9, .ref h3, .ref h1, .ref h4, .int z901, u1024, u1025])), (h1, .inr (1, [.int v4, .ref h2, u1026, u1027, u1028, u1029, u1030, u1031])), (h2, .inl (c 0, 6, .inl f5)), (h3, .inr (3, [.int v8, .int v9, u1032, u1033, u1034, u1035, .ref h5, u1036, u1037])), (h4, .inl (c 0, 14, .inl f902)), (h5, .inl (c 0, 14, .inl f14))])) (va_A [(h0, .inr (0, [.int v1, .int v2, .ref h3, .ref h1, .ref h4, .int v3, u1024, u1025])), (h1, .inr (1, [.int v4, .ref h2, u1026, u1027, u1028, u1029, u1030, u1031])), (h2, .inl (c 0, 6, .inl f5)), (h3, .inr (3, [.int v8, .int v9, u1032, u1033, u1034, u1035, .ref h5, u1036, u1037])), (h4, .inl (c 0, 14, .inl f12)), (h5, .inl (c 0, 14, .inl f14))] sz)) 0 0 (va_A [(h0, .inr (0, [.int v1, .int v2, .ref h3, .ref h1, .ref h4, .int v3, u1024, u1025])), (h1, .inr (1, [.int v4, .ref h2, u1026, u1027, u1028, u1029, u1030, u1031])), (h2, .inl (c 0, 6, .inl f5)), (h3, .inr (3, [.int v8, .int v9, u1032, u1033, u1034, u1035, .ref h5, u1036, u1037])), (h4, .inl (c 0, 14, .inl f12)), (h5, .inl (c 0, 14, .inl f14))] sz) := by
  refine start2 (by decide +kernel) (Nat.le_of_ble_eq_true rfl) ?_
  intro p e s m below meth cd A ls Q hx hb hr hml hts hown hlocks hin hA hS hK hP hD hN hl hQ
  have hown : s.vm.findClass RX0 = some m.cls := hown
  have hl : lv_has ls 4 [(0, .ref h0), (1, .int a1)] := hl
  have hP : va_P D vwCl [(h0, .inr (0, [.int v1, .int v2, .ref h3, .ref h1, .ref h4, .int v3, u1024, u1025])), (h1, .inr (1, [.int v4, .ref h2, u1026, u1027, u1028, u1029, u1030, u1031])), (h2, .inl (c 0, 6, .inl f5)), (h3, .inr (3, [.int v8, .int v9, u1032, u1033, u1034, u1035, .ref h5, u1036, u1037])), (h4, .inl (c 0, 14, .inl f12)), (h5, .inl (c 0, 14, .inl f14))] s.heap := hP
  refine lv_aload_n hx hb dX0_begin_0 rfl (lv_at hl 0 rfl) ?_
  refine lv_aload_n hx hb dX0_begin_1 rfl (lv_at hl 0 rfl) ?_
  refine va_get (D := D) (ci := 0) (v := .ref h1) (C := RX0) (T := TX0) (N := 8) hx hb hts i_X0 hown hK hP 0 rfl rfl 3 (by decide) (hts _ kw_448) (fun _ h9 => h9) rfl dX0_begin_2 ?_
  refine va_get (D := D) (ci := 1) (v := .ref h2) (C := RX1) (T := TX1) (N := 8) hx hb hts i_X1 hown hK hP 1 rfl rfl 1 (by decide) (hts _ kw_280) (fun _ h9 => h9) rfl dX0_begin_5 ?_
  refine lv_iload_n hx hb dX0_begin_8 rfl (lv_at hl 1 rfl) ?_
  refine va_iald hx hb hK hP 2 0 rfl rfl (in_of (by omega) (by omega)) dX0_begin_9 ?_
  refine rd gf5 (fun z1001 ez1001 hz1001 => ?_)
  refine lv_bipush (v := 7) hx hb dX0_begin_10 (by decide) ?_
  refine lv_iand hx hb dX0_begin_12 ?_
  refine q_mask (X := z1001.toInt) (M := 8) 3 rfl (by decide) (by decide) (by decide) (fun z1002 ez1002 hz1002 => ?_)
  refine va_put (D := D) (ci := 0) (v := .int z1002) (ty := .int) (C := RX0) (T := TX0) (N := 8) hx hb hts i_X0 tyX0 tyX0_ok nmX0 hown hK hP hD hS 0 rfl rfl 0 (by decide) (hts _ kw_443) (fun _ h9 => h9) rfl (tyX0_ok 0 (by decide)) rfl rfl (Nat.le_of_ble_eq_true rfl) dX0_begin_13 (fun H locs hP hD hS => ?_)
  have hP : va_P D vwCl [(h0, .inr (0, [.int z1002, .int v2, .ref h3, .ref h1, .ref h4, .int v3, u1024, u1025])), (h1, .inr (1, [.int v4, .ref h2, u1026, u1027, u1028, u1029, u1030, u1031])), (h2, .inl (c 0, 6, .inl f5)), (h3, .inr (3, [.int v8, .int v9, u1032, u1033, u1034, u1035, .ref h5, u1036, u1037])), (h4, .inl (c 0, 14, .inl f12)), (h5, .inl (c 0, 14, .inl f14))] H := hP
  have hD : va_D A [(h0, .inr (0, [.int z1002, .int v2, .ref h3, .ref h1, .ref h4, .int v3, u1024, u1025])), (h1, .inr (1, [.int v4, .ref h2, u1026, u1027, u1028, u1029, u1030, u1031])), (h2, .inl (c 0, 6, .inl f5)), (h3, .inr (3, [.int v8, .int v9, u1032, u1033, u1034, u1035, .ref h5, u1036, u1037])), (h4, .inl (c 0, 14, .inl f12)), (h5, .inl (c 0, 14, .inl f14))] := hD
  refine lv_aload_n hx hb dX0_begin_16 rfl (lv_at hl 0 rfl) ?_
  refine lv_aload_n hx hb dX0_begin_17 rfl (lv_at hl 0 rfl) ?_
  refine va_get (D := D) (ci := 0) (v := .ref h3) (C := RX0) (T := TX0) (N := 8) hx hb hts i_X0 hown hK hP 0 rfl rfl 2 (by decide) (hts _ kw_447) (fun _ h9 => h9) rfl dX0_begin_18 ?_
  refine va_get (D := D) (ci := 3) (v := .int v9) (C := RX4) (T := TX4) (N := 9) hx hb hts i_X4 hown hK hP 3 rfl rfl 1 (by decide) (hts _ kw_219) (fun _ h9 => h9) rfl dX0_begin_21 ?_
  refine va_put (D := D) (ci := 0) (v := .int v9) (ty := .int) (C := RX0) (T := TX0) (N := 8) hx hb hts i_X0 tyX0 tyX0_ok nmX0 hown hK hP hD hS 0 rfl rfl 1 (by decide) (hts _ kw_445) (fun _ h9 => h9) rfl (tyX0_ok 1 (by decide)) rfl rfl (Nat.le_of_ble_eq_true rfl) dX0_begin_24 (fun H locs hP hD hS => ?_)
  have hP : va_P D vwCl [(h0, .inr (0, [.int z1002, .int v9, .ref h3, .ref h1, .ref h4, .int v3, u1024, u1025])), (h1, .inr (1, [.int v4, .ref h2, u1026, u1027, u1028, u1029, u1030, u1031])), (h2, .inl (c 0, 6, .inl f5)), (h3, .inr (3, [.int v8, .int v9, u1032, u1033, u1034, u1035, .ref h5, u1036, u1037])), (h4, .inl (c 0, 14, .inl f12)), (h5, .inl (c 0, 14, .inl f14))] H := hP
  have hD : va_D A [(h0, .inr (0, [.int z1002, .int v9, .ref h3, .ref h1, .ref h4, .int v3, u1024, u1025])), (h1, .inr (1, [.int v4, .ref h2, u1026, u1027, u1028, u1029, u1030, u1031])), (h2, .inl (c 0, 6, .inl f5)), (h3, .inr (3, [.int v8, .int v9, u1032, u1033, u1034, u1035, .ref h5, u1036, u1037])), (h4, .inl (c 0, 14, .inl f12)), (h5, .inl (c 0, 14, .inl f14))] := hD
  refine lv_aload_n hx hb dX0_begin_27 rfl (lv_at hl 0 rfl) ?_
  refine lv_iconst (v := 0) hx hb dX0_begin_28 (by decide) ?_
  refine va_put (D := D) (ci := 0) (v := .int 0) (ty := .int) (C := RX0) (T := TX0) (N := 8) hx hb hts i_X0 tyX0 tyX0_ok nmX0 hown hK hP hD hS 0 rfl rfl 5 (by decide) (hts _ kw_450) (fun _ h9 => h9) rfl (tyX0_ok 5 (by decide)) rfl rfl (Nat.le_of_ble_eq_true rfl) dX0_begin_29 (fun H locs hP hD hS => ?_)
  have hP : va_P D vwCl [(h0, .inr (0, [.int z1002, .int v9, .ref h3, .ref h1, .ref h4, .int 0, u1024, u1025])), (h1, .inr (1, [.int v4, .ref h2, u1026, u1027, u1028, u1029, u1030, u1031])), (h2, .inl (c 0, 6, .inl f5)), (h3, .inr (3, [.int v8, .int v9, u1032, u1033, u1034, u1035, .ref h5, u1036, u1037])), (h4, .inl (c 0, 14, .inl f12)), (h5, .inl (c 0, 14, .inl f14))] H := hP
  have hD : va_D A [(h0, .inr (0, [.int z1002, .int v9, .ref h3, .ref h1, .ref h4, .int 0, u1024, u1025])), (h1, .inr (1, [.int v4, .ref h2, u1026, u1027, u1028, u1029, u1030, u1031])), (h2, .inl (c 0, 6, .inl f5)), (h3, .inr (3, [.int v8, .int v9, u1032, u1033, u1034, u1035, .ref h5, u1036, u1037])), (h4, .inl (c 0, 14, .inl f12)), (h5, .inl (c 0, 14, .inl f14))] := hD
  refine lv_iconst (v := 0) hx hb dX0_begin_32 (by decide) ?_
  refine lv_istore_n (lv' := [(2, .int 0), (0, .ref h0), (1, .int a1)]) hx hb dX0_begin_33 rfl hl (by decide) rfl (fun ls hl => ?_)
  have lp1 : ∀ (n1 : Nat), ∀ (x1700 : Int32) (hx1700 : 0 ≤ x1700.toInt ∧ x1700.toInt ≤ 14) (f1701 : Nat → Int32) (hf1701 : Rg f1701 0 13) (x1702 : Int32) (hm1 : (14 : Int) - x1700.toInt < (n1 : Int)) (H : Heap) (locs : List Loc) (hP : va_P D vwCl [(h0, .inr (0, [.int z1002, .int v9, .ref h3, .ref h1, .ref h4, .int x1702, u1024, u1025])), (h1, .inr (1, [.int v4, .ref h2, u1026, u1027, u1028, u1029, u1030, u1031])), (h2, .inl (c 0, 6, .inl f5)), (h3, .inr (3, [.int v8, .int v9, u1032, u1033, u1034, u1035, .ref h5, u1036, u1037])), (h4, .inl (c 0, 14, .inl f1701)), (h5, .inl (c 0, 14, .inl f14))] H) (hD : va_D A [(h0, .inr (0, [.int z1002, .int v9, .ref h3, .ref h1, .ref h4, .int x1702, u1024, u1025])), (h1, .inr (1, [.int v4, .ref h2, u1026, u1027, u1028, u1029, u1030, u1031])), (h2, .inl (c 0, 6, .inl f5)), (h3, .inr (3, [.int v8, .int v9, u1032, u1033, u1034, u1035, .ref h5, u1036, u1037])), (h4, .inl (c 0, 14, .inl f1701)), (h5, .inl (c 0, 14, .inl f14))]) (hS : va_S A s.heap H locs) (ls : Array Slot) (hl : lv_has ls 4 [(2, .int x1700), (0, .ref h0)]), W p l e ({ frames := 0, cells := 0, slots := 0, locals := 0 } : Room) s m [.ref h0, .int a1].toArray below meth cd H locs 0 0 Q (F0 m 34 ls []) := by
    intro n1
    induction n1 with
    | zero =>
      intro x1700 hx1700 f1701 hf1701 x1702 hm1 H locs hP hD hS ls hl
      exact absurd hm1 (by omega)
    | succ n1 ih1 =>
      intro x1700 hx1700 f1701 hf1701 x1702 hm1 H locs hP hD hS ls hl
      refine lv_iload_n hx hb dX0_begin_34 rfl (lv_at hl 0 rfl) ?_
      refine lv_aload_n hx hb dX0_begin_35 rfl (lv_at hl 1 rfl) ?_
      refine va_get (D := D) (ci := 0) (v := .ref h3) (C := RX0) (T := TX0) (N := 8) hx hb hts i_X0 hown hK hP 0 rfl rfl 2 (by decide) (hts _ kw_447) (fun _ h9 => h9) rfl dX0_begin_36 ?_
      refine va_get (D := D) (ci := 3) (v := .int v8) (C := RX4) (T := TX4) (N := 9) hx hb hts i_X4 hown hK hP 3 rfl rfl 0 (by decide) (hts _ kw_214) (fun _ h9 => h9) rfl dX0_begin_39 ?_
      refine B_icmp_ge (tgt := 138) (X := x1700.toInt) (Y := v8.toInt) hx hb dX0_begin_42 (by decide) rfl rfl (fun hc1858 => ?_) (fun hc1858 => ?_)
      · have etz1001 : z1001.toInt = (f5 (Int32.toNatClampNeg a1)).toInt := congrArg Int32.toInt ez1001
        exact rV hQ hx hb hr hlocks hS (Nat.le_of_ble_eq_true rfl) (Nat.le_of_ble_eq_true rfl) dX0_begin_138 (fun t ht => ⟨z1002, x1702, f1701, ⟨by omega, by omega⟩, hf1701, by rw [ht]; exact hP, hD⟩)
      · refine lv_iload_n hx hb dX0_begin_45 rfl (lv_at hl 0 rfl) ?_
        refine lv_istore_n (lv' := [(3, .int x1700), (2, .int x1700), (0, .ref h0)]) hx hb dX0_begin_46 rfl hl (by decide) rfl (fun ls hl => ?_)
        have lp2 : ∀ (n2 : Nat), ∀ (x1987 : Int32) (hx1987 : 0 ≤ x1987.toInt ∧ x1987.toInt ≤ 13) (f1988 : Nat → Int32) (hf1988 : Rg f1988 0 13) (hm2 : (x1987.toInt : Int) - 0 < (n2 : Int)) (H : Heap) (locs : List Loc) (hP : va_P D vwCl [(h0, .inr (0, [.int z1002, .int v9, .ref h3, .ref h1, .ref h4, .int x1702, u1024, u1025])), (h1, .inr (1, [.int v4, .ref h2, u1026, u1027, u1028, u1029, u1030, u1031])), (h2, .inl (c 0, 6, .inl f5)), (h3, .inr (3, [.int v8, .int v9, u1032, u1033, u1034, u1035, .ref h5, u1036, u1037])), (h4, .inl (c 0, 14, .inl f1988)), (h5, .inl (c 0, 14, .inl f14))] H) (hD : va_D A [(h0, .inr (0, [.int z1002, .int v9, .ref h3, .ref h1, .ref h4, .int x1702, u1024, u1025])), (h1, .inr (1, [.int v4, .ref h2, u1026, u1027, u1028, u1029, u1030, u1031])), (h2, .inl (c 0, 6, .inl f5)), (h3, .inr (3, [.int v8, .int v9, u1032, u1033, u1034, u1035, .ref h5, u1036, u1037])), (h4, .inl (c 0, 14, .inl f1988)), (h5, .inl (c 0, 14, .inl f14))]) (hS : va_S A s.heap H locs) (ls : Array Slot) (hl : lv_has ls 4 [(3, .int x1987), (2, .int x1700), (0, .ref h0)]), W p l e ({ frames := 0, cells := 0, slots := 0, locals := 0 } : Room) s m [.ref h0, .int a1].toArray below meth cd H locs 0 0 Q (F0 m 47 ls []) := by
          intro n2
          induction n2 with
          | zero =>
            intro x1987 hx1987 f1988 hf1988 hm2 H locs hP hD hS ls hl
            exact absurd hm2 (by omega)
          | succ n2 ih2 =>
            intro x1987 hx1987 f1988 hf1988 hm2 H locs hP hD hS ls hl
            refine lv_iload_n hx hb dX0_begin_47 rfl (lv_at hl 0 rfl) ?_
            refine B_if_le (tgt := 99) (X := x1987.toInt) hx hb dX0_begin_48 (by decide) rfl (fun hc2013 => ?_) (fun hc2013 => ?_)
            · refine lv_aload_n hx hb dX0_begin_99 rfl (lv_at hl 2 rfl) ?_
              refine va_get (D := D) (ci := 0) (v := .ref h4) (C := RX0) (T := TX0) (N := 8) hx hb hts i_X0 hown hK hP 0 rfl rfl 4 (by decide) (hts _ kw_449) (fun _ h9 => h9) rfl dX0_begin_100 ?_
              refine lv_iload_n hx hb dX0_begin_103 rfl (lv_at hl 0 rfl) ?_
              refine lv_iload_n hx hb dX0_begin_104 rfl (lv_at hl 1 rfl) ?_
              refine va_iast hx hb hK hP hD hS 4 0 rfl rfl (in_of (by omega) (by omega)) dX0_begin_105 (fun H locs hP hD hS => ?_)
              obtain ⟨f2014, ef2014, hf2014, hP, hD⟩ : ∃ y : Nat → Int32, y = upd f1988 (Int32.toNatClampNeg x1987) x1700 ∧ Rg y 0 13 ∧ va_P D vwCl [(h0, .inr (0, [.int z1002, .int v9, .ref h3, .ref h1, .ref h4, .int x1702, u1024, u1025])), (h1, .inr (1, [.int v4, .ref h2, u1026, u1027, u1028, u1029, u1030, u1031])), (h2, .inl (c 0, 6, .inl f5)), (h3, .inr (3, [.int v8, .int v9, u1032, u1033, u1034, u1035, .ref h5, u1036, u1037])), (h4, .inl (c 0, 14, .inl y)), (h5, .inl (c 0, 14, .inl f14))] H ∧ va_D A [(h0, .inr (0, [.int z1002, .int v9, .ref h3, .ref h1, .ref h4, .int x1702, u1024, u1025])), (h1, .inr (1, [.int v4, .ref h2, u1026, u1027, u1028, u1029, u1030, u1031])), (h2, .inl (c 0, 6, .inl f5)), (h3, .inr (3, [.int v8, .int v9, u1032, u1033, u1034, u1035, .ref h5, u1036, u1037])), (h4, .inl (c 0, 14, .inl y)), (h5, .inl (c 0, 14, .inl f14))] := ⟨_, rfl, (Rg.upd hf1988 (by omega) (by omega)), hP, hD⟩
              refine lv_aload_n hx hb dX0_begin_106 rfl (lv_at hl 2 rfl) ?_
              refine lv_dup hx hb dX0_begin_107 rfl ?_
              refine va_get (D := D) (ci := 0) (v := .int x1702) (C := RX0) (T := TX0) (N := 8) hx hb hts i_X0 hown hK hP 0 rfl rfl 5 (by decide) (hts _ kw_450) (fun _ h9 => h9) rfl dX0_begin_108 ?_
              refine lv_aload_n hx hb dX0_begin_111 rfl (lv_at hl 2 rfl) ?_
              refine va_get (D := D) (ci := 0) (v := .ref h3) (C := RX0) (T := TX0) (N := 8) hx hb hts i_X0 hown hK hP 0 rfl rfl 2 (by decide) (hts _ kw_447) (fun _ h9 => h9) rfl dX0_begin_112 ?_
              refine va_get (D := D) (ci := 3) (v := .ref h5) (C := RX4) (T := TX4) (N := 9) hx hb hts i_X4 hown hK hP 3 rfl rfl 6 (by decide) (hts _ kw_238) (fun _ h9 => h9) rfl dX0_begin_115 ?_
              refine lv_iload_n hx hb dX0_begin_118 rfl (lv_at hl 1 rfl) ?_
              refine va_iald hx hb hK hP 5 0 rfl rfl (in_of (by omega) (by omega)) dX0_begin_119 ?_
              refine o_any (fun z2015 ez2015 => ?_)
              refine B_if_ne (tgt := 127) (X := z2015.toInt) hx hb dX0_begin_120 (by decide) rfl (fun hc2016 => ?_) (fun hc2016 => ?_)
              · refine lv_iconst (v := 0) hx hb dX0_begin_127 (by decide) ?_
                refine lv_iadd hx hb dX0_begin_128 ?_
                refine q_add (X := x1702.toInt) (Y := 0) rfl (by decide) (by have q := i32_lo x1702; have q := i32_hi x1702; omega) (by have q := i32_lo x1702; have q := i32_hi x1702; omega) (fun z2017 ez2017 hz2017 => ?_)
                refine va_put (D := D) (ci := 0) (v := .int z2017) (ty := .int) (C := RX0) (T := TX0) (N := 8) hx hb hts i_X0 tyX0 tyX0_ok nmX0 hown hK hP hD hS 0 rfl rfl 5 (by decide) (hts _ kw_450) (fun _ h9 => h9) rfl (tyX0_ok 5 (by decide)) rfl rfl (Nat.le_of_ble_eq_true rfl) dX0_begin_129 (fun H locs hP hD hS => ?_)
                have hP : va_P D vwCl [(h0, .inr (0, [.int z1002, .int v9, .ref h3, .ref h1, .ref h4, .int z2017, u1024, u1025])), (h1, .inr (1, [.int v4, .ref h2, u1026, u1027, u1028, u1029, u1030, u1031])), (h2, .inl (c 0, 6, .inl f5)), (h3, .inr (3, [.int v8, .int v9, u1032, u1033, u1034, u1035, .ref h5, u1036, u1037])), (h4, .inl (c 0, 14, .inl f2014)), (h5, .inl (c 0, 14, .inl f14))] H := hP
                have hD : va_D A [(h0, .inr (0, [.int z1002, .int v9, .ref h3, .ref h1, .ref h4, .int z2017, u1024, u1025])), (h1, .inr (1, [.int v4, .ref h2, u1026, u1027, u1028, u1029, u1030, u1031])), (h2, .inl (c 0, 6, .inl f5)), (h3, .inr (3, [.int v8, .int v9, u1032, u1033, u1034, u1035, .ref h5, u1036, u1037])), (h4, .inl (c 0, 14, .inl f2014)), (h5, .inl (c 0, 14, .inl f14))] := hD
                obtain ⟨z2018, ez2018, hz2018⟩ : ∃ y : Int32, y = x1700 + Int32.ofInt 1 ∧ y.toInt = x1700.toInt + 1 := ⟨_, rfl, ad_int (A := x1700.toInt) (B := 1) rfl (by decide) (by omega) (by omega)⟩
                refine lv_iinc (v := z2018) (lv' := [(2, .int z2018), (3, .int x1987), (0, .ref h0)]) hx hb dX0_begin_132 hl (k := 1) rfl ez2018.symm (by decide) rfl (fun ls hl => ?_)
                refine lv_goto (tgt := 34) hx hb dX0_begin_135 (by decide) ?_
                exact ih1 z2018 ⟨by omega, by omega⟩ f2014 hf2014 z2017 (by omega) H locs hP hD hS ls (lv_sub hl [0, 2] rfl)
              · refine lv_iconst (v := 1) hx hb dX0_begin_123 (by decide) ?_
                refine lv_goto (tgt := 128) hx hb dX0_begin_124 (by decide) ?_
                refine lv_iadd hx hb dX0_begin_128 ?_
                refine o_any (fun z2019 ez2019 => ?_)
                refine va_put (D := D) (ci := 0) (v := .int z2019) (ty := .int) (C := RX0) (T := TX0) (N := 8) hx hb hts i_X0 tyX0 tyX0_ok nmX0 hown hK hP hD hS 0 rfl rfl 5 (by decide) (hts _ kw_450) (fun _ h9 => h9) rfl (tyX0_ok 5 (by decide)) rfl rfl (Nat.le_of_ble_eq_true rfl) dX0_begin_129 (fun H locs hP hD hS => ?_)
                have hP : va_P D vwCl [(h0, .inr (0, [.int z1002, .int v9, .ref h3, .ref h1, .ref h4, .int z2019, u1024, u1025])), (h1, .inr (1, [.int v4, .ref h2, u1026, u1027, u1028, u1029, u1030, u1031])), (h2, .inl (c 0, 6, .inl f5)), (h3, .inr (3, [.int v8, .int v9, u1032, u1033, u1034, u1035, .ref h5, u1036, u1037])), (h4, .inl (c 0, 14, .inl f2014)), (h5, .inl (c 0, 14, .inl f14))] H := hP
                have hD : va_D A [(h0, .inr (0, [.int z1002, .int v9, .ref h3, .ref h1, .ref h4, .int z2019, u1024, u1025])), (h1, .inr (1, [.int v4, .ref h2, u1026, u1027, u1028, u1029, u1030, u1031])), (h2, .inl (c 0, 6, .inl f5)), (h3, .inr (3, [.int v8, .int v9, u1032, u1033, u1034, u1035, .ref h5, u1036, u1037])), (h4, .inl (c 0, 14, .inl f2014)), (h5, .inl (c 0, 14, .inl f14))] := hD
                obtain ⟨z2020, ez2020, hz2020⟩ : ∃ y : Int32, y = x1700 + Int32.ofInt 1 ∧ y.toInt = x1700.toInt + 1 := ⟨_, rfl, ad_int (A := x1700.toInt) (B := 1) rfl (by decide) (by omega) (by omega)⟩
                refine lv_iinc (v := z2020) (lv' := [(2, .int z2020), (3, .int x1987), (0, .ref h0)]) hx hb dX0_begin_132 hl (k := 1) rfl ez2020.symm (by decide) rfl (fun ls hl => ?_)
                refine lv_goto (tgt := 34) hx hb dX0_begin_135 (by decide) ?_
                exact ih1 z2020 ⟨by omega, by omega⟩ f2014 hf2014 z2019 (by omega) H locs hP hD hS ls (lv_sub hl [0, 2] rfl)
            · refine lv_aload_n hx hb dX0_begin_51 rfl (lv_at hl 2 rfl) ?_
              refine va_get (D := D) (ci := 0) (v := .ref h3) (C := RX0) (T := TX0) (N := 8) hx hb hts i_X0 hown hK hP 0 rfl rfl 2 (by decide) (hts _ kw_447) (fun _ h9 => h9) rfl dX0_begin_52 ?_
              refine va_get (D := D) (ci := 3) (v := .ref h5) (C := RX4) (T := TX4) (N := 9) hx hb hts i_X4 hown hK hP 3 rfl rfl 6 (by decide) (hts _ kw_238) (fun _ h9 => h9) rfl dX0_begin_55 ?_
              refine lv_aload_n hx hb dX0_begin_58 rfl (lv_at hl 2 rfl) ?_
              refine va_get (D := D) (ci := 0) (v := .ref h4) (C := RX0) (T := TX0) (N := 8) hx hb hts i_X0 hown hK hP 0 rfl rfl 4 (by decide) (hts _ kw_449) (fun _ h9 => h9) rfl dX0_begin_59 ?_
              refine lv_iload_n hx hb dX0_begin_62 rfl (lv_at hl 0 rfl) ?_
              refine lv_iconst (v := 1) hx hb dX0_begin_63 (by decide) ?_
              refine lv_isub hx hb dX0_begin_64 ?_
              refine q_sub (X := x1987.toInt) (Y := 1) rfl (by decide) (by omega) (by omega) (fun z2021 ez2021 hz2021 => ?_)
              refine va_iald hx hb hK hP 4 0 rfl rfl (in_of (by omega) (by omega)) dX0_begin_65 ?_
              refine rd hf1988 (fun z2022 ez2022 hz2022 => ?_)
              refine va_iald hx hb hK hP 5 0 rfl rfl (in_of (by omega) (by omega)) dX0_begin_66 ?_
              refine o_any (fun z2023 ez2023 => ?_)
              refine lv_aload_n hx hb dX0_begin_67 rfl (lv_at hl 2 rfl) ?_
              refine va_get (D := D) (ci := 0) (v := .ref h3) (C := RX0) (T := TX0) (N := 8) hx hb hts i_X0 hown hK hP 0 rfl rfl 2 (by decide) (hts _ kw_447) (fun _ h9 => h9) rfl dX0_begin_68 ?_
              refine va_get (D := D) (ci := 3) (v := .ref h5) (C := RX4) (T := TX4) (N := 9) hx hb hts i_X4 hown hK hP 3 rfl rfl 6 (by decide) (hts _ kw_238) (fun _ h9 => h9) rfl dX0_begin_71 ?_
              refine lv_iload_n hx hb dX0_begin_74 rfl (lv_at hl 1 rfl) ?_
              refine va_iald hx hb hK hP 5 0 rfl rfl (in_of (by omega) (by omega)) dX0_begin_75 ?_
              refine o_any (fun z2024 ez2024 => ?_)
              refine B_icmp_le (tgt := 99) (X := z2023.toInt) (Y := z2024.toInt) hx hb dX0_begin_76 (by decide) rfl rfl (fun hc2025 => ?_) (fun hc2025 => ?_)
              · refine lv_aload_n hx hb dX0_begin_99 rfl (lv_at hl 2 rfl) ?_
                refine va_get (D := D) (ci := 0) (v := .ref h4) (C := RX0) (T := TX0) (N := 8) hx hb hts i_X0 hown hK hP 0 rfl rfl 4 (by decide) (hts _ kw_449) (fun _ h9 => h9) rfl dX0_begin_100 ?_
                refine lv_iload_n hx hb dX0_begin_103 rfl (lv_at hl 0 rfl) ?_
                refine lv_iload_n hx hb dX0_begin_104 rfl (lv_at hl 1 rfl) ?_
                refine va_iast hx hb hK hP hD hS 4 0 rfl rfl (in_of (by omega) (by omega)) dX0_begin_105 (fun H locs hP hD hS => ?_)
                obtain ⟨f2026, ef2026, hf2026, hP, hD⟩ : ∃ y : Nat → Int32, y = upd f1988 (Int32.toNatClampNeg x1987) x1700 ∧ Rg y 0 13 ∧ va_P D vwCl [(h0, .inr (0, [.int z1002, .int v9, .ref h3, .ref h1, .ref h4, .int x1702, u1024, u1025])), (h1, .inr (1, [.int v4, .ref h2, u1026, u1027, u1028, u1029, u1030, u1031])), (h2, .inl (c 0, 6, .inl f5)), (h3, .inr (3, [.int v8, .int v9, u1032, u1033, u1034, u1035, .ref h5, u1036, u1037])), (h4, .inl (c 0, 14, .inl y)), (h5, .inl (c 0, 14, .inl f14))] H ∧ va_D A [(h0, .inr (0, [.int z1002, .int v9, .ref h3, .ref h1, .ref h4, .int x1702, u1024, u1025])), (h1, .inr (1, [.int v4, .ref h2, u1026, u1027, u1028, u1029, u1030, u1031])), (h2, .inl (c 0, 6, .inl f5)), (h3, .inr (3, [.int v8, .int v9, u1032, u1033, u1034, u1035, .ref h5, u1036, u1037])), (h4, .inl (c 0, 14, .inl y)), (h5, .inl (c 0, 14, .inl f14))] := ⟨_, rfl, (Rg.upd hf1988 (by omega) (by omega)), hP, hD⟩
                refine lv_aload_n hx hb dX0_begin_106 rfl (lv_at hl 2 rfl) ?_
                refine lv_dup hx hb dX0_begin_107 rfl ?_
                refine va_get (D := D) (ci := 0) (v := .int x1702) (C := RX0) (T := TX0) (N := 8) hx hb hts i_X0 hown hK hP 0 rfl rfl 5 (by decide) (hts _ kw_450) (fun _ h9 => h9) rfl dX0_begin_108 ?_
                refine lv_aload_n hx hb dX0_begin_111 rfl (lv_at hl 2 rfl) ?_
                refine va_get (D := D) (ci := 0) (v := .ref h3) (C := RX0) (T := TX0) (N := 8) hx hb hts i_X0 hown hK hP 0 rfl rfl 2 (by decide) (hts _ kw_447) (fun _ h9 => h9) rfl dX0_begin_112 ?_
                refine va_get (D := D) (ci := 3) (v := .ref h5) (C := RX4) (T := TX4) (N := 9) hx hb hts i_X4 hown hK hP 3 rfl rfl 6 (by decide) (hts _ kw_238) (fun _ h9 => h9) rfl dX0_begin_115 ?_
                refine lv_iload_n hx hb dX0_begin_118 rfl (lv_at hl 1 rfl) ?_
                refine va_iald hx hb hK hP 5 0 rfl rfl (in_of (by omega) (by omega)) dX0_begin_119 ?_
                refine o_any (fun z2027 ez2027 => ?_)
                refine B_if_ne (tgt := 127) (X := z2027.toInt) hx hb dX0_begin_120 (by decide) rfl (fun hc2028 => ?_) (fun hc2028 => ?_)
                · refine lv_iconst (v := 0) hx hb dX0_begin_127 (by decide) ?_
                  refine lv_iadd hx hb dX0_begin_128 ?_
                  refine q_add (X := x1702.toInt) (Y := 0) rfl (by decide) (by have q := i32_lo x1702; have q := i32_hi x1702; omega) (by have q := i32_lo x1702; have q := i32_hi x1702; omega) (fun z2029 ez2029 hz2029 => ?_)
                  refine va_put (D := D) (ci := 0) (v := .int z2029) (ty := .int) (C := RX0) (T := TX0) (N := 8) hx hb hts i_X0 tyX0 tyX0_ok nmX0 hown hK hP hD hS 0 rfl rfl 5 (by decide) (hts _ kw_450) (fun _ h9 => h9) rfl (tyX0_ok 5 (by decide)) rfl rfl (Nat.le_of_ble_eq_true rfl) dX0_begin_129 (fun H locs hP hD hS => ?_)
                  have hP : va_P D vwCl [(h0, .inr (0, [.int z1002, .int v9, .ref h3, .ref h1, .ref h4, .int z2029, u1024, u1025])), (h1, .inr (1, [.int v4, .ref h2, u1026, u1027, u1028, u1029, u1030, u1031])), (h2, .inl (c 0, 6, .inl f5)), (h3, .inr (3, [.int v8, .int v9, u1032, u1033, u1034, u1035, .ref h5, u1036, u1037])), (h4, .inl (c 0, 14, .inl f2026)), (h5, .inl (c 0, 14, .inl f14))] H := hP
                  have hD : va_D A [(h0, .inr (0, [.int z1002, .int v9, .ref h3, .ref h1, .ref h4, .int z2029, u1024, u1025])), (h1, .inr (1, [.int v4, .ref h2, u1026, u1027, u1028, u1029, u1030, u1031])), (h2, .inl (c 0, 6, .inl f5)), (h3, .inr (3, [.int v8, .int v9, u1032, u1033, u1034, u1035, .ref h5, u1036, u1037])), (h4, .inl (c 0, 14, .inl f2026)), (h5, .inl (c 0, 14, .inl f14))] := hD
                  obtain ⟨z2030, ez2030, hz2030⟩ : ∃ y : Int32, y = x1700 + Int32.ofInt 1 ∧ y.toInt = x1700.toInt + 1 := ⟨_, rfl, ad_int (A := x1700.toInt) (B := 1) rfl (by decide) (by omega) (by omega)⟩
                  refine lv_iinc (v := z2030) (lv' := [(2, .int z2030), (3, .int x1987), (0, .ref h0)]) hx hb dX0_begin_132 hl (k := 1) rfl ez2030.symm (by decide) rfl (fun ls hl => ?_)
                  refine lv_goto (tgt := 34) hx hb dX0_begin_135 (by decide) ?_
                  exact ih1 z2030 ⟨by omega, by omega⟩ f2026 hf2026 z2029 (by omega) H locs hP hD hS ls (lv_sub hl [0, 2] rfl)
                · refine lv_iconst (v := 1) hx hb dX0_begin_123 (by decide) ?_
                  refine lv_goto (tgt := 128) hx hb dX0_begin_124 (by decide) ?_
                  refine lv_iadd hx hb dX0_begin_128 ?_
                  refine o_any (fun z2031 ez2031 => ?_)
                  refine va_put (D := D) (ci := 0) (v := .int z2031) (ty := .int) (C := RX0) (T := TX0) (N := 8) hx hb hts i_X0 tyX0 tyX0_ok nmX0 hown hK hP hD hS 0 rfl rfl 5 (by decide) (hts _ kw_450) (fun _ h9 => h9) rfl (tyX0_ok 5 (by decide)) rfl rfl (Nat.le_of_ble_eq_true rfl) dX0_begin_129 (fun H locs hP hD hS => ?_)
                  have hP : va_P D vwCl [(h0, .inr (0, [.int z1002, .int v9, .ref h3, .ref h1, .ref h4, .int z2031, u1024, u1025])), (h1, .inr (1, [.int v4, .ref h2, u1026, u1027, u1028, u1029, u1030, u1031])), (h2, .inl (c 0, 6, .inl f5)), (h3, .inr (3, [.int v8, .int v9, u1032, u1033, u1034, u1035, .ref h5, u1036, u1037])), (h4, .inl (c 0, 14, .inl f2026)), (h5, .inl (c 0, 14, .inl f14))] H := hP
                  have hD : va_D A [(h0, .inr (0, [.int z1002, .int v9, .ref h3, .ref h1, .ref h4, .int z2031, u1024, u1025])), (h1, .inr (1, [.int v4, .ref h2, u1026, u1027, u1028, u1029, u1030, u1031])), (h2, .inl (c 0, 6, .inl f5)), (h3, .inr (3, [.int v8, .int v9, u1032, u1033, u1034, u1035, .ref h5, u1036, u1037])), (h4, .inl (c 0, 14, .inl f2026)), (h5, .inl (c 0, 14, .inl f14))] := hD
                  obtain ⟨z2032, ez2032, hz2032⟩ : ∃ y : Int32, y = x1700 + Int32.ofInt 1 ∧ y.toInt = x1700.toInt + 1 := ⟨_, rfl, ad_int (A := x1700.toInt) (B := 1) rfl (by decide) (by omega) (by omega)⟩
                  refine lv_iinc (v := z2032) (lv' := [(2, .int z2032), (3, .int x1987), (0, .ref h0)]) hx hb dX0_begin_132 hl (k := 1) rfl ez2032.symm (by decide) rfl (fun ls hl => ?_)
                  refine lv_goto (tgt := 34) hx hb dX0_begin_135 (by decide) ?_
                  exact ih1 z2032 ⟨by omega, by omega⟩ f2026 hf2026 z2031 (by omega) H locs hP hD hS ls (lv_sub hl [0, 2] rfl)
              · refine lv_aload_n hx hb dX0_begin_79 rfl (lv_at hl 2 rfl) ?_
                refine va_get (D := D) (ci := 0) (v := .ref h4) (C := RX0) (T := TX0) (N := 8) hx hb hts i_X0 hown hK hP 0 rfl rfl 4 (by decide) (hts _ kw_449) (fun _ h9 => h9) rfl dX0_begin_80 ?_
                refine lv_iload_n hx hb dX0_begin_83 rfl (lv_at hl 0 rfl) ?_
                refine lv_aload_n hx hb dX0_begin_84 rfl (lv_at hl 2 rfl) ?_
                refine va_get (D := D) (ci := 0) (v := .ref h4) (C := RX0) (T := TX0) (N := 8) hx hb hts i_X0 hown hK hP 0 rfl rfl 4 (by decide) (hts _ kw_449) (fun _ h9 => h9) rfl dX0_begin_85 ?_
                refine lv_iload_n hx hb dX0_begin_88 rfl (lv_at hl 0 rfl) ?_
                refine lv_iconst (v := 1) hx hb dX0_begin_89 (by decide) ?_
                refine lv_isub hx hb dX0_begin_90 ?_
                refine q_sub (X := x1987.toInt) (Y := 1) rfl (by decide) (by omega) (by omega) (fun z2033 ez2033 hz2033 => ?_)
                refine va_iald hx hb hK hP 4 0 rfl rfl (in_of (by omega) (by omega)) dX0_begin_91 ?_
                refine rd hf1988 (fun z2034 ez2034 hz2034 => ?_)
                refine va_iast hx hb hK hP hD hS 4 0 rfl rfl (in_of (by omega) (by omega)) dX0_begin_92 (fun H locs hP hD hS => ?_)
                obtain ⟨f2035, ef2035, hf2035, hP, hD⟩ : ∃ y : Nat → Int32, y = upd f1988 (Int32.toNatClampNeg x1987) z2034 ∧ Rg y 0 13 ∧ va_P D vwCl [(h0, .inr (0, [.int z1002, .int v9, .ref h3, .ref h1, .ref h4, .int x1702, u1024, u1025])), (h1, .inr (1, [.int v4, .ref h2, u1026, u1027, u1028, u1029, u1030, u1031])), (h2, .inl (c 0, 6, .inl f5)), (h3, .inr (3, [.int v8, .int v9, u1032, u1033, u1034, u1035, .ref h5, u1036, u1037])), (h4, .inl (c 0, 14, .inl y)), (h5, .inl (c 0, 14, .inl f14))] H ∧ va_D A [(h0, .inr (0, [.int z1002, .int v9, .ref h3, .ref h1, .ref h4, .int x1702, u1024, u1025])), (h1, .inr (1, [.int v4, .ref h2, u1026, u1027, u1028, u1029, u1030, u1031])), (h2, .inl (c 0, 6, .inl f5)), (h3, .inr (3, [.int v8, .int v9, u1032, u1033, u1034, u1035, .ref h5, u1036, u1037])), (h4, .inl (c 0, 14, .inl y)), (h5, .inl (c 0, 14, .inl f14))] := ⟨_, rfl, (Rg.upd hf1988 (by omega) (by omega)), hP, hD⟩
                obtain ⟨z2036, ez2036, hz2036⟩ : ∃ y : Int32, y = x1987 + Int32.ofInt (-1) ∧ y.toInt = x1987.toInt + (-1) := ⟨_, rfl, ad_int (A := x1987.toInt) (B := (-1)) rfl (by decide) (by omega) (by omega)⟩
                refine lv_iinc (v := z2036) (lv' := [(3, .int z2036), (2, .int x1700), (0, .ref h0)]) hx hb dX0_begin_93 hl (k := 0) rfl ez2036.symm (by decide) rfl (fun ls hl => ?_)
                refine lv_goto (tgt := 47) hx hb dX0_begin_96 (by decide) ?_
                exact ih2 z2036 ⟨by omega, by omega⟩ f2035 hf2035 (by omega) H locs hP hD hS ls (lv_sub hl [0, 1, 2] rfl)
        exact lp2 (((x1700.toInt : Int) - 0).toNat + 1) x1700 ⟨by omega, by omega⟩ f1701 hf1701 (by omega) H locs hP hD hS ls (lv_sub hl [0, 1, 2] rfl)
  have hk0 : (0 : Int32).toInt = 0 := by decide
  exact lp1 (((14 : Int) - 0).toNat + 1) 0 (by decide) f12 gf12 0 (by omega) H locs hP hD hS ls (lv_sub hl [0, 1] rfl)
set_option maxHeartbeats 4000000 in
set_option maxRecDepth 100000 in
theorem m_X0_pace (l : Launch) (D : va_G) (c : Nat → ClassId) (h0 h1 h2 h3 h4 h5 h6 : Nat) (sz : Nat) (v1 : Int32) (v2 : Int32) (u1385 : Value) (v3 : Int32) (u1386 : Value) (u1387 : Value) (v4 : Int32) (v5 : Int32) (u1388 : Value) (u1389 : Value) (u1390 : Value) (f6 : Nat → Int32) (f10 : Nat → Int32) (f15 : Nat → Int32) (f25 : Nat → Int32) (f27 : Nat → Int32) (gv1 : 0 ≤ v1.toInt ∧ v1.toInt ≤ 7) (gv2 : 0 ≤ v2.toInt ∧ v2.toInt ≤ 16383) (gv4 : 0 ≤ v4.toInt ∧ v4.toInt ≤ 14) (gv5 : 0 ≤ v5.toInt ∧ v5.toInt ≤ 16383) (gf6 : Rg f6 0 16383) (gf10 : Rg f10 0 16383) (gf15 : Rg f15 0 13) (gf25 : Rg f25 0 7) (gf27 : Rg f27 0 7) : Met l yX0_pace (Cond.code yX0_pace cX0_pace 5 (some .int) :: TB) ({ frames := 0, cells := 0, slots := 0, locals := 0 } : Room) (va_Pc [.ref h0] (PW D c [(h0, .inr (0, [.int v1, .int v2, .ref h1, u1385, .ref h4, .int v3, u1386, u1387])), (h1, .inr (3, [.int v4, .int v5, .ref h5, .ref h6, u1388, u1389, u1390, .ref h2, .ref h3])), (h2, .inl (c 0, 8, .inl f6)), (h3, .inl (c 0, 8, .inl f10)), (h4, .inl (c 0, 14, .inl f15)), (h5, .inl (c 0, 14, .inl f25)), (h6, .inl (c 0, 14, .inl f27))] sz)) ((QIx (fun A r t => ∃ (z900 : Int32) (z901 : Int32) (z902 : Int32) (f903 : Nat → Int32), (0 ≤ z900.toInt ∧ z900.toInt ≤ 7) ∧ (0 ≤ z901.toInt ∧ z901.toInt ≤ 16383) ∧ (Rg f903 0 13) ∧ ((-1) ≤ r.toInt ∧ r.toInt ≤ 13) ∧ va_P D vwCl [(h0, .inr (0, [.int z900, .int z901, .ref h1, u1385, .ref h4, .int z902, u1386, u1387])), (h1, .inr (3, [.int v4, .int v5, .ref h5, .ref h6, u1388, u1389, u1390, .ref h2, .ref h3])), (h2, .inl (c 0, 8, .inl f6)), (h3, .inl (c 0, 8, .inl f10)), (h4, .inl (c 0, 14, .inl f903)), (h5, .inl (c 0, 14, .inl f25)), (h6, .inl (c 0, 14, .inl f27))] t.heap ∧ va_D A [(h0, .inr (0, [.int z900, .int z901, .ref h1, u1385, .ref h4, .int z902, u1386, u1387])), (h1, .inr (3, [.int v4, .int v5, .ref h5, .ref h6, u1388, u1389, u1390, .ref h2, .ref h3])), (h2, .inl (c 0, 8, .inl f6)), (h3, .inl (c 0, 8, .inl f10)), (h4, .inl (c 0, 14, .inl f903)), (h5, .inl (c 0, 14, .inl f25)), (h6, .inl (c 0, 14, .inl f27))])) (va_A [(h0, .inr (0, [.int v1, .int v2, .ref h1, u1385, .ref h4, .int v3, u1386, u1387])), (h1, .inr (3, [.int v4, .int v5, .ref h5, .ref h6, u1388, u1389, u1390, .ref h2, .ref h3])), (h2, .inl (c 0, 8, .inl f6)), (h3, .inl (c 0, 8, .inl f10)), (h4, .inl (c 0, 14, .inl f15)), (h5, .inl (c 0, 14, .inl f25)), (h6, .inl (c 0, 14, .inl f27))] sz)) 0 0 (va_A [(h0, .inr (0, [.int v1, .int v2, .ref h1, u1385, .ref h4, .int v3, u1386, u1387])), (h1, .inr (3, [.int v4, .int v5, .ref h5, .ref h6, u1388, u1389, u1390, .ref h2, .ref h3])), (h2, .inl (c 0, 8, .inl f6)), (h3, .inl (c 0, 8, .inl f10)), (h4, .inl (c 0, 14, .inl f15)), (h5, .inl (c 0, 14, .inl f25)), (h6, .inl (c 0, 14, .inl f27))] sz) := by
  refine start2 (by decide +kernel) (Nat.le_of_ble_eq_true rfl) ?_
  intro p e s m below meth cd A ls Q hx hb hr hml hts hown hlocks hin hA hS hK hP hD hN hl hQ
  have hown : s.vm.findClass RX0 = some m.cls := hown
  have hl : lv_has ls 5 [(0, .ref h0)] := hl
  have hP : va_P D vwCl [(h0, .inr (0, [.int v1, .int v2, .ref h1, u1385, .ref h4, .int v3, u1386, u1387])), (h1, .inr (3, [.int v4, .int v5, .ref h5, .ref h6, u1388, u1389, u1390, .ref h2, .ref h3])), (h2, .inl (c 0, 8, .inl f6)), (h3, .inl (c 0, 8, .inl f10)), (h4, .inl (c 0, 14, .inl f15)), (h5, .inl (c 0, 14, .inl f25)), (h6, .inl (c 0, 14, .inl f27))] s.heap := hP
  refine lv_aload_n hx hb dX0_pace_0 rfl (lv_at hl 0 rfl) ?_
  refine va_get (D := D) (ci := 0) (v := .ref h1) (C := RX0) (T := TX0) (N := 8) hx hb hts i_X0 hown hK hP 0 rfl rfl 2 (by decide) (hts _ kw_447) (fun _ h9 => h9) rfl dX0_pace_1 ?_
  refine va_get (D := D) (ci := 3) (v := .ref h2) (C := RX4) (T := TX4) (N := 9) hx hb hts i_X4 hown hK hP 1 rfl rfl 7 (by decide) (hts _ kw_243) (fun _ h9 => h9) rfl dX0_pace_4 ?_
  refine lv_aload_n hx hb dX0_pace_7 rfl (lv_at hl 0 rfl) ?_
  refine va_get (D := D) (ci := 0) (v := .int v1) (C := RX0) (T := TX0) (N := 8) hx hb hts i_X0 hown hK hP 0 rfl rfl 0 (by decide) (hts _ kw_443) (fun _ h9 => h9) rfl dX0_pace_8 ?_
  refine va_iald hx hb hK hP 2 0 rfl rfl (in_of (by omega) (by omega)) dX0_pace_11 ?_
  refine rd gf6 (fun z1001 ez1001 hz1001 => ?_)
  refine lv_aload_n hx hb dX0_pace_12 rfl (lv_at hl 0 rfl) ?_
  refine va_get (D := D) (ci := 0) (v := .int v2) (C := RX0) (T := TX0) (N := 8) hx hb hts i_X0 hown hK hP 0 rfl rfl 1 (by decide) (hts _ kw_445) (fun _ h9 => h9) rfl dX0_pace_13 ?_
  refine lv_iconst (v := (-1)) hx hb dX0_pace_16 (by decide) ?_
  refine lv_ixor hx hb dX0_pace_17 ?_
  refine o_any (fun z1002 ez1002 => ?_)
  refine lv_iand hx hb dX0_pace_18 ?_
  refine q_andl (X := z1001.toInt) rfl (by omega) (fun z1003 ez1003 hz1003 => ?_)
  refine lv_aload_n hx hb dX0_pace_19 rfl (lv_at hl 0 rfl) ?_
  refine va_get (D := D) (ci := 0) (v := .ref h1) (C := RX0) (T := TX0) (N := 8) hx hb hts i_X0 hown hK hP 0 rfl rfl 2 (by decide) (hts _ kw_447) (fun _ h9 => h9) rfl dX0_pace_20 ?_
  refine va_get (D := D) (ci := 3) (v := .ref h3) (C := RX4) (T := TX4) (N := 9) hx hb hts i_X4 hown hK hP 1 rfl rfl 8 (by decide) (hts _ kw_246) (fun _ h9 => h9) rfl dX0_pace_23 ?_
  refine lv_aload_n hx hb dX0_pace_26 rfl (lv_at hl 0 rfl) ?_
  refine va_get (D := D) (ci := 0) (v := .int v1) (C := RX0) (T := TX0) (N := 8) hx hb hts i_X0 hown hK hP 0 rfl rfl 0 (by decide) (hts _ kw_443) (fun _ h9 => h9) rfl dX0_pace_27 ?_
  refine va_iald hx hb hK hP 3 0 rfl rfl (in_of (by omega) (by omega)) dX0_pace_30 ?_
  refine rd gf10 (fun z1004 ez1004 hz1004 => ?_)
  refine lv_aload_n hx hb dX0_pace_31 rfl (lv_at hl 0 rfl) ?_
  refine va_get (D := D) (ci := 0) (v := .int v2) (C := RX0) (T := TX0) (N := 8) hx hb hts i_X0 hown hK hP 0 rfl rfl 1 (by decide) (hts _ kw_445) (fun _ h9 => h9) rfl dX0_pace_32 ?_
  refine lv_iand hx hb dX0_pace_35 ?_
  refine q_andr (Y := v2.toInt) rfl (by omega) (fun z1005 ez1005 hz1005 => ?_)
  refine lv_ior hx hb dX0_pace_36 ?_
  refine q_or (X := z1003.toInt) (Y := z1005.toInt) (M := 16384) 14 rfl rfl (by decide) (by decide) (by omega) (by omega) (by omega) (by omega) (fun z1006 ez1006 hz1006 => ?_)
  refine lv_istore_n (lv' := [(1, .int z1006), (0, .ref h0)]) hx hb dX0_pace_37 rfl hl (by decide) rfl (fun ls hl => ?_)
  refine lv_iconst (v := 0) hx hb dX0_pace_38 (by decide) ?_
  refine lv_istore_n (lv' := [(2, .int 0), (1, .int z1006), (0, .ref h0)]) hx hb dX0_pace_39 rfl hl (by decide) rfl (fun ls hl => ?_)
  have lp1 : ∀ (n1 : Nat), ∀ (x2187 : Int32) (hx2187 : 0 ≤ x2187.toInt ∧ x2187.toInt ≤ 14) (hm1 : (14 : Int) - x2187.toInt < (n1 : Int)) (H : Heap) (locs : List Loc) (hP : va_P D vwCl [(h0, .inr (0, [.int v1, .int v2, .ref h1, u1385, .ref h4, .int v3, u1386, u1387])), (h1, .inr (3, [.int v4, .int v5, .ref h5, .ref h6, u1388, u1389, u1390, .ref h2, .ref h3])), (h2, .inl (c 0, 8, .inl f6)), (h3, .inl (c 0, 8, .inl f10)), (h4, .inl (c 0, 14, .inl f15)), (h5, .inl (c 0, 14, .inl f25)), (h6, .inl (c 0, 14, .inl f27))] H) (hD : va_D A [(h0, .inr (0, [.int v1, .int v2, .ref h1, u1385, .ref h4, .int v3, u1386, u1387])), (h1, .inr (3, [.int v4, .int v5, .ref h5, .ref h6, u1388, u1389, u1390, .ref h2, .ref h3])), (h2, .inl (c 0, 8, .inl f6)), (h3, .inl (c 0, 8, .inl f10)), (h4, .inl (c 0, 14, .inl f15)), (h5, .inl (c 0, 14, .inl f25)), (h6, .inl (c 0, 14, .inl f27))]) (hS : va_S A s.heap H locs) (ls : Array Slot) (hl : lv_has ls 5 [(2, .int x2187), (1, .int z1006), (0, .ref h0)]), W p l e ({ frames := 0, cells := 0, slots := 0, locals := 0 } : Room) s m [.ref h0].toArray below meth cd H locs 0 0 Q (F0 m 40 ls []) := by
    intro n1
    induction n1 with
    | zero =>
      intro x2187 hx2187 hm1 H locs hP hD hS ls hl
      exact absurd hm1 (by omega)
    | succ n1 ih1 =>
      intro x2187 hx2187 hm1 H locs hP hD hS ls hl
      refine lv_iload_n hx hb dX0_pace_40 rfl (lv_at hl 0 rfl) ?_
      refine lv_aload_n hx hb dX0_pace_41 rfl (lv_at hl 2 rfl) ?_
      refine va_get (D := D) (ci := 0) (v := .ref h1) (C := RX0) (T := TX0) (N := 8) hx hb hts i_X0 hown hK hP 0 rfl rfl 2 (by decide) (hts _ kw_447) (fun _ h9 => h9) rfl dX0_pace_42 ?_
      refine va_get (D := D) (ci := 3) (v := .int v4) (C := RX4) (T := TX4) (N := 9) hx hb hts i_X4 hown hK hP 1 rfl rfl 0 (by decide) (hts _ kw_214) (fun _ h9 => h9) rfl dX0_pace_45 ?_
      refine B_icmp_ge (tgt := 190) (X := x2187.toInt) (Y := v4.toInt) hx hb dX0_pace_48 (by decide) rfl rfl (fun hc2375 => ?_) (fun hc2375 => ?_)
      · refine lv_iconst (v := (-1)) hx hb dX0_pace_190 (by decide) ?_
        have etz1001 : z1001.toInt = (f6 (Int32.toNatClampNeg v1)).toInt := congrArg Int32.toInt ez1001
        have etz1004 : z1004.toInt = (f10 (Int32.toNatClampNeg v1)).toInt := congrArg Int32.toInt ez1004
        have hk0 : ((-1) : Int32).toInt = (-1) := by decide
        exact rI hQ hx hb hr hlocks rfl hS (Nat.le_of_ble_eq_true rfl) (Nat.le_of_ble_eq_true rfl) dX0_pace_191 (fun t ht => ⟨v1, v2, v3, f15, gv1, gv2, gf15, by decide, by rw [ht]; exact hP, hD⟩)
      · refine lv_aload_n hx hb dX0_pace_51 rfl (lv_at hl 2 rfl) ?_
        refine va_get (D := D) (ci := 0) (v := .ref h4) (C := RX0) (T := TX0) (N := 8) hx hb hts i_X0 hown hK hP 0 rfl rfl 4 (by decide) (hts _ kw_449) (fun _ h9 => h9) rfl dX0_pace_52 ?_
        refine lv_iload_n hx hb dX0_pace_55 rfl (lv_at hl 0 rfl) ?_
        refine va_iald hx hb hK hP 4 0 rfl rfl (in_of (by omega) (by omega)) dX0_pace_56 ?_
        refine rd gf15 (fun z2376 ez2376 hz2376 => ?_)
        refine lv_istore_n (lv' := [(3, .int z2376), (2, .int x2187), (1, .int z1006), (0, .ref h0)]) hx hb dX0_pace_57 rfl hl (by decide) rfl (fun ls hl => ?_)
        refine lv_iload_n hx hb dX0_pace_58 rfl (lv_at hl 2 rfl) ?_
        refine lv_iload_n hx hb dX0_pace_59 rfl (lv_at hl 0 rfl) ?_
        refine lv_ishr hx hb dX0_pace_60 ?_
        refine q_shr (X := z1006.toInt) rfl (by omega) (fun z2377 ez2377 hz2377 => ?_)
        refine lv_iconst (v := 1) hx hb dX0_pace_61 (by decide) ?_
        refine lv_iand hx hb dX0_pace_62 ?_
        refine q_mask (X := z2377.toInt) (M := 2) 1 rfl (by decide) (by decide) (by decide) (fun z2378 ez2378 hz2378 => ?_)
        refine B_if_eq (tgt := 184) (X := z2378.toInt) hx hb dX0_pace_63 (by decide) rfl (fun hc2379 => ?_) (fun hc2379 => ?_)
        · obtain ⟨z2380, ez2380, hz2380⟩ : ∃ y : Int32, y = x2187 + Int32.ofInt 1 ∧ y.toInt = x2187.toInt + 1 := ⟨_, rfl, ad_int (A := x2187.toInt) (B := 1) rfl (by decide) (by omega) (by omega)⟩
          refine lv_iinc (v := z2380) (lv' := [(2, .int z2380), (3, .int z2376), (1, .int z1006), (0, .ref h0)]) hx hb dX0_pace_184 hl (k := 1) rfl ez2380.symm (by decide) rfl (fun ls hl => ?_)
          refine lv_goto (tgt := 40) hx hb dX0_pace_187 (by decide) ?_
          exact ih1 z2380 ⟨by omega, by omega⟩ (by omega) H locs hP hD hS ls (lv_sub hl [0, 2, 3] rfl)
        · refine lv_aload_n hx hb dX0_pace_66 rfl (lv_at hl 3 rfl) ?_
          refine lv_dup hx hb dX0_pace_67 rfl ?_
          refine va_get (D := D) (ci := 0) (v := .int v3) (C := RX0) (T := TX0) (N := 8) hx hb hts i_X0 hown hK hP 0 rfl rfl 5 (by decide) (hts _ kw_450) (fun _ h9 => h9) rfl dX0_pace_68 ?_
          refine lv_iload_n hx hb dX0_pace_71 rfl (lv_at hl 1 rfl) ?_
          refine lv_aload_n hx hb dX0_pace_72 rfl (lv_at hl 3 rfl) ?_
          refine va_get (D := D) (ci := 0) (v := .int v3) (C := RX0) (T := TX0) (N := 8) hx hb hts i_X0 hown hK hP 0 rfl rfl 5 (by decide) (hts _ kw_450) (fun _ h9 => h9) rfl dX0_pace_73 ?_
          refine B_icmp_ge (tgt := 83) (X := x2187.toInt) (Y := v3.toInt) hx hb dX0_pace_76 (by decide) rfl rfl (fun hc2381 => ?_) (fun hc2381 => ?_)
          · refine lv_iconst (v := 0) hx hb dX0_pace_83 (by decide) ?_
            refine lv_isub hx hb dX0_pace_84 ?_
            refine q_sub (X := v3.toInt) (Y := 0) rfl (by decide) (by have q := i32_lo v3; have q := i32_hi v3; omega) (by have q := i32_lo v3; have q := i32_hi v3; omega) (fun z2382 ez2382 hz2382 => ?_)
            refine va_put (D := D) (ci := 0) (v := .int z2382) (ty := .int) (C := RX0) (T := TX0) (N := 8) hx hb hts i_X0 tyX0 tyX0_ok nmX0 hown hK hP hD hS 0 rfl rfl 5 (by decide) (hts _ kw_450) (fun _ h9 => h9) rfl (tyX0_ok 5 (by decide)) rfl rfl (Nat.le_of_ble_eq_true rfl) dX0_pace_85 (fun H locs hP hD hS => ?_)
            have hP : va_P D vwCl [(h0, .inr (0, [.int v1, .int v2, .ref h1, u1385, .ref h4, .int z2382, u1386, u1387])), (h1, .inr (3, [.int v4, .int v5, .ref h5, .ref h6, u1388, u1389, u1390, .ref h2, .ref h3])), (h2, .inl (c 0, 8, .inl f6)), (h3, .inl (c 0, 8, .inl f10)), (h4, .inl (c 0, 14, .inl f15)), (h5, .inl (c 0, 14, .inl f25)), (h6, .inl (c 0, 14, .inl f27))] H := hP
            have hD : va_D A [(h0, .inr (0, [.int v1, .int v2, .ref h1, u1385, .ref h4, .int z2382, u1386, u1387])), (h1, .inr (3, [.int v4, .int v5, .ref h5, .ref h6, u1388, u1389, u1390, .ref h2, .ref h3])), (h2, .inl (c 0, 8, .inl f6)), (h3, .inl (c 0, 8, .inl f10)), (h4, .inl (c 0, 14, .inl f15)), (h5, .inl (c 0, 14, .inl f25)), (h6, .inl (c 0, 14, .inl f27))] := hD
            refine lv_iload_n hx hb dX0_pace_88 rfl (lv_at hl 1 rfl) ?_
            refine lv_iconst (v := 1) hx hb dX0_pace_89 (by decide) ?_
            refine lv_iadd hx hb dX0_pace_90 ?_
            refine q_add (X := x2187.toInt) (Y := 1) rfl (by decide) (by omega) (by omega) (fun z2383 ez2383 hz2383 => ?_)
            refine lv_istore (lv' := [(4, .int z2383), (3, .int z2376), (2, .int x2187), (1, .int z1006), (0, .ref h0)]) hx hb dX0_pace_91 hl (by decide) rfl (fun ls hl => ?_)
            have lp2 : ∀ (n2 : Nat), ∀ (x2457 : Int32) (hx2457 : 1 ≤ x2457.toInt ∧ x2457.toInt ≤ 14) (f2458 : Nat → Int32) (hf2458 : Rg f2458 0 13) (hm2 : (14 : Int) - x2457.toInt < (n2 : Int)) (H : Heap) (locs : List Loc) (hP : va_P D vwCl [(h0, .inr (0, [.int v1, .int v2, .ref h1, u1385, .ref h4, .int z2382, u1386, u1387])), (h1, .inr (3, [.int v4, .int v5, .ref h5, .ref h6, u1388, u1389, u1390, .ref h2, .ref h3])), (h2, .inl (c 0, 8, .inl f6)), (h3, .inl (c 0, 8, .inl f10)), (h4, .inl (c 0, 14, .inl f2458)), (h5, .inl (c 0, 14, .inl f25)), (h6, .inl (c 0, 14, .inl f27))] H) (hD : va_D A [(h0, .inr (0, [.int v1, .int v2, .ref h1, u1385, .ref h4, .int z2382, u1386, u1387])), (h1, .inr (3, [.int v4, .int v5, .ref h5, .ref h6, u1388, u1389, u1390, .ref h2, .ref h3])), (h2, .inl (c 0, 8, .inl f6)), (h3, .inl (c 0, 8, .inl f10)), (h4, .inl (c 0, 14, .inl f2458)), (h5, .inl (c 0, 14, .inl f25)), (h6, .inl (c 0, 14, .inl f27))]) (hS : va_S A s.heap H locs) (ls : Array Slot) (hl : lv_has ls 5 [(4, .int x2457), (3, .int z2376), (0, .ref h0)]), W p l e ({ frames := 0, cells := 0, slots := 0, locals := 0 } : Room) s m [.ref h0].toArray below meth cd H locs 0 0 Q (F0 m 93 ls []) := by
              intro n2
              induction n2 with
              | zero =>
                intro x2457 hx2457 f2458 hf2458 hm2 H locs hP hD hS ls hl
                exact absurd hm2 (by omega)
              | succ n2 ih2 =>
                intro x2457 hx2457 f2458 hf2458 hm2 H locs hP hD hS ls hl
                refine lv_iload hx hb dX0_pace_93 (lv_at hl 0 rfl) ?_
                refine lv_aload_n hx hb dX0_pace_95 rfl (lv_at hl 2 rfl) ?_
                refine va_get (D := D) (ci := 0) (v := .ref h1) (C := RX0) (T := TX0) (N := 8) hx hb hts i_X0 hown hK hP 0 rfl rfl 2 (by decide) (hts _ kw_447) (fun _ h9 => h9) rfl dX0_pace_96 ?_
                refine va_get (D := D) (ci := 3) (v := .int v4) (C := RX4) (T := TX4) (N := 9) hx hb hts i_X4 hown hK hP 1 rfl rfl 0 (by decide) (hts _ kw_214) (fun _ h9 => h9) rfl dX0_pace_99 ?_
                refine B_icmp_ge (tgt := 127) (X := x2457.toInt) (Y := v4.toInt) hx hb dX0_pace_102 (by decide) rfl rfl (fun hc2472 => ?_) (fun hc2472 => ?_)
                · refine lv_aload_n hx hb dX0_pace_127 rfl (lv_at hl 2 rfl) ?_
                  refine va_get (D := D) (ci := 0) (v := .ref h4) (C := RX0) (T := TX0) (N := 8) hx hb hts i_X0 hown hK hP 0 rfl rfl 4 (by decide) (hts _ kw_449) (fun _ h9 => h9) rfl dX0_pace_128 ?_
                  refine lv_aload_n hx hb dX0_pace_131 rfl (lv_at hl 2 rfl) ?_
                  refine va_get (D := D) (ci := 0) (v := .ref h1) (C := RX0) (T := TX0) (N := 8) hx hb hts i_X0 hown hK hP 0 rfl rfl 2 (by decide) (hts _ kw_447) (fun _ h9 => h9) rfl dX0_pace_132 ?_
                  refine va_get (D := D) (ci := 3) (v := .int v4) (C := RX4) (T := TX4) (N := 9) hx hb hts i_X4 hown hK hP 1 rfl rfl 0 (by decide) (hts _ kw_214) (fun _ h9 => h9) rfl dX0_pace_135 ?_
                  refine lv_iconst (v := 1) hx hb dX0_pace_138 (by decide) ?_
                  refine lv_isub hx hb dX0_pace_139 ?_
                  refine q_sub (X := v4.toInt) (Y := 1) rfl (by decide) (by omega) (by omega) (fun z2473 ez2473 hz2473 => ?_)
                  refine lv_iload_n hx hb dX0_pace_140 rfl (lv_at hl 1 rfl) ?_
                  refine va_iast hx hb hK hP hD hS 4 0 rfl rfl (in_of (by omega) (by omega)) dX0_pace_141 (fun H locs hP hD hS => ?_)
                  obtain ⟨f2474, ef2474, hf2474, hP, hD⟩ : ∃ y : Nat → Int32, y = upd f2458 (Int32.toNatClampNeg z2473) z2376 ∧ Rg y 0 13 ∧ va_P D vwCl [(h0, .inr (0, [.int v1, .int v2, .ref h1, u1385, .ref h4, .int z2382, u1386, u1387])), (h1, .inr (3, [.int v4, .int v5, .ref h5, .ref h6, u1388, u1389, u1390, .ref h2, .ref h3])), (h2, .inl (c 0, 8, .inl f6)), (h3, .inl (c 0, 8, .inl f10)), (h4, .inl (c 0, 14, .inl y)), (h5, .inl (c 0, 14, .inl f25)), (h6, .inl (c 0, 14, .inl f27))] H ∧ va_D A [(h0, .inr (0, [.int v1, .int v2, .ref h1, u1385, .ref h4, .int z2382, u1386, u1387])), (h1, .inr (3, [.int v4, .int v5, .ref h5, .ref h6, u1388, u1389, u1390, .ref h2, .ref h3])), (h2, .inl (c 0, 8, .inl f6)), (h3, .inl (c 0, 8, .inl f10)), (h4, .inl (c 0, 14, .inl y)), (h5, .inl (c 0, 14, .inl f25)), (h6, .inl (c 0, 14, .inl f27))] := ⟨_, rfl, (Rg.upd hf2458 (by omega) (by omega)), hP, hD⟩
                  refine lv_aload_n hx hb dX0_pace_142 rfl (lv_at hl 2 rfl) ?_
                  refine lv_dup hx hb dX0_pace_143 rfl ?_
                  refine va_get (D := D) (ci := 0) (v := .int v1) (C := RX0) (T := TX0) (N := 8) hx hb hts i_X0 hown hK hP 0 rfl rfl 0 (by decide) (hts _ kw_443) (fun _ h9 => h9) rfl dX0_pace_144 ?_
                  refine lv_aload_n hx hb dX0_pace_147 rfl (lv_at hl 2 rfl) ?_
                  refine va_get (D := D) (ci := 0) (v := .ref h1) (C := RX0) (T := TX0) (N := 8) hx hb hts i_X0 hown hK hP 0 rfl rfl 2 (by decide) (hts _ kw_447) (fun _ h9 => h9) rfl dX0_pace_148 ?_
                  refine va_get (D := D) (ci := 3) (v := .ref h5) (C := RX4) (T := TX4) (N := 9) hx hb hts i_X4 hown hK hP 1 rfl rfl 2 (by decide) (hts _ kw_225) (fun _ h9 => h9) rfl dX0_pace_151 ?_
                  refine lv_iload_n hx hb dX0_pace_154 rfl (lv_at hl 1 rfl) ?_
                  refine va_iald hx hb hK hP 5 0 rfl rfl (in_of (by omega) (by omega)) dX0_pace_155 ?_
                  refine rd gf25 (fun z2475 ez2475 hz2475 => ?_)
                  refine lv_aload_n hx hb dX0_pace_156 rfl (lv_at hl 2 rfl) ?_
                  refine va_get (D := D) (ci := 0) (v := .ref h1) (C := RX0) (T := TX0) (N := 8) hx hb hts i_X0 hown hK hP 0 rfl rfl 2 (by decide) (hts _ kw_447) (fun _ h9 => h9) rfl dX0_pace_157 ?_
                  refine va_get (D := D) (ci := 3) (v := .ref h6) (C := RX4) (T := TX4) (N := 9) hx hb hts i_X4 hown hK hP 1 rfl rfl 3 (by decide) (hts _ kw_228) (fun _ h9 => h9) rfl dX0_pace_160 ?_
                  refine lv_iload_n hx hb dX0_pace_163 rfl (lv_at hl 1 rfl) ?_
                  refine va_iald hx hb hK hP 6 0 rfl rfl (in_of (by omega) (by omega)) dX0_pace_164 ?_
                  refine rd gf27 (fun z2476 ez2476 hz2476 => ?_)
                  refine lv_ixor hx hb dX0_pace_165 ?_
                  refine q_xor (X := z2475.toInt) (Y := z2476.toInt) (M := 8) 3 rfl rfl (by decide) (by decide) (by omega) (by omega) (by omega) (by omega) (fun z2477 ez2477 hz2477 => ?_)
                  refine lv_ixor hx hb dX0_pace_166 ?_
                  refine q_xor (X := v1.toInt) (Y := z2477.toInt) (M := 8) 3 rfl rfl (by decide) (by decide) (by omega) (by omega) (by omega) (by omega) (fun z2478 ez2478 hz2478 => ?_)
                  refine va_put (D := D) (ci := 0) (v := .int z2478) (ty := .int) (C := RX0) (T := TX0) (N := 8) hx hb hts i_X0 tyX0 tyX0_ok nmX0 hown hK hP hD hS 0 rfl rfl 0 (by decide) (hts _ kw_443) (fun _ h9 => h9) rfl (tyX0_ok 0 (by decide)) rfl rfl (Nat.le_of_ble_eq_true rfl) dX0_pace_167 (fun H locs hP hD hS => ?_)
                  have hP : va_P D vwCl [(h0, .inr (0, [.int z2478, .int v2, .ref h1, u1385, .ref h4, .int z2382, u1386, u1387])), (h1, .inr (3, [.int v4, .int v5, .ref h5, .ref h6, u1388, u1389, u1390, .ref h2, .ref h3])), (h2, .inl (c 0, 8, .inl f6)), (h3, .inl (c 0, 8, .inl f10)), (h4, .inl (c 0, 14, .inl f2474)), (h5, .inl (c 0, 14, .inl f25)), (h6, .inl (c 0, 14, .inl f27))] H := hP
                  have hD : va_D A [(h0, .inr (0, [.int z2478, .int v2, .ref h1, u1385, .ref h4, .int z2382, u1386, u1387])), (h1, .inr (3, [.int v4, .int v5, .ref h5, .ref h6, u1388, u1389, u1390, .ref h2, .ref h3])), (h2, .inl (c 0, 8, .inl f6)), (h3, .inl (c 0, 8, .inl f10)), (h4, .inl (c 0, 14, .inl f2474)), (h5, .inl (c 0, 14, .inl f25)), (h6, .inl (c 0, 14, .inl f27))] := hD
                  refine lv_aload_n hx hb dX0_pace_170 rfl (lv_at hl 2 rfl) ?_
                  refine lv_dup hx hb dX0_pace_171 rfl ?_
                  refine va_get (D := D) (ci := 0) (v := .int v2) (C := RX0) (T := TX0) (N := 8) hx hb hts i_X0 hown hK hP 0 rfl rfl 1 (by decide) (hts _ kw_445) (fun _ h9 => h9) rfl dX0_pace_172 ?_
                  refine lv_iconst (v := 1) hx hb dX0_pace_175 (by decide) ?_
                  refine lv_iload_n hx hb dX0_pace_176 rfl (lv_at hl 1 rfl) ?_
                  refine lv_ishl hx hb dX0_pace_177 ?_
                  refine q_shl (X := 1) (Y := z2376.toInt) (M := 8192) 1 13 (by decide) rfl (by omega) (by omega) (by omega) (by omega) (by decide) (by decide) (by decide) (fun z2479 ez2479 hz2479 => ?_)
                  refine lv_ixor hx hb dX0_pace_178 ?_
                  refine q_xor (X := v2.toInt) (Y := z2479.toInt) (M := 16384) 14 rfl rfl (by decide) (by decide) (by omega) (by omega) (by omega) (by omega) (fun z2480 ez2480 hz2480 => ?_)
                  refine va_put (D := D) (ci := 0) (v := .int z2480) (ty := .int) (C := RX0) (T := TX0) (N := 8) hx hb hts i_X0 tyX0 tyX0_ok nmX0 hown hK hP hD hS 0 rfl rfl 1 (by decide) (hts _ kw_445) (fun _ h9 => h9) rfl (tyX0_ok 1 (by decide)) rfl rfl (Nat.le_of_ble_eq_true rfl) dX0_pace_179 (fun H locs hP hD hS => ?_)
                  have hP : va_P D vwCl [(h0, .inr (0, [.int z2478, .int z2480, .ref h1, u1385, .ref h4, .int z2382, u1386, u1387])), (h1, .inr (3, [.int v4, .int v5, .ref h5, .ref h6, u1388, u1389, u1390, .ref h2, .ref h3])), (h2, .inl (c 0, 8, .inl f6)), (h3, .inl (c 0, 8, .inl f10)), (h4, .inl (c 0, 14, .inl f2474)), (h5, .inl (c 0, 14, .inl f25)), (h6, .inl (c 0, 14, .inl f27))] H := hP
                  have hD : va_D A [(h0, .inr (0, [.int z2478, .int z2480, .ref h1, u1385, .ref h4, .int z2382, u1386, u1387])), (h1, .inr (3, [.int v4, .int v5, .ref h5, .ref h6, u1388, u1389, u1390, .ref h2, .ref h3])), (h2, .inl (c 0, 8, .inl f6)), (h3, .inl (c 0, 8, .inl f10)), (h4, .inl (c 0, 14, .inl f2474)), (h5, .inl (c 0, 14, .inl f25)), (h6, .inl (c 0, 14, .inl f27))] := hD
                  refine lv_iload_n hx hb dX0_pace_182 rfl (lv_at hl 1 rfl) ?_
                  have etz1001 : z1001.toInt = (f6 (Int32.toNatClampNeg v1)).toInt := congrArg Int32.toInt ez1001
                  have etz1004 : z1004.toInt = (f10 (Int32.toNatClampNeg v1)).toInt := congrArg Int32.toInt ez1004
                  exact rI hQ hx hb hr hlocks rfl hS (Nat.le_of_ble_eq_true rfl) (Nat.le_of_ble_eq_true rfl) dX0_pace_183 (fun t ht => ⟨z2478, z2480, z2382, f2474, ⟨by omega, by omega⟩, ⟨by omega, by omega⟩, hf2474, ⟨by omega, by omega⟩, by rw [ht]; exact hP, hD⟩)
                · refine lv_aload_n hx hb dX0_pace_105 rfl (lv_at hl 2 rfl) ?_
                  refine va_get (D := D) (ci := 0) (v := .ref h4) (C := RX0) (T := TX0) (N := 8) hx hb hts i_X0 hown hK hP 0 rfl rfl 4 (by decide) (hts _ kw_449) (fun _ h9 => h9) rfl dX0_pace_106 ?_
                  refine lv_iload hx hb dX0_pace_109 (lv_at hl 0 rfl) ?_
                  refine lv_iconst (v := 1) hx hb dX0_pace_111 (by decide) ?_
                  refine lv_isub hx hb dX0_pace_112 ?_
                  refine q_sub (X := x2457.toInt) (Y := 1) rfl (by decide) (by omega) (by omega) (fun z2481 ez2481 hz2481 => ?_)
                  refine lv_aload_n hx hb dX0_pace_113 rfl (lv_at hl 2 rfl) ?_
                  refine va_get (D := D) (ci := 0) (v := .ref h4) (C := RX0) (T := TX0) (N := 8) hx hb hts i_X0 hown hK hP 0 rfl rfl 4 (by decide) (hts _ kw_449) (fun _ h9 => h9) rfl dX0_pace_114 ?_
                  refine lv_iload hx hb dX0_pace_117 (lv_at hl 0 rfl) ?_
                  refine va_iald hx hb hK hP 4 0 rfl rfl (in_of (by omega) (by omega)) dX0_pace_119 ?_
                  refine rd hf2458 (fun z2482 ez2482 hz2482 => ?_)
                  refine va_iast hx hb hK hP hD hS 4 0 rfl rfl (in_of (by omega) (by omega)) dX0_pace_120 (fun H locs hP hD hS => ?_)
                  obtain ⟨f2483, ef2483, hf2483, hP, hD⟩ : ∃ y : Nat → Int32, y = upd f2458 (Int32.toNatClampNeg z2481) z2482 ∧ Rg y 0 13 ∧ va_P D vwCl [(h0, .inr (0, [.int v1, .int v2, .ref h1, u1385, .ref h4, .int z2382, u1386, u1387])), (h1, .inr (3, [.int v4, .int v5, .ref h5, .ref h6, u1388, u1389, u1390, .ref h2, .ref h3])), (h2, .inl (c 0, 8, .inl f6)), (h3, .inl (c 0, 8, .inl f10)), (h4, .inl (c 0, 14, .inl y)), (h5, .inl (c 0, 14, .inl f25)), (h6, .inl (c 0, 14, .inl f27))] H ∧ va_D A [(h0, .inr (0, [.int v1, .int v2, .ref h1, u1385, .ref h4, .int z2382, u1386, u1387])), (h1, .inr (3, [.int v4, .int v5, .ref h5, .ref h6, u1388, u1389, u1390, .ref h2, .ref h3])), (h2, .inl (c 0, 8, .inl f6)), (h3, .inl (c 0, 8, .inl f10)), (h4, .inl (c 0, 14, .inl y)), (h5, .inl (c 0, 14, .inl f25)), (h6, .inl (c 0, 14, .inl f27))] := ⟨_, rfl, (Rg.upd hf2458 (by omega) (by omega)), hP, hD⟩
                  obtain ⟨z2484, ez2484, hz2484⟩ : ∃ y : Int32, y = x2457 + Int32.ofInt 1 ∧ y.toInt = x2457.toInt + 1 := ⟨_, rfl, ad_int (A := x2457.toInt) (B := 1) rfl (by decide) (by omega) (by omega)⟩
                  refine lv_iinc (v := z2484) (lv' := [(4, .int z2484), (3, .int z2376), (0, .ref h0)]) hx hb dX0_pace_121 hl (k := 0) rfl ez2484.symm (by decide) rfl (fun ls hl => ?_)
                  refine lv_goto (tgt := 93) hx hb dX0_pace_124 (by decide) ?_
                  exact ih2 z2484 ⟨by omega, by omega⟩ f2483 hf2483 (by omega) H locs hP hD hS ls (lv_sub hl [0, 1, 2] rfl)
            exact lp2 (((14 : Int) - z2383.toInt).toNat + 1) z2383 ⟨by omega, by omega⟩ f15 gf15 (by omega) H locs hP hD hS ls (lv_sub hl [0, 1, 4] rfl)
          · refine lv_iconst (v := 1) hx hb dX0_pace_79 (by decide) ?_
            refine lv_goto (tgt := 84) hx hb dX0_pace_80 (by decide) ?_
            refine lv_isub hx hb dX0_pace_84 ?_
            refine q_sub (X := v3.toInt) (Y := 1) rfl (by decide) (by have q := i32_lo v3; have q := i32_hi v3; omega) (by have q := i32_lo v3; have q := i32_hi v3; omega) (fun z2485 ez2485 hz2485 => ?_)
            refine va_put (D := D) (ci := 0) (v := .int z2485) (ty := .int) (C := RX0) (T := TX0) (N := 8) hx hb hts i_X0 tyX0 tyX0_ok nmX0 hown hK hP hD hS 0 rfl rfl 5 (by decide) (hts _ kw_450) (fun _ h9 => h9) rfl (tyX0_ok 5 (by decide)) rfl rfl (Nat.le_of_ble_eq_true rfl) dX0_pace_85 (fun H locs hP hD hS => ?_)
            have hP : va_P D vwCl [(h0, .inr (0, [.int v1, .int v2, .ref h1, u1385, .ref h4, .int z2485, u1386, u1387])), (h1, .inr (3, [.int v4, .int v5, .ref h5, .ref h6, u1388, u1389, u1390, .ref h2, .ref h3])), (h2, .inl (c 0, 8, .inl f6)), (h3, .inl (c 0, 8, .inl f10)), (h4, .inl (c 0, 14, .inl f15)), (h5, .inl (c 0, 14, .inl f25)), (h6, .inl (c 0, 14, .inl f27))] H := hP
            have hD : va_D A [(h0, .inr (0, [.int v1, .int v2, .ref h1, u1385, .ref h4, .int z2485, u1386, u1387])), (h1, .inr (3, [.int v4, .int v5, .ref h5, .ref h6, u1388, u1389, u1390, .ref h2, .ref h3])), (h2, .inl (c 0, 8, .inl f6)), (h3, .inl (c 0, 8, .inl f10)), (h4, .inl (c 0, 14, .inl f15)), (h5, .inl (c 0, 14, .inl f25)), (h6, .inl (c 0, 14, .inl f27))] := hD
            refine lv_iload_n hx hb dX0_pace_88 rfl (lv_at hl 1 rfl) ?_
            refine lv_iconst (v := 1) hx hb dX0_pace_89 (by decide) ?_
            refine lv_iadd hx hb dX0_pace_90 ?_
            refine q_add (X := x2187.toInt) (Y := 1) rfl (by decide) (by omega) (by omega) (fun z2486 ez2486 hz2486 => ?_)
            refine lv_istore (lv' := [(4, .int z2486), (3, .int z2376), (2, .int x2187), (1, .int z1006), (0, .ref h0)]) hx hb dX0_pace_91 hl (by decide) rfl (fun ls hl => ?_)
            have lp3 : ∀ (n3 : Nat), ∀ (x2560 : Int32) (hx2560 : 1 ≤ x2560.toInt ∧ x2560.toInt ≤ 14) (f2561 : Nat → Int32) (hf2561 : Rg f2561 0 13) (hm3 : (14 : Int) - x2560.toInt < (n3 : Int)) (H : Heap) (locs : List Loc) (hP : va_P D vwCl [(h0, .inr (0, [.int v1, .int v2, .ref h1, u1385, .ref h4, .int z2485, u1386, u1387])), (h1, .inr (3, [.int v4, .int v5, .ref h5, .ref h6, u1388, u1389, u1390, .ref h2, .ref h3])), (h2, .inl (c 0, 8, .inl f6)), (h3, .inl (c 0, 8, .inl f10)), (h4, .inl (c 0, 14, .inl f2561)), (h5, .inl (c 0, 14, .inl f25)), (h6, .inl (c 0, 14, .inl f27))] H) (hD : va_D A [(h0, .inr (0, [.int v1, .int v2, .ref h1, u1385, .ref h4, .int z2485, u1386, u1387])), (h1, .inr (3, [.int v4, .int v5, .ref h5, .ref h6, u1388, u1389, u1390, .ref h2, .ref h3])), (h2, .inl (c 0, 8, .inl f6)), (h3, .inl (c 0, 8, .inl f10)), (h4, .inl (c 0, 14, .inl f2561)), (h5, .inl (c 0, 14, .inl f25)), (h6, .inl (c 0, 14, .inl f27))]) (hS : va_S A s.heap H locs) (ls : Array Slot) (hl : lv_has ls 5 [(4, .int x2560), (3, .int z2376), (0, .ref h0)]), W p l e ({ frames := 0, cells := 0, slots := 0, locals := 0 } : Room) s m [.ref h0].toArray below meth cd H locs 0 0 Q (F0 m 93 ls []) := by
              intro n3
              induction n3 with
              | zero =>
                intro x2560 hx2560 f2561 hf2561 hm3 H locs hP hD hS ls hl
                exact absurd hm3 (by omega)
              | succ n3 ih3 =>
                intro x2560 hx2560 f2561 hf2561 hm3 H locs hP hD hS ls hl
                refine lv_iload hx hb dX0_pace_93 (lv_at hl 0 rfl) ?_
                refine lv_aload_n hx hb dX0_pace_95 rfl (lv_at hl 2 rfl) ?_
                refine va_get (D := D) (ci := 0) (v := .ref h1) (C := RX0) (T := TX0) (N := 8) hx hb hts i_X0 hown hK hP 0 rfl rfl 2 (by decide) (hts _ kw_447) (fun _ h9 => h9) rfl dX0_pace_96 ?_
                refine va_get (D := D) (ci := 3) (v := .int v4) (C := RX4) (T := TX4) (N := 9) hx hb hts i_X4 hown hK hP 1 rfl rfl 0 (by decide) (hts _ kw_214) (fun _ h9 => h9) rfl dX0_pace_99 ?_
                refine B_icmp_ge (tgt := 127) (X := x2560.toInt) (Y := v4.toInt) hx hb dX0_pace_102 (by decide) rfl rfl (fun hc2575 => ?_) (fun hc2575 => ?_)
                · refine lv_aload_n hx hb dX0_pace_127 rfl (lv_at hl 2 rfl) ?_
                  refine va_get (D := D) (ci := 0) (v := .ref h4) (C := RX0) (T := TX0) (N := 8) hx hb hts i_X0 hown hK hP 0 rfl rfl 4 (by decide) (hts _ kw_449) (fun _ h9 => h9) rfl dX0_pace_128 ?_
                  refine lv_aload_n hx hb dX0_pace_131 rfl (lv_at hl 2 rfl) ?_
                  refine va_get (D := D) (ci := 0) (v := .ref h1) (C := RX0) (T := TX0) (N := 8) hx hb hts i_X0 hown hK hP 0 rfl rfl 2 (by decide) (hts _ kw_447) (fun _ h9 => h9) rfl dX0_pace_132 ?_
                  refine va_get (D := D) (ci := 3) (v := .int v4) (C := RX4) (T := TX4) (N := 9) hx hb hts i_X4 hown hK hP 1 rfl rfl 0 (by decide) (hts _ kw_214) (fun _ h9 => h9) rfl dX0_pace_135 ?_
                  refine lv_iconst (v := 1) hx hb dX0_pace_138 (by decide) ?_
                  refine lv_isub hx hb dX0_pace_139 ?_
                  refine q_sub (X := v4.toInt) (Y := 1) rfl (by decide) (by omega) (by omega) (fun z2576 ez2576 hz2576 => ?_)
                  refine lv_iload_n hx hb dX0_pace_140 rfl (lv_at hl 1 rfl) ?_
                  refine va_iast hx hb hK hP hD hS 4 0 rfl rfl (in_of (by omega) (by omega)) dX0_pace_141 (fun H locs hP hD hS => ?_)
                  obtain ⟨f2577, ef2577, hf2577, hP, hD⟩ : ∃ y : Nat → Int32, y = upd f2561 (Int32.toNatClampNeg z2576) z2376 ∧ Rg y 0 13 ∧ va_P D vwCl [(h0, .inr (0, [.int v1, .int v2, .ref h1, u1385, .ref h4, .int z2485, u1386, u1387])), (h1, .inr (3, [.int v4, .int v5, .ref h5, .ref h6, u1388, u1389, u1390, .ref h2, .ref h3])), (h2, .inl (c 0, 8, .inl f6)), (h3, .inl (c 0, 8, .inl f10)), (h4, .inl (c 0, 14, .inl y)), (h5, .inl (c 0, 14, .inl f25)), (h6, .inl (c 0, 14, .inl f27))] H ∧ va_D A [(h0, .inr (0, [.int v1, .int v2, .ref h1, u1385, .ref h4, .int z2485, u1386, u1387])), (h1, .inr (3, [.int v4, .int v5, .ref h5, .ref h6, u1388, u1389, u1390, .ref h2, .ref h3])), (h2, .inl (c 0, 8, .inl f6)), (h3, .inl (c 0, 8, .inl f10)), (h4, .inl (c 0, 14, .inl y)), (h5, .inl (c 0, 14, .inl f25)), (h6, .inl (c 0, 14, .inl f27))] := ⟨_, rfl, (Rg.upd hf2561 (by omega) (by omega)), hP, hD⟩
                  refine lv_aload_n hx hb dX0_pace_142 rfl (lv_at hl 2 rfl) ?_
                  refine lv_dup hx hb dX0_pace_143 rfl ?_
                  refine va_get (D := D) (ci := 0) (v := .int v1) (C := RX0) (T := TX0) (N := 8) hx hb hts i_X0 hown hK hP 0 rfl rfl 0 (by decide) (hts _ kw_443) (fun _ h9 => h9) rfl dX0_pace_144 ?_
                  refine lv_aload_n hx hb dX0_pace_147 rfl (lv_at hl 2 rfl) ?_
                  refine va_get (D := D) (ci := 0) (v := .ref h1) (C := RX0) (T := TX0) (N := 8) hx hb hts i_X0 hown hK hP 0 rfl rfl 2 (by decide) (hts _ kw_447) (fun _ h9 => h9) rfl dX0_pace_148 ?_
                  refine va_get (D := D) (ci := 3) (v := .ref h5) (C := RX4) (T := TX4) (N := 9) hx hb hts i_X4 hown hK hP 1 rfl rfl 2 (by decide) (hts _ kw_225) (fun _ h9 => h9) rfl dX0_pace_151 ?_
                  refine lv_iload_n hx hb dX0_pace_154 rfl (lv_at hl 1 rfl) ?_
                  refine va_iald hx hb hK hP 5 0 rfl rfl (in_of (by omega) (by omega)) dX0_pace_155 ?_
                  refine rd gf25 (fun z2578 ez2578 hz2578 => ?_)
                  refine lv_aload_n hx hb dX0_pace_156 rfl (lv_at hl 2 rfl) ?_
                  refine va_get (D := D) (ci := 0) (v := .ref h1) (C := RX0) (T := TX0) (N := 8) hx hb hts i_X0 hown hK hP 0 rfl rfl 2 (by decide) (hts _ kw_447) (fun _ h9 => h9) rfl dX0_pace_157 ?_
                  refine va_get (D := D) (ci := 3) (v := .ref h6) (C := RX4) (T := TX4) (N := 9) hx hb hts i_X4 hown hK hP 1 rfl rfl 3 (by decide) (hts _ kw_228) (fun _ h9 => h9) rfl dX0_pace_160 ?_
                  refine lv_iload_n hx hb dX0_pace_163 rfl (lv_at hl 1 rfl) ?_
                  refine va_iald hx hb hK hP 6 0 rfl rfl (in_of (by omega) (by omega)) dX0_pace_164 ?_
                  refine rd gf27 (fun z2579 ez2579 hz2579 => ?_)
                  refine lv_ixor hx hb dX0_pace_165 ?_
                  refine q_xor (X := z2578.toInt) (Y := z2579.toInt) (M := 8) 3 rfl rfl (by decide) (by decide) (by omega) (by omega) (by omega) (by omega) (fun z2580 ez2580 hz2580 => ?_)
                  refine lv_ixor hx hb dX0_pace_166 ?_
                  refine q_xor (X := v1.toInt) (Y := z2580.toInt) (M := 8) 3 rfl rfl (by decide) (by decide) (by omega) (by omega) (by omega) (by omega) (fun z2581 ez2581 hz2581 => ?_)
                  refine va_put (D := D) (ci := 0) (v := .int z2581) (ty := .int) (C := RX0) (T := TX0) (N := 8) hx hb hts i_X0 tyX0 tyX0_ok nmX0 hown hK hP hD hS 0 rfl rfl 0 (by decide) (hts _ kw_443) (fun _ h9 => h9) rfl (tyX0_ok 0 (by decide)) rfl rfl (Nat.le_of_ble_eq_true rfl) dX0_pace_167 (fun H locs hP hD hS => ?_)
                  have hP : va_P D vwCl [(h0, .inr (0, [.int z2581, .int v2, .ref h1, u1385, .ref h4, .int z2485, u1386, u1387])), (h1, .inr (3, [.int v4, .int v5, .ref h5, .ref h6, u1388, u1389, u1390, .ref h2, .ref h3])), (h2, .inl (c 0, 8, .inl f6)), (h3, .inl (c 0, 8, .inl f10)), (h4, .inl (c 0, 14, .inl f2577)), (h5, .inl (c 0, 14, .inl f25)), (h6, .inl (c 0, 14, .inl f27))] H := hP
                  have hD : va_D A [(h0, .inr (0, [.int z2581, .int v2, .ref h1, u1385, .ref h4, .int z2485, u1386, u1387])), (h1, .inr (3, [.int v4, .int v5, .ref h5, .ref h6, u1388, u1389, u1390, .ref h2, .ref h3])), (h2, .inl (c 0, 8, .inl f6)), (h3, .inl (c 0, 8, .inl f10)), (h4, .inl (c 0, 14, .inl f2577)), (h5, .inl (c 0, 14, .inl f25)), (h6, .inl (c 0, 14, .inl f27))] := hD
                  refine lv_aload_n hx hb dX0_pace_170 rfl (lv_at hl 2 rfl) ?_
                  refine lv_dup hx hb dX0_pace_171 rfl ?_
                  refine va_get (D := D) (ci := 0) (v := .int v2) (C := RX0) (T := TX0) (N := 8) hx hb hts i_X0 hown hK hP 0 rfl rfl 1 (by decide) (hts _ kw_445) (fun _ h9 => h9) rfl dX0_pace_172 ?_
                  refine lv_iconst (v := 1) hx hb dX0_pace_175 (by decide) ?_
                  refine lv_iload_n hx hb dX0_pace_176 rfl (lv_at hl 1 rfl) ?_
                  refine lv_ishl hx hb dX0_pace_177 ?_
                  refine q_shl (X := 1) (Y := z2376.toInt) (M := 8192) 1 13 (by decide) rfl (by omega) (by omega) (by omega) (by omega) (by decide) (by decide) (by decide) (fun z2582 ez2582 hz2582 => ?_)
                  refine lv_ixor hx hb dX0_pace_178 ?_
                  refine q_xor (X := v2.toInt) (Y := z2582.toInt) (M := 16384) 14 rfl rfl (by decide) (by decide) (by omega) (by omega) (by omega) (by omega) (fun z2583 ez2583 hz2583 => ?_)
                  refine va_put (D := D) (ci := 0) (v := .int z2583) (ty := .int) (C := RX0) (T := TX0) (N := 8) hx hb hts i_X0 tyX0 tyX0_ok nmX0 hown hK hP hD hS 0 rfl rfl 1 (by decide) (hts _ kw_445) (fun _ h9 => h9) rfl (tyX0_ok 1 (by decide)) rfl rfl (Nat.le_of_ble_eq_true rfl) dX0_pace_179 (fun H locs hP hD hS => ?_)
                  have hP : va_P D vwCl [(h0, .inr (0, [.int z2581, .int z2583, .ref h1, u1385, .ref h4, .int z2485, u1386, u1387])), (h1, .inr (3, [.int v4, .int v5, .ref h5, .ref h6, u1388, u1389, u1390, .ref h2, .ref h3])), (h2, .inl (c 0, 8, .inl f6)), (h3, .inl (c 0, 8, .inl f10)), (h4, .inl (c 0, 14, .inl f2577)), (h5, .inl (c 0, 14, .inl f25)), (h6, .inl (c 0, 14, .inl f27))] H := hP
                  have hD : va_D A [(h0, .inr (0, [.int z2581, .int z2583, .ref h1, u1385, .ref h4, .int z2485, u1386, u1387])), (h1, .inr (3, [.int v4, .int v5, .ref h5, .ref h6, u1388, u1389, u1390, .ref h2, .ref h3])), (h2, .inl (c 0, 8, .inl f6)), (h3, .inl (c 0, 8, .inl f10)), (h4, .inl (c 0, 14, .inl f2577)), (h5, .inl (c 0, 14, .inl f25)), (h6, .inl (c 0, 14, .inl f27))] := hD
                  refine lv_iload_n hx hb dX0_pace_182 rfl (lv_at hl 1 rfl) ?_
                  have etz1001 : z1001.toInt = (f6 (Int32.toNatClampNeg v1)).toInt := congrArg Int32.toInt ez1001
                  have etz1004 : z1004.toInt = (f10 (Int32.toNatClampNeg v1)).toInt := congrArg Int32.toInt ez1004
                  exact rI hQ hx hb hr hlocks rfl hS (Nat.le_of_ble_eq_true rfl) (Nat.le_of_ble_eq_true rfl) dX0_pace_183 (fun t ht => ⟨z2581, z2583, z2485, f2577, ⟨by omega, by omega⟩, ⟨by omega, by omega⟩, hf2577, ⟨by omega, by omega⟩, by rw [ht]; exact hP, hD⟩)
                · refine lv_aload_n hx hb dX0_pace_105 rfl (lv_at hl 2 rfl) ?_
                  refine va_get (D := D) (ci := 0) (v := .ref h4) (C := RX0) (T := TX0) (N := 8) hx hb hts i_X0 hown hK hP 0 rfl rfl 4 (by decide) (hts _ kw_449) (fun _ h9 => h9) rfl dX0_pace_106 ?_
                  refine lv_iload hx hb dX0_pace_109 (lv_at hl 0 rfl) ?_
                  refine lv_iconst (v := 1) hx hb dX0_pace_111 (by decide) ?_
                  refine lv_isub hx hb dX0_pace_112 ?_
                  refine q_sub (X := x2560.toInt) (Y := 1) rfl (by decide) (by omega) (by omega) (fun z2584 ez2584 hz2584 => ?_)
                  refine lv_aload_n hx hb dX0_pace_113 rfl (lv_at hl 2 rfl) ?_
                  refine va_get (D := D) (ci := 0) (v := .ref h4) (C := RX0) (T := TX0) (N := 8) hx hb hts i_X0 hown hK hP 0 rfl rfl 4 (by decide) (hts _ kw_449) (fun _ h9 => h9) rfl dX0_pace_114 ?_
                  refine lv_iload hx hb dX0_pace_117 (lv_at hl 0 rfl) ?_
                  refine va_iald hx hb hK hP 4 0 rfl rfl (in_of (by omega) (by omega)) dX0_pace_119 ?_
                  refine rd hf2561 (fun z2585 ez2585 hz2585 => ?_)
                  refine va_iast hx hb hK hP hD hS 4 0 rfl rfl (in_of (by omega) (by omega)) dX0_pace_120 (fun H locs hP hD hS => ?_)
                  obtain ⟨f2586, ef2586, hf2586, hP, hD⟩ : ∃ y : Nat → Int32, y = upd f2561 (Int32.toNatClampNeg z2584) z2585 ∧ Rg y 0 13 ∧ va_P D vwCl [(h0, .inr (0, [.int v1, .int v2, .ref h1, u1385, .ref h4, .int z2485, u1386, u1387])), (h1, .inr (3, [.int v4, .int v5, .ref h5, .ref h6, u1388, u1389, u1390, .ref h2, .ref h3])), (h2, .inl (c 0, 8, .inl f6)), (h3, .inl (c 0, 8, .inl f10)), (h4, .inl (c 0, 14, .inl y)), (h5, .inl (c 0, 14, .inl f25)), (h6, .inl (c 0, 14, .inl f27))] H ∧ va_D A [(h0, .inr (0, [.int v1, .int v2, .ref h1, u1385, .ref h4, .int z2485, u1386, u1387])), (h1, .inr (3, [.int v4, .int v5, .ref h5, .ref h6, u1388, u1389, u1390, .ref h2, .ref h3])), (h2, .inl (c 0, 8, .inl f6)), (h3, .inl (c 0, 8, .inl f10)), (h4, .inl (c 0, 14, .inl y)), (h5, .inl (c 0, 14, .inl f25)), (h6, .inl (c 0, 14, .inl f27))] := ⟨_, rfl, (Rg.upd hf2561 (by omega) (by omega)), hP, hD⟩
                  obtain ⟨z2587, ez2587, hz2587⟩ : ∃ y : Int32, y = x2560 + Int32.ofInt 1 ∧ y.toInt = x2560.toInt + 1 := ⟨_, rfl, ad_int (A := x2560.toInt) (B := 1) rfl (by decide) (by omega) (by omega)⟩
                  refine lv_iinc (v := z2587) (lv' := [(4, .int z2587), (3, .int z2376), (0, .ref h0)]) hx hb dX0_pace_121 hl (k := 0) rfl ez2587.symm (by decide) rfl (fun ls hl => ?_)
                  refine lv_goto (tgt := 93) hx hb dX0_pace_124 (by decide) ?_
                  exact ih3 z2587 ⟨by omega, by omega⟩ f2586 hf2586 (by omega) H locs hP hD hS ls (lv_sub hl [0, 1, 2] rfl)
            exact lp3 (((14 : Int) - z2486.toInt).toNat + 1) z2486 ⟨by omega, by omega⟩ f15 gf15 (by omega) H locs hP hD hS ls (lv_sub hl [0, 1, 4] rfl)
  have hk0 : (0 : Int32).toInt = 0 := by decide
  exact lp1 (((14 : Int) - 0).toNat + 1) 0 (by decide) (by omega) s.heap [] hP hD hS ls (lv_sub hl [0, 1, 2] rfl)
set_option maxHeartbeats 4000000 in
set_option maxRecDepth 100000 in
theorem m_X0_run (l : Launch) (D : va_G) (c : Nat → ClassId) (h0 h1 h2 h3 h4 h5 h6 h7 h8 h9 h10 h11 h12 : Nat) (sz : Nat) (v1 : Int32) (v2 : Int32) (v3 : Int32) (v5 : Int32) (v6 : Int32) (f7 : Nat → Int32) (f8 : Nat → Int32) (f9 : Nat → Int32) (f10 : Nat → Int32) (f11 : Nat → Int32) (a1 : Int32) (gv1 : 0 ≤ v1.toInt ∧ v1.toInt ≤ 7) (gv2 : 0 ≤ v2.toInt ∧ v2.toInt ≤ 16383) (gv5 : 0 ≤ v5.toInt ∧ v5.toInt ≤ 14) (gv6 : 0 ≤ v6.toInt ∧ v6.toInt ≤ 16383) (gf7 : Rg f7 0 16383) (gf8 : Rg f8 0 16383) (gf9 : Rg f9 0 13) (gf10 : Rg f10 0 7) (gf11 : Rg f11 0 7) (ga1 : 0 ≤ a1.toInt ∧ a1.toInt ≤ 2000) : Met l yX0_run (Cond.code yX0_run cX0_run 3 (some .int) :: TB) ({ frames := 1, cells := 0, slots := 0, locals := 24 } : Room) (va_Pc [.ref h0, .int a1] (PW D c [(h0, .inr (0, [.int v1, .int v2, .ref h1, .ref h7, .ref h4, .int v3, .ref h8, .ref h12])), (h1, .inr (3, [.int v5, .int v6, .ref h5, .ref h6, .ref h11, .ref h9, .ref h10, .ref h2, .ref h3])), (h2, .inl (c 0, 8, .inl f7)), (h3, .inl (c 0, 8, .inl f8)), (h4, .inl (c 0, 14, .inl f9)), (h5, .inl (c 0, 14, .inl f10)), (h6, .inl (c 0, 14, .inl f11))] sz)) ((QIx (fun A r t => ∃ (z900 : Int32) (z901 : Int32) (z902 : Int32) (f903 : Nat → Int32), (0 ≤ z900.toInt ∧ z900.toInt ≤ 7) ∧ (0 ≤ z901.toInt ∧ z901.toInt ≤ 16383) ∧ (Rg f903 0 13) ∧ (0 ≤ r.toInt ∧ r.toInt ≤ 2000) ∧ va_P D vwCl [(h0, .inr (0, [.int z900, .int z901, .ref h1, .ref h7, .ref h4, .int z902, .ref h8, .ref h12])), (h1, .inr (3, [.int v5, .int v6, .ref h5, .ref h6, .ref h11, .ref h9, .ref h10, .ref h2, .ref h3])), (h2, .inl (c 0, 8, .inl f7)), (h3, .inl (c 0, 8, .inl f8)), (h4, .inl (c 0, 14, .inl f903)), (h5, .inl (c 0, 14, .inl f10)), (h6, .inl (c 0, 14, .inl f11))] t.heap ∧ va_D A [(h0, .inr (0, [.int z900, .int z901, .ref h1, .ref h7, .ref h4, .int z902, .ref h8, .ref h12])), (h1, .inr (3, [.int v5, .int v6, .ref h5, .ref h6, .ref h11, .ref h9, .ref h10, .ref h2, .ref h3])), (h2, .inl (c 0, 8, .inl f7)), (h3, .inl (c 0, 8, .inl f8)), (h4, .inl (c 0, 14, .inl f903)), (h5, .inl (c 0, 14, .inl f10)), (h6, .inl (c 0, 14, .inl f11))])) (va_A [(h0, .inr (0, [.int v1, .int v2, .ref h1, .ref h7, .ref h4, .int v3, .ref h8, .ref h12])), (h1, .inr (3, [.int v5, .int v6, .ref h5, .ref h6, .ref h11, .ref h9, .ref h10, .ref h2, .ref h3])), (h2, .inl (c 0, 8, .inl f7)), (h3, .inl (c 0, 8, .inl f8)), (h4, .inl (c 0, 14, .inl f9)), (h5, .inl (c 0, 14, .inl f10)), (h6, .inl (c 0, 14, .inl f11))] sz)) 0 0 (va_A [(h0, .inr (0, [.int v1, .int v2, .ref h1, .ref h7, .ref h4, .int v3, .ref h8, .ref h12])), (h1, .inr (3, [.int v5, .int v6, .ref h5, .ref h6, .ref h11, .ref h9, .ref h10, .ref h2, .ref h3])), (h2, .inl (c 0, 8, .inl f7)), (h3, .inl (c 0, 8, .inl f8)), (h4, .inl (c 0, 14, .inl f9)), (h5, .inl (c 0, 14, .inl f10)), (h6, .inl (c 0, 14, .inl f11))] sz) := by
  refine start2 (by decide +kernel) (Nat.le_of_ble_eq_true rfl) ?_
  intro p e s m below meth cd A ls Q hx hb hr hml hts hown hlocks hin hA hS hK hP hD hN hl hQ
  have hown : s.vm.findClass RX0 = some m.cls := hown
  have hl : lv_has ls 3 [(0, .ref h0), (1, .int a1)] := hl
  have hP : va_P D vwCl [(h0, .inr (0, [.int v1, .int v2, .ref h1, .ref h7, .ref h4, .int v3, .ref h8, .ref h12])), (h1, .inr (3, [.int v5, .int v6, .ref h5, .ref h6, .ref h11, .ref h9, .ref h10, .ref h2, .ref h3])), (h2, .inl (c 0, 8, .inl f7)), (h3, .inl (c 0, 8, .inl f8)), (h4, .inl (c 0, 14, .inl f9)), (h5, .inl (c 0, 14, .inl f10)), (h6, .inl (c 0, 14, .inl f11))] s.heap := hP
  refine lv_iconst (v := 0) hx hb dX0_run_0 (by decide) ?_
  refine lv_istore_n (lv' := [(2, .int 0), (0, .ref h0), (1, .int a1)]) hx hb dX0_run_1 rfl hl (by decide) rfl (fun ls hl => ?_)
  have lp1 : ∀ (n1 : Nat), ∀ (x1073 : Int32) (hx1073 : 0 ≤ x1073.toInt ∧ x1073.toInt ≤ 2000) (x1074 : Int32) (hx1074 : 0 ≤ x1074.toInt ∧ x1074.toInt ≤ 7) (x1075 : Int32) (hx1075 : 0 ≤ x1075.toInt ∧ x1075.toInt ≤ 16383) (x1076 : Int32) (f1077 : Nat → Int32) (hf1077 : Rg f1077 0 13) (hm1 : (2000 : Int) - x1073.toInt < (n1 : Int)) (H : Heap) (locs : List Loc) (hP : va_P D vwCl [(h0, .inr (0, [.int x1074, .int x1075, .ref h1, .ref h7, .ref h4, .int x1076, .ref h8, .ref h12])), (h1, .inr (3, [.int v5, .int v6, .ref h5, .ref h6, .ref h11, .ref h9, .ref h10, .ref h2, .ref h3])), (h2, .inl (c 0, 8, .inl f7)), (h3, .inl (c 0, 8, .inl f8)), (h4, .inl (c 0, 14, .inl f1077)), (h5, .inl (c 0, 14, .inl f10)), (h6, .inl (c 0, 14, .inl f11))] H) (hD : va_D A [(h0, .inr (0, [.int x1074, .int x1075, .ref h1, .ref h7, .ref h4, .int x1076, .ref h8, .ref h12])), (h1, .inr (3, [.int v5, .int v6, .ref h5, .ref h6, .ref h11, .ref h9, .ref h10, .ref h2, .ref h3])), (h2, .inl (c 0, 8, .inl f7)), (h3, .inl (c 0, 8, .inl f8)), (h4, .inl (c 0, 14, .inl f1077)), (h5, .inl (c 0, 14, .inl f10)), (h6, .inl (c 0, 14, .inl f11))]) (hS : va_S A s.heap H locs) (ls : Array Slot) (hl : lv_has ls 3 [(2, .int x1073), (0, .ref h0), (1, .int a1)]), W p l e ({ frames := 1, cells := 0, slots := 0, locals := 24 } : Room) s m [.ref h0, .int a1].toArray below meth cd H locs 0 0 Q (F0 m 2 ls []) := by
    intro n1
    induction n1 with
    | zero =>
      intro x1073 hx1073 x1074 hx1074 x1075 hx1075 x1076 f1077 hf1077 hm1 H locs hP hD hS ls hl
      exact absurd hm1 (by omega)
    | succ n1 ih1 =>
      intro x1073 hx1073 x1074 hx1074 x1075 hx1075 x1076 f1077 hf1077 hm1 H locs hP hD hS ls hl
      refine lv_iload_n hx hb dX0_run_2 rfl (lv_at hl 0 rfl) ?_
      refine lv_iload_n hx hb dX0_run_3 rfl (lv_at hl 2 rfl) ?_
      refine B_icmp_ge (tgt := 23) (X := x1073.toInt) (Y := a1.toInt) hx hb dX0_run_4 (by decide) rfl rfl (fun hc1086 => ?_) (fun hc1086 => ?_)
      · refine lv_iload_n hx hb dX0_run_23 rfl (lv_at hl 2 rfl) ?_
        exact rI hQ hx hb hr hlocks rfl hS (Nat.le_of_ble_eq_true rfl) (Nat.le_of_ble_eq_true rfl) dX0_run_24 (fun t ht => ⟨x1074, x1075, x1076, f1077, hx1074, hx1075, hf1077, ga1, by rw [ht]; exact hP, hD⟩)
      · refine lv_aload_n hx hb dX0_run_7 rfl (lv_at hl 1 rfl) ?_
        refine fI (run_V (n := 0) (ci := 0) ⟨hx, hb, hml, hown, hts⟩ (m_X0_pace l D c h0 h1 h2 h3 h4 h5 h6 H.size x1074 x1075 (.ref h7) x1076 (.ref h8) (.ref h12) v5 v6 (.ref h11) (.ref h9) (.ref h10) f7 f8 f1077 f10 f11 hx1074 hx1075 gv5 gv6 gf7 gf8 hf1077 gf10 gf11) (hP.sub [0, 1, 2, 3, 4, 5, 6] rfl) (hD.sub [0, 1, 2, 3, 4, 5, 6] (by decide) rfl) hK hN rfl rfl kw_990 kw_992 kw_26 kw_121 kw_993 ⟨rfl, by decide +kernel⟩ ⟨(Nat.le_of_ble_eq_true rfl), (Nat.le_of_ble_eq_true rfl)⟩ rfl rfl rfl hl.1 rfl (Nat.le_of_ble_eq_true rfl) dX0_run_8 ⟨(Nat.le_of_ble_eq_true rfl), (Nat.le_of_ble_eq_true rfl)⟩) hP hD hS hA [0, 1, 2, 3, 4, 5, 6] rfl (fun z1091 H locs t hB hj hS => ?_)
        obtain ⟨z1087, z1088, z1089, f1090, hq1092, hq1093, hq1094, hq1095, hP1, hD1⟩ := hB
        obtain ⟨hP, hD⟩ := hj (wr := []) (w1 := [(h0, .inr (0, [.int z1087, .int z1088, .ref h1, .ref h7, .ref h4, .int z1089, .ref h8, .ref h12])), (h1, .inr (3, [.int v5, .int v6, .ref h5, .ref h6, .ref h11, .ref h9, .ref h10, .ref h2, .ref h3])), (h2, .inl (c 0, 8, .inl f7)), (h3, .inl (c 0, 8, .inl f8)), (h4, .inl (c 0, 14, .inl f1090)), (h5, .inl (c 0, 14, .inl f10)), (h6, .inl (c 0, 14, .inl f11))]) [] rfl (by decide) (by decide) hP1 hD1
        have hP : va_P D vwCl [(h0, .inr (0, [.int z1087, .int z1088, .ref h1, .ref h7, .ref h4, .int z1089, .ref h8, .ref h12])), (h1, .inr (3, [.int v5, .int v6, .ref h5, .ref h6, .ref h11, .ref h9, .ref h10, .ref h2, .ref h3])), (h2, .inl (c 0, 8, .inl f7)), (h3, .inl (c 0, 8, .inl f8)), (h4, .inl (c 0, 14, .inl f1090)), (h5, .inl (c 0, 14, .inl f10)), (h6, .inl (c 0, 14, .inl f11))] H := hP
        have hD : va_D A [(h0, .inr (0, [.int z1087, .int z1088, .ref h1, .ref h7, .ref h4, .int z1089, .ref h8, .ref h12])), (h1, .inr (3, [.int v5, .int v6, .ref h5, .ref h6, .ref h11, .ref h9, .ref h10, .ref h2, .ref h3])), (h2, .inl (c 0, 8, .inl f7)), (h3, .inl (c 0, 8, .inl f8)), (h4, .inl (c 0, 14, .inl f1090)), (h5, .inl (c 0, 14, .inl f10)), (h6, .inl (c 0, 14, .inl f11))] := hD
        refine lv_iconst (v := (-1)) hx hb dX0_run_11 (by decide) ?_
        refine B_icmp_ne (tgt := 17) (X := z1091.toInt) (Y := (-1)) hx hb dX0_run_12 (by decide) rfl (by decide) (fun hc1096 => ?_) (fun hc1096 => ?_)
        · obtain ⟨z1097, ez1097, hz1097⟩ : ∃ y : Int32, y = x1073 + Int32.ofInt 1 ∧ y.toInt = x1073.toInt + 1 := ⟨_, rfl, ad_int (A := x1073.toInt) (B := 1) rfl (by decide) (by omega) (by omega)⟩
          refine lv_iinc (v := z1097) (lv' := [(2, .int z1097), (0, .ref h0), (1, .int a1)]) hx hb dX0_run_17 hl (k := 0) rfl ez1097.symm (by decide) rfl (fun ls hl => ?_)
          refine lv_goto (tgt := 2) hx hb dX0_run_20 (by decide) ?_
          exact ih1 z1097 ⟨by omega, by omega⟩ z1087 hq1092 z1088 hq1093 z1089 f1090 hq1094 (by omega) H locs hP hD hS ls (lv_sub hl [0, 1, 2] rfl)
        · refine lv_iload_n hx hb dX0_run_15 rfl (lv_at hl 0 rfl) ?_
          exact rI hQ hx hb hr hlocks rfl hS (Nat.le_of_ble_eq_true rfl) (Nat.le_of_ble_eq_true rfl) dX0_run_16 (fun t ht => ⟨z1087, z1088, z1089, f1090, hq1092, hq1093, hq1094, hx1073, by rw [ht]; exact hP, hD⟩)
  have hk0 : (0 : Int32).toInt = 0 := by decide
  exact lp1 (((2000 : Int) - 0).toNat + 1) 0 (by decide) v1 gv1 v2 gv2 v3 f9 gf9 (by omega) s.heap [] hP hD hS ls (lv_sub hl [0, 1, 2] rfl)
set_option maxHeartbeats 4000000 in
set_option maxRecDepth 100000 in
theorem m_X0_pacesToCover (l : Launch) (D : va_G) (c : Nat → ClassId) (h0 h1 h2 h3 h4 h5 h6 h7 h8 h9 h10 h11 h12 : Nat) (sz : Nat) (v1 : Int32) (v2 : Int32) (v3 : Int32) (v4 : Int32) (v5 : Int32) (f11 : Nat → Int32) (f12 : Nat → Int32) (f13 : Nat → Int32) (f14 : Nat → Int32) (f15 : Nat → Int32) (gv1 : 0 ≤ v1.toInt ∧ v1.toInt ≤ 7) (gv2 : 0 ≤ v2.toInt ∧ v2.toInt ≤ 16383) (gv4 : 0 ≤ v4.toInt ∧ v4.toInt ≤ 14) (gv5 : 0 ≤ v5.toInt ∧ v5.toInt ≤ 16383) (gf11 : Rg f11 0 16383) (gf12 : Rg f12 0 16383) (gf13 : Rg f13 0 13) (gf14 : Rg f14 0 7) (gf15 : Rg f15 0 7) : Met l yX0_pacesToCover (Cond.code yX0_pacesToCover cX0_pacesToCover 4 (some .int) :: TB) ({ frames := 1, cells := 0, slots := 0, locals := 24 } : Room) (va_Pc [.ref h0] (PW D c [(h0, .inr (0, [.int v1, .int v2, .ref h1, .ref h7, .ref h4, .int v3, .ref h8, .ref h12])), (h1, .inr (3, [.int v4, .int v5, .ref h5, .ref h6, .ref h11, .ref h9, .ref h10, .ref h2, .ref h3])), (h2, .inl (c 0, 8, .inl f11)), (h3, .inl (c 0, 8, .inl f12)), (h4, .inl (c 0, 14, .inl f13)), (h5, .inl (c 0, 14, .inl f14)), (h6, .inl (c 0, 14, .inl f15))] sz)) ((QIx (fun A r t => ∃ (z900 : Int32) (z901 : Int32) (z902 : Int32) (f903 : Nat → Int32), (0 ≤ z900.toInt ∧ z900.toInt ≤ 7) ∧ (0 ≤ z901.toInt ∧ z901.toInt ≤ 16383) ∧ (Rg f903 0 13) ∧ ((-1) ≤ r.toInt ∧ r.toInt ≤ 2000) ∧ va_P D vwCl [(h0, .inr (0, [.int z900, .int z901, .ref h1, .ref h7, .ref h4, .int z902, .ref h8, .ref h12])), (h1, .inr (3, [.int v4, .int v5, .ref h5, .ref h6, .ref h11, .ref h9, .ref h10, .ref h2, .ref h3])), (h2, .inl (c 0, 8, .inl f11)), (h3, .inl (c 0, 8, .inl f12)), (h4, .inl (c 0, 14, .inl f903)), (h5, .inl (c 0, 14, .inl f14)), (h6, .inl (c 0, 14, .inl f15))] t.heap ∧ va_D A [(h0, .inr (0, [.int z900, .int z901, .ref h1, .ref h7, .ref h4, .int z902, .ref h8, .ref h12])), (h1, .inr (3, [.int v4, .int v5, .ref h5, .ref h6, .ref h11, .ref h9, .ref h10, .ref h2, .ref h3])), (h2, .inl (c 0, 8, .inl f11)), (h3, .inl (c 0, 8, .inl f12)), (h4, .inl (c 0, 14, .inl f903)), (h5, .inl (c 0, 14, .inl f14)), (h6, .inl (c 0, 14, .inl f15))])) (va_A [(h0, .inr (0, [.int v1, .int v2, .ref h1, .ref h7, .ref h4, .int v3, .ref h8, .ref h12])), (h1, .inr (3, [.int v4, .int v5, .ref h5, .ref h6, .ref h11, .ref h9, .ref h10, .ref h2, .ref h3])), (h2, .inl (c 0, 8, .inl f11)), (h3, .inl (c 0, 8, .inl f12)), (h4, .inl (c 0, 14, .inl f13)), (h5, .inl (c 0, 14, .inl f14)), (h6, .inl (c 0, 14, .inl f15))] sz)) 0 0 (va_A [(h0, .inr (0, [.int v1, .int v2, .ref h1, .ref h7, .ref h4, .int v3, .ref h8, .ref h12])), (h1, .inr (3, [.int v4, .int v5, .ref h5, .ref h6, .ref h11, .ref h9, .ref h10, .ref h2, .ref h3])), (h2, .inl (c 0, 8, .inl f11)), (h3, .inl (c 0, 8, .inl f12)), (h4, .inl (c 0, 14, .inl f13)), (h5, .inl (c 0, 14, .inl f14)), (h6, .inl (c 0, 14, .inl f15))] sz) := by
  refine start2 (by decide +kernel) (Nat.le_of_ble_eq_true rfl) ?_
  intro p e s m below meth cd A ls Q hx hb hr hml hts hown hlocks hin hA hS hK hP hD hN hl hQ
  have hown : s.vm.findClass RX0 = some m.cls := hown
  have hl : lv_has ls 4 [(0, .ref h0)] := hl
  have hP : va_P D vwCl [(h0, .inr (0, [.int v1, .int v2, .ref h1, .ref h7, .ref h4, .int v3, .ref h8, .ref h12])), (h1, .inr (3, [.int v4, .int v5, .ref h5, .ref h6, .ref h11, .ref h9, .ref h10, .ref h2, .ref h3])), (h2, .inl (c 0, 8, .inl f11)), (h3, .inl (c 0, 8, .inl f12)), (h4, .inl (c 0, 14, .inl f13)), (h5, .inl (c 0, 14, .inl f14)), (h6, .inl (c 0, 14, .inl f15))] s.heap := hP
  refine lv_iconst (v := 1) hx hb dX0_pacesToCover_0 (by decide) ?_
  refine lv_aload_n hx hb dX0_pacesToCover_1 rfl (lv_at hl 0 rfl) ?_
  refine va_get (D := D) (ci := 0) (v := .ref h1) (C := RX0) (T := TX0) (N := 8) hx hb hts i_X0 hown hK hP 0 rfl rfl 2 (by decide) (hts _ kw_447) (fun _ h9 => h9) rfl dX0_pacesToCover_2 ?_
  refine va_get (D := D) (ci := 3) (v := .int v4) (C := RX4) (T := TX4) (N := 9) hx hb hts i_X4 hown hK hP 1 rfl rfl 0 (by decide) (hts _ kw_214) (fun _ h9 => h9) rfl dX0_pacesToCover_5 ?_
  refine lv_ishl hx hb dX0_pacesToCover_8 ?_
  refine q_shl (X := 1) (Y := v4.toInt) (M := 16384) 1 14 (by decide) rfl (by omega) (by omega) (by omega) (by omega) (by decide) (by decide) (by decide) (fun z1001 ez1001 hz1001 => ?_)
  refine lv_iconst (v := 1) hx hb dX0_pacesToCover_9 (by decide) ?_
  refine lv_isub hx hb dX0_pacesToCover_10 ?_
  refine q_sub (X := z1001.toInt) (Y := 1) rfl (by decide) (by omega) (by omega) (fun z1002 ez1002 hz1002 => ?_)
  refine lv_istore_n (lv' := [(1, .int z1002), (0, .ref h0)]) hx hb dX0_pacesToCover_11 rfl hl (by decide) rfl (fun ls hl => ?_)
  refine lv_iconst (v := 0) hx hb dX0_pacesToCover_12 (by decide) ?_
  refine lv_istore_n (lv' := [(2, .int 0), (1, .int z1002), (0, .ref h0)]) hx hb dX0_pacesToCover_13 rfl hl (by decide) rfl (fun ls hl => ?_)
  have lp1 : ∀ (n1 : Nat), ∀ (x1125 : Int32) (hx1125 : 0 ≤ x1125.toInt ∧ x1125.toInt ≤ 2000) (x1126 : Int32) (hx1126 : 0 ≤ x1126.toInt ∧ x1126.toInt ≤ 16383) (x1127 : Int32) (hx1127 : 0 ≤ x1127.toInt ∧ x1127.toInt ≤ 7) (x1128 : Int32) (hx1128 : 0 ≤ x1128.toInt ∧ x1128.toInt ≤ 16383) (x1129 : Int32) (f1130 : Nat → Int32) (hf1130 : Rg f1130 0 13) (hm1 : (2000 : Int) - x1125.toInt < (n1 : Int)) (H : Heap) (locs : List Loc) (hP : va_P D vwCl [(h0, .inr (0, [.int x1127, .int x1128, .ref h1, .ref h7, .ref h4, .int x1129, .ref h8, .ref h12])), (h1, .inr (3, [.int v4, .int v5, .ref h5, .ref h6, .ref h11, .ref h9, .ref h10, .ref h2, .ref h3])), (h2, .inl (c 0, 8, .inl f11)), (h3, .inl (c 0, 8, .inl f12)), (h4, .inl (c 0, 14, .inl f1130)), (h5, .inl (c 0, 14, .inl f14)), (h6, .inl (c 0, 14, .inl f15))] H) (hD : va_D A [(h0, .inr (0, [.int x1127, .int x1128, .ref h1, .ref h7, .ref h4, .int x1129, .ref h8, .ref h12])), (h1, .inr (3, [.int v4, .int v5, .ref h5, .ref h6, .ref h11, .ref h9, .ref h10, .ref h2, .ref h3])), (h2, .inl (c 0, 8, .inl f11)), (h3, .inl (c 0, 8, .inl f12)), (h4, .inl (c 0, 14, .inl f1130)), (h5, .inl (c 0, 14, .inl f14)), (h6, .inl (c 0, 14, .inl f15))]) (hS : va_S A s.heap H locs) (ls : Array Slot) (hl : lv_has ls 4 [(2, .int x1125), (1, .int x1126), (0, .ref h0)]), W p l e ({ frames := 1, cells := 0, slots := 0, locals := 24 } : Room) s m [.ref h0].toArray below meth cd H locs 0 0 Q (F0 m 14 ls []) := by
    intro n1
    induction n1 with
    | zero =>
      intro x1125 hx1125 x1126 hx1126 x1127 hx1127 x1128 hx1128 x1129 f1130 hf1130 hm1 H locs hP hD hS ls hl
      exact absurd hm1 (by omega)
    | succ n1 ih1 =>
      intro x1125 hx1125 x1126 hx1126 x1127 hx1127 x1128 hx1128 x1129 f1130 hf1130 hm1 H locs hP hD hS ls hl
      refine lv_iload_n hx hb dX0_pacesToCover_14 rfl (lv_at hl 0 rfl) ?_
      refine lv_sipush (v := 2000) hx hb dX0_pacesToCover_15 (by decide) ?_
      refine B_icmp_ge (tgt := 59) (X := x1125.toInt) (Y := 2000) hx hb dX0_pacesToCover_18 (by decide) rfl (by decide) (fun hc1147 => ?_) (fun hc1147 => ?_)
      · refine lv_iload_n hx hb dX0_pacesToCover_59 rfl (lv_at hl 1 rfl) ?_
        refine B_if_ne (tgt := 67) (X := x1126.toInt) hx hb dX0_pacesToCover_60 (by decide) rfl (fun hc1148 => ?_) (fun hc1148 => ?_)
        · refine lv_iconst (v := (-1)) hx hb dX0_pacesToCover_67 (by decide) ?_
          have hk0 : ((-1) : Int32).toInt = (-1) := by decide
          exact rI hQ hx hb hr hlocks rfl hS (Nat.le_of_ble_eq_true rfl) (Nat.le_of_ble_eq_true rfl) dX0_pacesToCover_68 (fun t ht => ⟨x1127, x1128, x1129, f1130, hx1127, hx1128, hf1130, by decide, by rw [ht]; exact hP, hD⟩)
        · refine lv_iconst (v := 0) hx hb dX0_pacesToCover_63 (by decide) ?_
          refine lv_goto (tgt := 68) hx hb dX0_pacesToCover_64 (by decide) ?_
          have hk0 : (0 : Int32).toInt = 0 := by decide
          exact rI hQ hx hb hr hlocks rfl hS (Nat.le_of_ble_eq_true rfl) (Nat.le_of_ble_eq_true rfl) dX0_pacesToCover_68 (fun t ht => ⟨x1127, x1128, x1129, f1130, hx1127, hx1128, hf1130, by decide, by rw [ht]; exact hP, hD⟩)
      · refine lv_iload_n hx hb dX0_pacesToCover_21 rfl (lv_at hl 1 rfl) ?_
        refine B_if_eq (tgt := 59) (X := x1126.toInt) hx hb dX0_pacesToCover_22 (by decide) rfl (fun hc1149 => ?_) (fun hc1149 => ?_)
        · refine lv_iload_n hx hb dX0_pacesToCover_59 rfl (lv_at hl 1 rfl) ?_
          refine B_if_ne (tgt := 67) (X := x1126.toInt) hx hb dX0_pacesToCover_60 (by decide) rfl (fun hc1150 => absurd hc1150 (by omega)) (fun _ => ?_)
          refine lv_iconst (v := 0) hx hb dX0_pacesToCover_63 (by decide) ?_
          refine lv_goto (tgt := 68) hx hb dX0_pacesToCover_64 (by decide) ?_
          have hk0 : (0 : Int32).toInt = 0 := by decide
          exact rI hQ hx hb hr hlocks rfl hS (Nat.le_of_ble_eq_true rfl) (Nat.le_of_ble_eq_true rfl) dX0_pacesToCover_68 (fun t ht => ⟨x1127, x1128, x1129, f1130, hx1127, hx1128, hf1130, by decide, by rw [ht]; exact hP, hD⟩)
        · refine lv_aload_n hx hb dX0_pacesToCover_25 rfl (lv_at hl 2 rfl) ?_
          refine fI (run_V (n := 0) (ci := 0) ⟨hx, hb, hml, hown, hts⟩ (m_X0_pace l D c h0 h1 h2 h3 h4 h5 h6 H.size x1127 x1128 (.ref h7) x1129 (.ref h8) (.ref h12) v4 v5 (.ref h11) (.ref h9) (.ref h10) f11 f12 f1130 f14 f15 hx1127 hx1128 gv4 gv5 gf11 gf12 hf1130 gf14 gf15) (hP.sub [0, 1, 2, 3, 4, 5, 6] rfl) (hD.sub [0, 1, 2, 3, 4, 5, 6] (by decide) rfl) hK hN rfl rfl kw_990 kw_992 kw_26 kw_121 kw_993 ⟨rfl, by decide +kernel⟩ ⟨(Nat.le_of_ble_eq_true rfl), (Nat.le_of_ble_eq_true rfl)⟩ rfl rfl rfl hl.1 rfl (Nat.le_of_ble_eq_true rfl) dX0_pacesToCover_26 ⟨(Nat.le_of_ble_eq_true rfl), (Nat.le_of_ble_eq_true rfl)⟩) hP hD hS hA [0, 1, 2, 3, 4, 5, 6] rfl (fun z1155 H locs t hB hj hS => ?_)
          obtain ⟨z1151, z1152, z1153, f1154, hq1156, hq1157, hq1158, hq1159, hP1, hD1⟩ := hB
          obtain ⟨hP, hD⟩ := hj (wr := []) (w1 := [(h0, .inr (0, [.int z1151, .int z1152, .ref h1, .ref h7, .ref h4, .int z1153, .ref h8, .ref h12])), (h1, .inr (3, [.int v4, .int v5, .ref h5, .ref h6, .ref h11, .ref h9, .ref h10, .ref h2, .ref h3])), (h2, .inl (c 0, 8, .inl f11)), (h3, .inl (c 0, 8, .inl f12)), (h4, .inl (c 0, 14, .inl f1154)), (h5, .inl (c 0, 14, .inl f14)), (h6, .inl (c 0, 14, .inl f15))]) [] rfl (by decide) (by decide) hP1 hD1
          have hP : va_P D vwCl [(h0, .inr (0, [.int z1151, .int z1152, .ref h1, .ref h7, .ref h4, .int z1153, .ref h8, .ref h12])), (h1, .inr (3, [.int v4, .int v5, .ref h5, .ref h6, .ref h11, .ref h9, .ref h10, .ref h2, .ref h3])), (h2, .inl (c 0, 8, .inl f11)), (h3, .inl (c 0, 8, .inl f12)), (h4, .inl (c 0, 14, .inl f1154)), (h5, .inl (c 0, 14, .inl f14)), (h6, .inl (c 0, 14, .inl f15))] H := hP
          have hD : va_D A [(h0, .inr (0, [.int z1151, .int z1152, .ref h1, .ref h7, .ref h4, .int z1153, .ref h8, .ref h12])), (h1, .inr (3, [.int v4, .int v5, .ref h5, .ref h6, .ref h11, .ref h9, .ref h10, .ref h2, .ref h3])), (h2, .inl (c 0, 8, .inl f11)), (h3, .inl (c 0, 8, .inl f12)), (h4, .inl (c 0, 14, .inl f1154)), (h5, .inl (c 0, 14, .inl f14)), (h6, .inl (c 0, 14, .inl f15))] := hD
          refine lv_istore_n (lv' := [(3, .int z1155), (2, .int x1125), (1, .int x1126), (0, .ref h0)]) hx hb dX0_pacesToCover_29 rfl hl (by decide) rfl (fun ls hl => ?_)
          refine lv_iload_n hx hb dX0_pacesToCover_30 rfl (lv_at hl 0 rfl) ?_
          refine lv_iconst (v := (-1)) hx hb dX0_pacesToCover_31 (by decide) ?_
          refine B_icmp_ne (tgt := 37) (X := z1155.toInt) (Y := (-1)) hx hb dX0_pacesToCover_32 (by decide) rfl (by decide) (fun hc1160 => ?_) (fun hc1160 => ?_)
          · refine lv_iload_n hx hb dX0_pacesToCover_37 rfl (lv_at hl 2 rfl) ?_
            refine lv_iconst (v := 1) hx hb dX0_pacesToCover_38 (by decide) ?_
            refine lv_iload_n hx hb dX0_pacesToCover_39 rfl (lv_at hl 0 rfl) ?_
            refine lv_ishl hx hb dX0_pacesToCover_40 ?_
            refine q_shl (X := 1) (Y := z1155.toInt) (M := 8192) 1 13 (by decide) rfl (by omega) (by omega) (by omega) (by omega) (by decide) (by decide) (by decide) (fun z1161 ez1161 hz1161 => ?_)
            refine lv_iconst (v := (-1)) hx hb dX0_pacesToCover_41 (by decide) ?_
            refine lv_ixor hx hb dX0_pacesToCover_42 ?_
            refine o_any (fun z1162 ez1162 => ?_)
            refine lv_iand hx hb dX0_pacesToCover_43 ?_
            refine q_andl (X := x1126.toInt) rfl (by omega) (fun z1163 ez1163 hz1163 => ?_)
            refine lv_istore_n (lv' := [(1, .int z1163), (3, .int z1155), (2, .int x1125), (0, .ref h0)]) hx hb dX0_pacesToCover_44 rfl hl (by decide) rfl (fun ls hl => ?_)
            refine lv_iload_n hx hb dX0_pacesToCover_45 rfl (lv_at hl 0 rfl) ?_
            refine B_if_ne (tgt := 53) (X := z1163.toInt) hx hb dX0_pacesToCover_46 (by decide) rfl (fun hc1164 => ?_) (fun hc1164 => ?_)
            · obtain ⟨z1165, ez1165, hz1165⟩ : ∃ y : Int32, y = x1125 + Int32.ofInt 1 ∧ y.toInt = x1125.toInt + 1 := ⟨_, rfl, ad_int (A := x1125.toInt) (B := 1) rfl (by decide) (by omega) (by omega)⟩
              refine lv_iinc (v := z1165) (lv' := [(2, .int z1165), (1, .int z1163), (3, .int z1155), (0, .ref h0)]) hx hb dX0_pacesToCover_53 hl (k := 2) rfl ez1165.symm (by decide) rfl (fun ls hl => ?_)
              refine lv_goto (tgt := 14) hx hb dX0_pacesToCover_56 (by decide) ?_
              exact ih1 z1165 ⟨by omega, by omega⟩ z1163 ⟨by omega, by omega⟩ z1151 hq1156 z1152 hq1157 z1153 f1154 hq1158 (by omega) H locs hP hD hS ls (lv_sub hl [0, 1, 3] rfl)
            · refine lv_iload_n hx hb dX0_pacesToCover_49 rfl (lv_at hl 2 rfl) ?_
              refine lv_iconst (v := 1) hx hb dX0_pacesToCover_50 (by decide) ?_
              refine lv_iadd hx hb dX0_pacesToCover_51 ?_
              refine q_add (X := x1125.toInt) (Y := 1) rfl (by decide) (by omega) (by omega) (fun z1166 ez1166 hz1166 => ?_)
              exact rI hQ hx hb hr hlocks rfl hS (Nat.le_of_ble_eq_true rfl) (Nat.le_of_ble_eq_true rfl) dX0_pacesToCover_52 (fun t ht => ⟨z1151, z1152, z1153, f1154, hq1156, hq1157, hq1158, ⟨by omega, by omega⟩, by rw [ht]; exact hP, hD⟩)
          · refine lv_iconst (v := (-1)) hx hb dX0_pacesToCover_35 (by decide) ?_
            have hk0 : ((-1) : Int32).toInt = (-1) := by decide
            exact rI hQ hx hb hr hlocks rfl hS (Nat.le_of_ble_eq_true rfl) (Nat.le_of_ble_eq_true rfl) dX0_pacesToCover_36 (fun t ht => ⟨z1151, z1152, z1153, f1154, hq1156, hq1157, hq1158, by decide, by rw [ht]; exact hP, hD⟩)
  have hk0 : (0 : Int32).toInt = 0 := by decide
  exact lp1 (((2000 : Int) - 0).toNat + 1) 0 (by decide) z1002 ⟨by omega, by omega⟩ v1 gv1 v2 gv2 v3 f13 gf13 (by omega) s.heap [] hP hD hS ls (lv_sub hl [0, 1, 2] rfl)
set_option maxHeartbeats 4000000 in
set_option maxRecDepth 100000 in
theorem m_X0_packedOrder (l : Launch) (D : va_G) (c : Nat → ClassId) (h0 h1 h2 : Nat) (sz : Nat) (v1 : Int32) (v2 : Int32) (u100 : Value) (v3 : Int32) (u101 : Value) (u102 : Value) (v5 : Int32) (v6 : Int32) (u103 : Value) (u104 : Value) (u105 : Value) (u106 : Value) (u107 : Value) (u108 : Value) (u109 : Value) (f9 : Nat → Int32) (gv1 : 0 ≤ v1.toInt ∧ v1.toInt ≤ 7) (gv2 : 0 ≤ v2.toInt ∧ v2.toInt ≤ 16383) (gv5 : 0 ≤ v5.toInt ∧ v5.toInt ≤ 14) (gv6 : 0 ≤ v6.toInt ∧ v6.toInt ≤ 16383) (gf9 : Rg f9 0 13) : Met l yX0_packedOrder (Cond.code yX0_packedOrder cX0_packedOrder 4 (some .long) :: TB) ({ frames := 0, cells := 0, slots := 0, locals := 0 } : Room) (va_Pc [.ref h0] (PW D c [(h0, .inr (0, [.int v1, .int v2, .ref h1, u100, .ref h2, .int v3, u101, u102])), (h1, .inr (3, [.int v5, .int v6, u103, u104, u105, u106, u107, u108, u109])), (h2, .inl (c 0, 14, .inl f9))] sz)) ((QLx (fun A r t => va_P D vwCl [(h0, .inr (0, [.int v1, .int v2, .ref h1, u100, .ref h2, .int v3, u101, u102])), (h1, .inr (3, [.int v5, .int v6, u103, u104, u105, u106, u107, u108, u109])), (h2, .inl (c 0, 14, .inl f9))] t.heap ∧ va_D A [(h0, .inr (0, [.int v1, .int v2, .ref h1, u100, .ref h2, .int v3, u101, u102])), (h1, .inr (3, [.int v5, .int v6, u103, u104, u105, u106, u107, u108, u109])), (h2, .inl (c 0, 14, .inl f9))])) (va_A [(h0, .inr (0, [.int v1, .int v2, .ref h1, u100, .ref h2, .int v3, u101, u102])), (h1, .inr (3, [.int v5, .int v6, u103, u104, u105, u106, u107, u108, u109])), (h2, .inl (c 0, 14, .inl f9))] sz)) 0 0 (va_A [(h0, .inr (0, [.int v1, .int v2, .ref h1, u100, .ref h2, .int v3, u101, u102])), (h1, .inr (3, [.int v5, .int v6, u103, u104, u105, u106, u107, u108, u109])), (h2, .inl (c 0, 14, .inl f9))] sz) := by
  refine start2 (by decide +kernel) (Nat.le_of_ble_eq_true rfl) ?_
  intro p e s m below meth cd A ls Q hx hb hr hml hts hown hlocks hin hA hS hK hP hD hN hl hQ
  have hown : s.vm.findClass RX0 = some m.cls := hown
  have hl : lv_has ls 4 [(0, .ref h0)] := hl
  have hP : va_P D vwCl [(h0, .inr (0, [.int v1, .int v2, .ref h1, u100, .ref h2, .int v3, u101, u102])), (h1, .inr (3, [.int v5, .int v6, u103, u104, u105, u106, u107, u108, u109])), (h2, .inl (c 0, 14, .inl f9))] s.heap := hP
  refine lv_aload_n hx hb dX0_packedOrder_0 rfl (lv_at hl 0 rfl) ?_
  refine va_get (D := D) (ci := 0) (v := .int v3) (C := RX0) (T := TX0) (N := 8) hx hb hts i_X0 hown hK hP 0 rfl rfl 5 (by decide) (hts _ kw_450) (fun _ h9 => h9) rfl dX0_packedOrder_1 ?_
  refine lv_iconst (v := 1) hx hb dX0_packedOrder_4 (by decide) ?_
  refine B_icmp_le (tgt := 16) (X := v3.toInt) (Y := 1) hx hb dX0_packedOrder_5 (by decide) rfl (by decide) (fun hc1001 => ?_) (fun hc1001 => ?_)
  · refine lv_lconst (v := 0) hx hb dX0_packedOrder_16 (by decide) ?_
    refine lv_lstore_n (lv' := [(1, .long 0), (0, .ref h0)]) hx hb dX0_packedOrder_17 rfl hl (by decide) rfl (fun ls hl => ?_)
    refine lv_iconst (v := 0) hx hb dX0_packedOrder_18 (by decide) ?_
    refine lv_istore_n (lv' := [(3, .int 0), (1, .long 0), (0, .ref h0)]) hx hb dX0_packedOrder_19 rfl hl (by decide) rfl (fun ls hl => ?_)
    have lp1 : ∀ (n1 : Nat), ∀ (x1041 : Int32) (hx1041 : 0 ≤ x1041.toInt ∧ x1041.toInt ≤ 14) (w1042 : Int64) (hm1 : (14 : Int) - x1041.toInt < (n1 : Int)) (H : Heap) (locs : List Loc) (hP : va_P D vwCl [(h0, .inr (0, [.int v1, .int v2, .ref h1, u100, .ref h2, .int v3, u101, u102])), (h1, .inr (3, [.int v5, .int v6, u103, u104, u105, u106, u107, u108, u109])), (h2, .inl (c 0, 14, .inl f9))] H) (hD : va_D A [(h0, .inr (0, [.int v1, .int v2, .ref h1, u100, .ref h2, .int v3, u101, u102])), (h1, .inr (3, [.int v5, .int v6, u103, u104, u105, u106, u107, u108, u109])), (h2, .inl (c 0, 14, .inl f9))]) (hS : va_S A s.heap H locs) (ls : Array Slot) (hl : lv_has ls 4 [(3, .int x1041), (1, .long w1042), (0, .ref h0)]), W p l e ({ frames := 0, cells := 0, slots := 0, locals := 0 } : Room) s m [.ref h0].toArray below meth cd H locs 0 0 Q (F0 m 20 ls []) := by
      intro n1
      induction n1 with
      | zero =>
        intro x1041 hx1041 w1042 hm1 H locs hP hD hS ls hl
        exact absurd hm1 (by omega)
      | succ n1 ih1 =>
        intro x1041 hx1041 w1042 hm1 H locs hP hD hS ls hl
        refine lv_iload_n hx hb dX0_packedOrder_20 rfl (lv_at hl 0 rfl) ?_
        refine lv_aload_n hx hb dX0_packedOrder_21 rfl (lv_at hl 2 rfl) ?_
        refine va_get (D := D) (ci := 0) (v := .ref h1) (C := RX0) (T := TX0) (N := 8) hx hb hts i_X0 hown hK hP 0 rfl rfl 2 (by decide) (hts _ kw_447) (fun _ h9 => h9) rfl dX0_packedOrder_22 ?_
        refine va_get (D := D) (ci := 3) (v := .int v5) (C := RX4) (T := TX4) (N := 9) hx hb hts i_X4 hown hK hP 1 rfl rfl 0 (by decide) (hts _ kw_214) (fun _ h9 => h9) rfl dX0_packedOrder_25 ?_
        refine B_icmp_ge (tgt := 49) (X := x1041.toInt) (Y := v5.toInt) hx hb dX0_packedOrder_28 (by decide) rfl rfl (fun hc1048 => ?_) (fun hc1048 => ?_)
        · refine lv_lload_n hx hb dX0_packedOrder_49 rfl (lv_at hl 1 rfl) ?_
          exact rL hQ hx hb hr hlocks hS (Nat.le_of_ble_eq_true rfl) (Nat.le_of_ble_eq_true rfl) dX0_packedOrder_50 (fun t ht => ⟨by rw [ht]; exact hP, hD⟩)
        · refine lv_lload_n hx hb dX0_packedOrder_31 rfl (lv_at hl 1 rfl) ?_
          refine lv_iconst (v := 4) hx hb dX0_packedOrder_32 (by decide) ?_
          refine lv_lshl hx hb dX0_packedOrder_33 rfl ?_
          refine lv_topl (fun w1049 ew1049 => ?_)
          refine lv_aload_n hx hb dX0_packedOrder_34 rfl (lv_at hl 2 rfl) ?_
          refine va_get (D := D) (ci := 0) (v := .ref h2) (C := RX0) (T := TX0) (N := 8) hx hb hts i_X0 hown hK hP 0 rfl rfl 4 (by decide) (hts _ kw_449) (fun _ h9 => h9) rfl dX0_packedOrder_35 ?_
          refine lv_iload_n hx hb dX0_packedOrder_38 rfl (lv_at hl 0 rfl) ?_
          refine va_iald hx hb hK hP 2 0 rfl rfl (in_of (by omega) (by omega)) dX0_packedOrder_39 ?_
          refine rd gf9 (fun z1050 ez1050 hz1050 => ?_)
          refine lv_i2l (v := Int32.toInt64 z1050) hx hb dX0_packedOrder_40 rfl ?_
          refine lv_lor hx hb dX0_packedOrder_41 ?_
          refine lv_topl (fun w1051 ew1051 => ?_)
          refine lv_lstore_n (lv' := [(1, .long w1051), (3, .int x1041), (0, .ref h0)]) hx hb dX0_packedOrder_42 rfl hl (by decide) rfl (fun ls hl => ?_)
          obtain ⟨z1052, ez1052, hz1052⟩ : ∃ y : Int32, y = x1041 + Int32.ofInt 1 ∧ y.toInt = x1041.toInt + 1 := ⟨_, rfl, ad_int (A := x1041.toInt) (B := 1) rfl (by decide) (by omega) (by omega)⟩
          refine lv_iinc (v := z1052) (lv' := [(3, .int z1052), (1, .long w1051), (0, .ref h0)]) hx hb dX0_packedOrder_43 hl (k := 1) rfl ez1052.symm (by decide) rfl (fun ls hl => ?_)
          refine lv_goto (tgt := 20) hx hb dX0_packedOrder_46 (by decide) ?_
          exact ih1 z1052 ⟨by omega, by omega⟩ w1051 (by omega) H locs hP hD hS ls (lv_sub hl [0, 1, 2] rfl)
    have hk0 : (0 : Int32).toInt = 0 := by decide
    exact lp1 (((14 : Int) - 0).toNat + 1) 0 (by decide) 0 (by omega) s.heap [] hP hD hS ls (lv_sub hl [0, 1, 2] rfl)
  · refine lv_aload_n hx hb dX0_packedOrder_8 rfl (lv_at hl 0 rfl) ?_
    refine va_get (D := D) (ci := 0) (v := .int v3) (C := RX0) (T := TX0) (N := 8) hx hb hts i_X0 hown hK hP 0 rfl rfl 5 (by decide) (hts _ kw_450) (fun _ h9 => h9) rfl dX0_packedOrder_9 ?_
    refine lv_i2l (v := Int32.toInt64 v3) hx hb dX0_packedOrder_12 rfl ?_
    refine lv_goto (tgt := 17) hx hb dX0_packedOrder_13 (by decide) ?_
    refine lv_lstore_n (lv' := [(1, .long (Int32.toInt64 v3)), (0, .ref h0)]) hx hb dX0_packedOrder_17 rfl hl (by decide) rfl (fun ls hl => ?_)
    refine lv_iconst (v := 0) hx hb dX0_packedOrder_18 (by decide) ?_
    refine lv_istore_n (lv' := [(3, .int 0), (1, .long (Int32.toInt64 v3)), (0, .ref h0)]) hx hb dX0_packedOrder_19 rfl hl (by decide) rfl (fun ls hl => ?_)
    have lp2 : ∀ (n2 : Nat), ∀ (x1092 : Int32) (hx1092 : 0 ≤ x1092.toInt ∧ x1092.toInt ≤ 14) (w1093 : Int64) (hm2 : (14 : Int) - x1092.toInt < (n2 : Int)) (H : Heap) (locs : List Loc) (hP : va_P D vwCl [(h0, .inr (0, [.int v1, .int v2, .ref h1, u100, .ref h2, .int v3, u101, u102])), (h1, .inr (3, [.int v5, .int v6, u103, u104, u105, u106, u107, u108, u109])), (h2, .inl (c 0, 14, .inl f9))] H) (hD : va_D A [(h0, .inr (0, [.int v1, .int v2, .ref h1, u100, .ref h2, .int v3, u101, u102])), (h1, .inr (3, [.int v5, .int v6, u103, u104, u105, u106, u107, u108, u109])), (h2, .inl (c 0, 14, .inl f9))]) (hS : va_S A s.heap H locs) (ls : Array Slot) (hl : lv_has ls 4 [(3, .int x1092), (1, .long w1093), (0, .ref h0)]), W p l e ({ frames := 0, cells := 0, slots := 0, locals := 0 } : Room) s m [.ref h0].toArray below meth cd H locs 0 0 Q (F0 m 20 ls []) := by
      intro n2
      induction n2 with
      | zero =>
        intro x1092 hx1092 w1093 hm2 H locs hP hD hS ls hl
        exact absurd hm2 (by omega)
      | succ n2 ih2 =>
        intro x1092 hx1092 w1093 hm2 H locs hP hD hS ls hl
        refine lv_iload_n hx hb dX0_packedOrder_20 rfl (lv_at hl 0 rfl) ?_
        refine lv_aload_n hx hb dX0_packedOrder_21 rfl (lv_at hl 2 rfl) ?_
        refine va_get (D := D) (ci := 0) (v := .ref h1) (C := RX0) (T := TX0) (N := 8) hx hb hts i_X0 hown hK hP 0 rfl rfl 2 (by decide) (hts _ kw_447) (fun _ h9 => h9) rfl dX0_packedOrder_22 ?_
        refine va_get (D := D) (ci := 3) (v := .int v5) (C := RX4) (T := TX4) (N := 9) hx hb hts i_X4 hown hK hP 1 rfl rfl 0 (by decide) (hts _ kw_214) (fun _ h9 => h9) rfl dX0_packedOrder_25 ?_
        refine B_icmp_ge (tgt := 49) (X := x1092.toInt) (Y := v5.toInt) hx hb dX0_packedOrder_28 (by decide) rfl rfl (fun hc1099 => ?_) (fun hc1099 => ?_)
        · refine lv_lload_n hx hb dX0_packedOrder_49 rfl (lv_at hl 1 rfl) ?_
          exact rL hQ hx hb hr hlocks hS (Nat.le_of_ble_eq_true rfl) (Nat.le_of_ble_eq_true rfl) dX0_packedOrder_50 (fun t ht => ⟨by rw [ht]; exact hP, hD⟩)
        · refine lv_lload_n hx hb dX0_packedOrder_31 rfl (lv_at hl 1 rfl) ?_
          refine lv_iconst (v := 4) hx hb dX0_packedOrder_32 (by decide) ?_
          refine lv_lshl hx hb dX0_packedOrder_33 rfl ?_
          refine lv_topl (fun w1100 ew1100 => ?_)
          refine lv_aload_n hx hb dX0_packedOrder_34 rfl (lv_at hl 2 rfl) ?_
          refine va_get (D := D) (ci := 0) (v := .ref h2) (C := RX0) (T := TX0) (N := 8) hx hb hts i_X0 hown hK hP 0 rfl rfl 4 (by decide) (hts _ kw_449) (fun _ h9 => h9) rfl dX0_packedOrder_35 ?_
          refine lv_iload_n hx hb dX0_packedOrder_38 rfl (lv_at hl 0 rfl) ?_
          refine va_iald hx hb hK hP 2 0 rfl rfl (in_of (by omega) (by omega)) dX0_packedOrder_39 ?_
          refine rd gf9 (fun z1101 ez1101 hz1101 => ?_)
          refine lv_i2l (v := Int32.toInt64 z1101) hx hb dX0_packedOrder_40 rfl ?_
          refine lv_lor hx hb dX0_packedOrder_41 ?_
          refine lv_topl (fun w1102 ew1102 => ?_)
          refine lv_lstore_n (lv' := [(1, .long w1102), (3, .int x1092), (0, .ref h0)]) hx hb dX0_packedOrder_42 rfl hl (by decide) rfl (fun ls hl => ?_)
          obtain ⟨z1103, ez1103, hz1103⟩ : ∃ y : Int32, y = x1092 + Int32.ofInt 1 ∧ y.toInt = x1092.toInt + 1 := ⟨_, rfl, ad_int (A := x1092.toInt) (B := 1) rfl (by decide) (by omega) (by omega)⟩
          refine lv_iinc (v := z1103) (lv' := [(3, .int z1103), (1, .long w1102), (0, .ref h0)]) hx hb dX0_packedOrder_43 hl (k := 1) rfl ez1103.symm (by decide) rfl (fun ls hl => ?_)
          refine lv_goto (tgt := 20) hx hb dX0_packedOrder_46 (by decide) ?_
          exact ih2 z1103 ⟨by omega, by omega⟩ w1102 (by omega) H locs hP hD hS ls (lv_sub hl [0, 1, 2] rfl)
    have hk0 : (0 : Int32).toInt = 0 := by decide
    exact lp2 (((14 : Int) - 0).toNat + 1) 0 (by decide) (Int32.toInt64 v3) (by omega) s.heap [] hP hD hS ls (lv_sub hl [0, 1, 2] rfl)
