set_option maxHeartbeats 4000000 in
set_option maxRecDepth 100000 in
theorem m102_X4_reach (l : Launch) (D : va_G) (c : Nat → ClassId) (h0 h1 h2 h3 h4 h5 h6 h7 : Nat) (sz : Nat) : Met l yX4_reach (Cond.code yX4_reach cX4_reach 4 (some .int) :: TB) ({ frames := 1, cells := 0, slots := 0, locals := 23 } : Room) (va_Pc [.ref h0, .int 0] (PW D c [(h0, .inr (3, [.int 0, .int 0, .ref h1, .ref h2, .ref h3, .ref h4, .ref h5, .ref h6, .ref h7]))] sz)) ((QI 1 (fun A t => va_P D vwCl [(h0, .inr (3, [.int 0, .int 0, .ref h1, .ref h2, .ref h3, .ref h4, .ref h5, .ref h6, .ref h7]))] t.heap ∧ va_D A [(h0, .inr (3, [.int 0, .int 0, .ref h1, .ref h2, .ref h3, .ref h4, .ref h5, .ref h6, .ref h7]))])) (va_A [(h0, .inr (3, [.int 0, .int 0, .ref h1, .ref h2, .ref h3, .ref h4, .ref h5, .ref h6, .ref h7]))] sz)) 0 0 (va_A [(h0, .inr (3, [.int 0, .int 0, .ref h1, .ref h2, .ref h3, .ref h4, .ref h5, .ref h6, .ref h7]))] sz) := by
  refine start (by decide +kernel) (Nat.le_of_ble_eq_true rfl) ?_
  intro p e s m below meth cd A ls hx hb hr hml hts hown hlocks hin hA hS hK hP hD hN hl
  have hown : s.vm.findClass RX4 = some m.cls := hown
  have hl : lv_has ls 4 [(0, .ref h0), (1, .int 0)] := hl
  have hP : va_P D vwCl [(h0, .inr (3, [.int 0, .int 0, .ref h1, .ref h2, .ref h3, .ref h4, .ref h5, .ref h6, .ref h7]))] s.heap := hP
  refine lv_iconst (v := 1) hx hb dX4_reach_0 (by decide) ?_
  refine lv_iload_n hx hb dX4_reach_1 rfl (lv_at hl 1 rfl) ?_
  refine lv_ishl hx hb dX4_reach_2 ?_
  refine tpi 1 (by decide) ?_
  refine lv_istore_n (lv' := [(2, .int 1), (0, .ref h0), (1, .int 0)]) hx hb dX4_reach_3 rfl hl (by decide) rfl (fun ls hl => ?_)
  refine lv_iconst (v := 1) hx hb dX4_reach_4 (by decide) ?_
  refine lv_istore_n (lv' := [(3, .int 1), (2, .int 1), (0, .ref h0), (1, .int 0)]) hx hb dX4_reach_5 rfl hl (by decide) rfl (fun ls hl => ?_)
  refine lv_iload_n hx hb dX4_reach_6 rfl (lv_at hl 0 rfl) ?_
  refine lv_bipush (v := 8) hx hb dX4_reach_7 (by decide) ?_
  refine F_icmp_ge hx hb 24 dX4_reach_9 (by decide) (by decide) ?_
  refine lv_aload_n hx hb dX4_reach_12 rfl (lv_at hl 2 rfl) ?_
  refine lv_iload_n hx hb dX4_reach_13 rfl (lv_at hl 1 rfl) ?_
  refine fin_i (run_V (n := 1) (ci := 3) ⟨hx, hb, hml, hown, hts⟩ (m101_X4_spread l D c h0 h1 h2 h3 h4 h5 h6 h7 s.heap.size) (hP.sub [0] rfl) (hD.sub [0] (by decide) rfl) hK hN rfl rfl kw_761 kw_763 kw_8 kw_117 kw_764 ⟨rfl, by decide +kernel⟩ ⟨(Nat.le_of_ble_eq_true rfl), (Nat.le_of_ble_eq_true rfl)⟩ rfl rfl rfl hl.1 rfl (Nat.le_of_ble_eq_true rfl) dX4_reach_14 ⟨(Nat.le_of_ble_eq_true rfl), (Nat.le_of_ble_eq_true rfl)⟩) hP hD hS hA [0] rfl (fun H locs t hB hj hS => ?_)
  obtain ⟨hP1, hD1⟩ := hB
  obtain ⟨hP, hD⟩ := hj (wr := []) (w1 := [(h0, .inr (3, [.int 0, .int 0, .ref h1, .ref h2, .ref h3, .ref h4, .ref h5, .ref h6, .ref h7]))]) [] rfl (by decide) (by decide) hP1 hD1
  have hP : va_P D vwCl [(h0, .inr (3, [.int 0, .int 0, .ref h1, .ref h2, .ref h3, .ref h4, .ref h5, .ref h6, .ref h7]))] H := hP
  have hD : va_D A [(h0, .inr (3, [.int 0, .int 0, .ref h1, .ref h2, .ref h3, .ref h4, .ref h5, .ref h6, .ref h7]))] := hD
  refine lv_istore_n (lv' := [(2, .int 1), (3, .int 1), (0, .ref h0), (1, .int 0)]) hx hb dX4_reach_17 rfl hl (by decide) rfl (fun ls hl => ?_)
  refine lv_iinc (v := 2) (lv' := [(3, .int 2), (2, .int 1), (0, .ref h0), (1, .int 0)]) hx hb dX4_reach_18 hl (k := 1) rfl (by decide) (by decide) rfl (fun ls hl => ?_)
  refine lv_goto (tgt := 6) hx hb dX4_reach_21 (by decide) ?_
  refine lv_iload_n hx hb dX4_reach_6 rfl (lv_at hl 0 rfl) ?_
  refine lv_bipush (v := 8) hx hb dX4_reach_7 (by decide) ?_
  refine F_icmp_ge hx hb 24 dX4_reach_9 (by decide) (by decide) ?_
  refine lv_aload_n hx hb dX4_reach_12 rfl (lv_at hl 2 rfl) ?_
  refine lv_iload_n hx hb dX4_reach_13 rfl (lv_at hl 1 rfl) ?_
  refine fin_i (run_V (n := 1) (ci := 3) ⟨hx, hb, hml, hown, hts⟩ (m101_X4_spread l D c h0 h1 h2 h3 h4 h5 h6 h7 H.size) (hP.sub [0] rfl) (hD.sub [0] (by decide) rfl) hK hN rfl rfl kw_761 kw_763 kw_8 kw_117 kw_764 ⟨rfl, by decide +kernel⟩ ⟨(Nat.le_of_ble_eq_true rfl), (Nat.le_of_ble_eq_true rfl)⟩ rfl rfl rfl hl.1 rfl (Nat.le_of_ble_eq_true rfl) dX4_reach_14 ⟨(Nat.le_of_ble_eq_true rfl), (Nat.le_of_ble_eq_true rfl)⟩) hP hD hS hA [0] rfl (fun H locs t hB hj hS => ?_)
  obtain ⟨hP1, hD1⟩ := hB
  obtain ⟨hP, hD⟩ := hj (wr := []) (w1 := [(h0, .inr (3, [.int 0, .int 0, .ref h1, .ref h2, .ref h3, .ref h4, .ref h5, .ref h6, .ref h7]))]) [] rfl (by decide) (by decide) hP1 hD1
  have hP : va_P D vwCl [(h0, .inr (3, [.int 0, .int 0, .ref h1, .ref h2, .ref h3, .ref h4, .ref h5, .ref h6, .ref h7]))] H := hP
  have hD : va_D A [(h0, .inr (3, [.int 0, .int 0, .ref h1, .ref h2, .ref h3, .ref h4, .ref h5, .ref h6, .ref h7]))] := hD
  refine lv_istore_n (lv' := [(2, .int 1), (3, .int 2), (0, .ref h0), (1, .int 0)]) hx hb dX4_reach_17 rfl hl (by decide) rfl (fun ls hl => ?_)
  refine lv_iinc (v := 3) (lv' := [(3, .int 3), (2, .int 1), (0, .ref h0), (1, .int 0)]) hx hb dX4_reach_18 hl (k := 1) rfl (by decide) (by decide) rfl (fun ls hl => ?_)
  refine lv_goto (tgt := 6) hx hb dX4_reach_21 (by decide) ?_
  refine lv_iload_n hx hb dX4_reach_6 rfl (lv_at hl 0 rfl) ?_
  refine lv_bipush (v := 8) hx hb dX4_reach_7 (by decide) ?_
  refine F_icmp_ge hx hb 24 dX4_reach_9 (by decide) (by decide) ?_
  refine lv_aload_n hx hb dX4_reach_12 rfl (lv_at hl 2 rfl) ?_
  refine lv_iload_n hx hb dX4_reach_13 rfl (lv_at hl 1 rfl) ?_
  refine fin_i (run_V (n := 1) (ci := 3) ⟨hx, hb, hml, hown, hts⟩ (m101_X4_spread l D c h0 h1 h2 h3 h4 h5 h6 h7 H.size) (hP.sub [0] rfl) (hD.sub [0] (by decide) rfl) hK hN rfl rfl kw_761 kw_763 kw_8 kw_117 kw_764 ⟨rfl, by decide +kernel⟩ ⟨(Nat.le_of_ble_eq_true rfl), (Nat.le_of_ble_eq_true rfl)⟩ rfl rfl rfl hl.1 rfl (Nat.le_of_ble_eq_true rfl) dX4_reach_14 ⟨(Nat.le_of_ble_eq_true rfl), (Nat.le_of_ble_eq_true rfl)⟩) hP hD hS hA [0] rfl (fun H locs t hB hj hS => ?_)
  obtain ⟨hP1, hD1⟩ := hB
  obtain ⟨hP, hD⟩ := hj (wr := []) (w1 := [(h0, .inr (3, [.int 0, .int 0, .ref h1, .ref h2, .ref h3, .ref h4, .ref h5, .ref h6, .ref h7]))]) [] rfl (by decide) (by decide) hP1 hD1
  have hP : va_P D vwCl [(h0, .inr (3, [.int 0, .int 0, .ref h1, .ref h2, .ref h3, .ref h4, .ref h5, .ref h6, .ref h7]))] H := hP
  have hD : va_D A [(h0, .inr (3, [.int 0, .int 0, .ref h1, .ref h2, .ref h3, .ref h4, .ref h5, .ref h6, .ref h7]))] := hD
  refine lv_istore_n (lv' := [(2, .int 1), (3, .int 3), (0, .ref h0), (1, .int 0)]) hx hb dX4_reach_17 rfl hl (by decide) rfl (fun ls hl => ?_)
  refine lv_iinc (v := 4) (lv' := [(3, .int 4), (2, .int 1), (0, .ref h0), (1, .int 0)]) hx hb dX4_reach_18 hl (k := 1) rfl (by decide) (by decide) rfl (fun ls hl => ?_)
  refine lv_goto (tgt := 6) hx hb dX4_reach_21 (by decide) ?_
  refine lv_iload_n hx hb dX4_reach_6 rfl (lv_at hl 0 rfl) ?_
  refine lv_bipush (v := 8) hx hb dX4_reach_7 (by decide) ?_
  refine F_icmp_ge hx hb 24 dX4_reach_9 (by decide) (by decide) ?_
  refine lv_aload_n hx hb dX4_reach_12 rfl (lv_at hl 2 rfl) ?_
  refine lv_iload_n hx hb dX4_reach_13 rfl (lv_at hl 1 rfl) ?_
  refine fin_i (run_V (n := 1) (ci := 3) ⟨hx, hb, hml, hown, hts⟩ (m101_X4_spread l D c h0 h1 h2 h3 h4 h5 h6 h7 H.size) (hP.sub [0] rfl) (hD.sub [0] (by decide) rfl) hK hN rfl rfl kw_761 kw_763 kw_8 kw_117 kw_764 ⟨rfl, by decide +kernel⟩ ⟨(Nat.le_of_ble_eq_true rfl), (Nat.le_of_ble_eq_true rfl)⟩ rfl rfl rfl hl.1 rfl (Nat.le_of_ble_eq_true rfl) dX4_reach_14 ⟨(Nat.le_of_ble_eq_true rfl), (Nat.le_of_ble_eq_true rfl)⟩) hP hD hS hA [0] rfl (fun H locs t hB hj hS => ?_)
  obtain ⟨hP1, hD1⟩ := hB
  obtain ⟨hP, hD⟩ := hj (wr := []) (w1 := [(h0, .inr (3, [.int 0, .int 0, .ref h1, .ref h2, .ref h3, .ref h4, .ref h5, .ref h6, .ref h7]))]) [] rfl (by decide) (by decide) hP1 hD1
  have hP : va_P D vwCl [(h0, .inr (3, [.int 0, .int 0, .ref h1, .ref h2, .ref h3, .ref h4, .ref h5, .ref h6, .ref h7]))] H := hP
  have hD : va_D A [(h0, .inr (3, [.int 0, .int 0, .ref h1, .ref h2, .ref h3, .ref h4, .ref h5, .ref h6, .ref h7]))] := hD
  refine lv_istore_n (lv' := [(2, .int 1), (3, .int 4), (0, .ref h0), (1, .int 0)]) hx hb dX4_reach_17 rfl hl (by decide) rfl (fun ls hl => ?_)
  refine lv_iinc (v := 5) (lv' := [(3, .int 5), (2, .int 1), (0, .ref h0), (1, .int 0)]) hx hb dX4_reach_18 hl (k := 1) rfl (by decide) (by decide) rfl (fun ls hl => ?_)
  refine lv_goto (tgt := 6) hx hb dX4_reach_21 (by decide) ?_
  refine lv_iload_n hx hb dX4_reach_6 rfl (lv_at hl 0 rfl) ?_
  refine lv_bipush (v := 8) hx hb dX4_reach_7 (by decide) ?_
  refine F_icmp_ge hx hb 24 dX4_reach_9 (by decide) (by decide) ?_
  refine lv_aload_n hx hb dX4_reach_12 rfl (lv_at hl 2 rfl) ?_
  refine lv_iload_n hx hb dX4_reach_13 rfl (lv_at hl 1 rfl) ?_
  refine fin_i (run_V (n := 1) (ci := 3) ⟨hx, hb, hml, hown, hts⟩ (m101_X4_spread l D c h0 h1 h2 h3 h4 h5 h6 h7 H.size) (hP.sub [0] rfl) (hD.sub [0] (by decide) rfl) hK hN rfl rfl kw_761 kw_763 kw_8 kw_117 kw_764 ⟨rfl, by decide +kernel⟩ ⟨(Nat.le_of_ble_eq_true rfl), (Nat.le_of_ble_eq_true rfl)⟩ rfl rfl rfl hl.1 rfl (Nat.le_of_ble_eq_true rfl) dX4_reach_14 ⟨(Nat.le_of_ble_eq_true rfl), (Nat.le_of_ble_eq_true rfl)⟩) hP hD hS hA [0] rfl (fun H locs t hB hj hS => ?_)
  obtain ⟨hP1, hD1⟩ := hB
  obtain ⟨hP, hD⟩ := hj (wr := []) (w1 := [(h0, .inr (3, [.int 0, .int 0, .ref h1, .ref h2, .ref h3, .ref h4, .ref h5, .ref h6, .ref h7]))]) [] rfl (by decide) (by decide) hP1 hD1
  have hP : va_P D vwCl [(h0, .inr (3, [.int 0, .int 0, .ref h1, .ref h2, .ref h3, .ref h4, .ref h5, .ref h6, .ref h7]))] H := hP
  have hD : va_D A [(h0, .inr (3, [.int 0, .int 0, .ref h1, .ref h2, .ref h3, .ref h4, .ref h5, .ref h6, .ref h7]))] := hD
  refine lv_istore_n (lv' := [(2, .int 1), (3, .int 5), (0, .ref h0), (1, .int 0)]) hx hb dX4_reach_17 rfl hl (by decide) rfl (fun ls hl => ?_)
  refine lv_iinc (v := 6) (lv' := [(3, .int 6), (2, .int 1), (0, .ref h0), (1, .int 0)]) hx hb dX4_reach_18 hl (k := 1) rfl (by decide) (by decide) rfl (fun ls hl => ?_)
  refine lv_goto (tgt := 6) hx hb dX4_reach_21 (by decide) ?_
  refine lv_iload_n hx hb dX4_reach_6 rfl (lv_at hl 0 rfl) ?_
  refine lv_bipush (v := 8) hx hb dX4_reach_7 (by decide) ?_
  refine F_icmp_ge hx hb 24 dX4_reach_9 (by decide) (by decide) ?_
  refine lv_aload_n hx hb dX4_reach_12 rfl (lv_at hl 2 rfl) ?_
  refine lv_iload_n hx hb dX4_reach_13 rfl (lv_at hl 1 rfl) ?_
  refine fin_i (run_V (n := 1) (ci := 3) ⟨hx, hb, hml, hown, hts⟩ (m101_X4_spread l D c h0 h1 h2 h3 h4 h5 h6 h7 H.size) (hP.sub [0] rfl) (hD.sub [0] (by decide) rfl) hK hN rfl rfl kw_761 kw_763 kw_8 kw_117 kw_764 ⟨rfl, by decide +kernel⟩ ⟨(Nat.le_of_ble_eq_true rfl), (Nat.le_of_ble_eq_true rfl)⟩ rfl rfl rfl hl.1 rfl (Nat.le_of_ble_eq_true rfl) dX4_reach_14 ⟨(Nat.le_of_ble_eq_true rfl), (Nat.le_of_ble_eq_true rfl)⟩) hP hD hS hA [0] rfl (fun H locs t hB hj hS => ?_)
  obtain ⟨hP1, hD1⟩ := hB
  obtain ⟨hP, hD⟩ := hj (wr := []) (w1 := [(h0, .inr (3, [.int 0, .int 0, .ref h1, .ref h2, .ref h3, .ref h4, .ref h5, .ref h6, .ref h7]))]) [] rfl (by decide) (by decide) hP1 hD1
  have hP : va_P D vwCl [(h0, .inr (3, [.int 0, .int 0, .ref h1, .ref h2, .ref h3, .ref h4, .ref h5, .ref h6, .ref h7]))] H := hP
  have hD : va_D A [(h0, .inr (3, [.int 0, .int 0, .ref h1, .ref h2, .ref h3, .ref h4, .ref h5, .ref h6, .ref h7]))] := hD
  refine lv_istore_n (lv' := [(2, .int 1), (3, .int 6), (0, .ref h0), (1, .int 0)]) hx hb dX4_reach_17 rfl hl (by decide) rfl (fun ls hl => ?_)
  refine lv_iinc (v := 7) (lv' := [(3, .int 7), (2, .int 1), (0, .ref h0), (1, .int 0)]) hx hb dX4_reach_18 hl (k := 1) rfl (by decide) (by decide) rfl (fun ls hl => ?_)
  refine lv_goto (tgt := 6) hx hb dX4_reach_21 (by decide) ?_
  refine lv_iload_n hx hb dX4_reach_6 rfl (lv_at hl 0 rfl) ?_
  refine lv_bipush (v := 8) hx hb dX4_reach_7 (by decide) ?_
  refine F_icmp_ge hx hb 24 dX4_reach_9 (by decide) (by decide) ?_
  refine lv_aload_n hx hb dX4_reach_12 rfl (lv_at hl 2 rfl) ?_
  refine lv_iload_n hx hb dX4_reach_13 rfl (lv_at hl 1 rfl) ?_
  refine fin_i (run_V (n := 1) (ci := 3) ⟨hx, hb, hml, hown, hts⟩ (m101_X4_spread l D c h0 h1 h2 h3 h4 h5 h6 h7 H.size) (hP.sub [0] rfl) (hD.sub [0] (by decide) rfl) hK hN rfl rfl kw_761 kw_763 kw_8 kw_117 kw_764 ⟨rfl, by decide +kernel⟩ ⟨(Nat.le_of_ble_eq_true rfl), (Nat.le_of_ble_eq_true rfl)⟩ rfl rfl rfl hl.1 rfl (Nat.le_of_ble_eq_true rfl) dX4_reach_14 ⟨(Nat.le_of_ble_eq_true rfl), (Nat.le_of_ble_eq_true rfl)⟩) hP hD hS hA [0] rfl (fun H locs t hB hj hS => ?_)
  obtain ⟨hP1, hD1⟩ := hB
  obtain ⟨hP, hD⟩ := hj (wr := []) (w1 := [(h0, .inr (3, [.int 0, .int 0, .ref h1, .ref h2, .ref h3, .ref h4, .ref h5, .ref h6, .ref h7]))]) [] rfl (by decide) (by decide) hP1 hD1
  have hP : va_P D vwCl [(h0, .inr (3, [.int 0, .int 0, .ref h1, .ref h2, .ref h3, .ref h4, .ref h5, .ref h6, .ref h7]))] H := hP
  have hD : va_D A [(h0, .inr (3, [.int 0, .int 0, .ref h1, .ref h2, .ref h3, .ref h4, .ref h5, .ref h6, .ref h7]))] := hD
  refine lv_istore_n (lv' := [(2, .int 1), (3, .int 7), (0, .ref h0), (1, .int 0)]) hx hb dX4_reach_17 rfl hl (by decide) rfl (fun ls hl => ?_)
  refine lv_iinc (v := 8) (lv' := [(3, .int 8), (2, .int 1), (0, .ref h0), (1, .int 0)]) hx hb dX4_reach_18 hl (k := 1) rfl (by decide) (by decide) rfl (fun ls hl => ?_)
  refine lv_goto (tgt := 6) hx hb dX4_reach_21 (by decide) ?_
  refine lv_iload_n hx hb dX4_reach_6 rfl (lv_at hl 0 rfl) ?_
  refine lv_bipush (v := 8) hx hb dX4_reach_7 (by decide) ?_
  refine T_icmp_ge (tgt := 24) hx hb dX4_reach_9 (by decide) (by decide) ?_
  refine lv_iload_n hx hb dX4_reach_24 rfl (lv_at hl 1 rfl) ?_
  exact retI hx hb hr hlocks rfl hS (by decide) (by decide) dX4_reach_25 (fun t ht => ⟨by rw [ht]; exact hP, hD⟩)
set_option maxHeartbeats 4000000 in
set_option maxRecDepth 100000 in
theorem m103_X10_place (l : Launch) (D : va_G) (c : Nat → ClassId) (h0 h1 h2 h3 h4 h5 h6 h7 h8 h9 h10 h11 h12 h13 h14 h15 h16 h17 h18 h19 : Nat) (sz : Nat) : Met l yX10_place (Cond.code yX10_place cX10_place 4 (some .int) :: TB) ({ frames := 2, cells := 0, slots := 0, locals := 46 } : Room) (va_Pc [.ref h0, .int 0, .int 4] (PW D c [(h0, .inr (9, [.ref h5, .ref h6, .ref h7, .ref h1, .ref h8, .ref h9, .ref h10, .ref h11, .ref h12, .int 0])), (h1, .inr (7, [.ref h2, .ref h13, .int 0, .int 0, .int 0, .int 0, .int 0, .ref h14])), (h2, .inr (3, [.int 0, .int 0, .ref h15, .ref h16, .ref h17, .ref h18, .ref h19, .ref h3, .ref h4])), (h3, .inl (c 0, 8, .inl (fun _ => 0))), (h4, .inl (c 0, 8, .inl (fun _ => 0)))] sz)) ((QI 1 (fun A t => va_P D vwCl [(h0, .inr (9, [.ref h5, .ref h6, .ref h7, .ref h1, .ref h8, .ref h9, .ref h10, .ref h11, .ref h12, .int 0])), (h1, .inr (7, [.ref h2, .ref h13, .int 0, .int 0, .int 0, .int 0, .int 0, .ref h14])), (h3, .inl (c 0, 8, .inl (fun _ => 0))), (h4, .inl (c 0, 8, .inl (fun _ => 0))), (h2, .inr (3, [.int 0, .int 0, .ref h15, .ref h16, .ref h17, .ref h18, .ref h19, .ref h3, .ref h4]))] t.heap ∧ va_D A [(h0, .inr (9, [.ref h5, .ref h6, .ref h7, .ref h1, .ref h8, .ref h9, .ref h10, .ref h11, .ref h12, .int 0])), (h1, .inr (7, [.ref h2, .ref h13, .int 0, .int 0, .int 0, .int 0, .int 0, .ref h14])), (h3, .inl (c 0, 8, .inl (fun _ => 0))), (h4, .inl (c 0, 8, .inl (fun _ => 0))), (h2, .inr (3, [.int 0, .int 0, .ref h15, .ref h16, .ref h17, .ref h18, .ref h19, .ref h3, .ref h4]))])) (va_A [(h0, .inr (9, [.ref h5, .ref h6, .ref h7, .ref h1, .ref h8, .ref h9, .ref h10, .ref h11, .ref h12, .int 0])), (h1, .inr (7, [.ref h2, .ref h13, .int 0, .int 0, .int 0, .int 0, .int 0, .ref h14])), (h2, .inr (3, [.int 0, .int 0, .ref h15, .ref h16, .ref h17, .ref h18, .ref h19, .ref h3, .ref h4])), (h3, .inl (c 0, 8, .inl (fun _ => 0))), (h4, .inl (c 0, 8, .inl (fun _ => 0)))] sz)) 0 0 (va_A [(h0, .inr (9, [.ref h5, .ref h6, .ref h7, .ref h1, .ref h8, .ref h9, .ref h10, .ref h11, .ref h12, .int 0])), (h1, .inr (7, [.ref h2, .ref h13, .int 0, .int 0, .int 0, .int 0, .int 0, .ref h14])), (h2, .inr (3, [.int 0, .int 0, .ref h15, .ref h16, .ref h17, .ref h18, .ref h19, .ref h3, .ref h4])), (h3, .inl (c 0, 8, .inl (fun _ => 0))), (h4, .inl (c 0, 8, .inl (fun _ => 0)))] sz) := by
  refine start (by decide +kernel) (Nat.le_of_ble_eq_true rfl) ?_
  intro p e s m below meth cd A ls hx hb hr hml hts hown hlocks hin hA hS hK hP hD hN hl
  have hown : s.vm.findClass RX10 = some m.cls := hown
  have hl : lv_has ls 4 [(0, .ref h0), (1, .int 0), (2, .int 4)] := hl
  have hP : va_P D vwCl [(h0, .inr (9, [.ref h5, .ref h6, .ref h7, .ref h1, .ref h8, .ref h9, .ref h10, .ref h11, .ref h12, .int 0])), (h1, .inr (7, [.ref h2, .ref h13, .int 0, .int 0, .int 0, .int 0, .int 0, .ref h14])), (h2, .inr (3, [.int 0, .int 0, .ref h15, .ref h16, .ref h17, .ref h18, .ref h19, .ref h3, .ref h4])), (h3, .inl (c 0, 8, .inl (fun _ => 0))), (h4, .inl (c 0, 8, .inl (fun _ => 0)))] s.heap := hP
  refine lv_iload_n hx hb dX10_place_0 rfl (lv_at hl 1 rfl) ?_
  refine fin_i (run_S (n := 1) ⟨hx, hb, hml, hown, hts⟩ (m99_X10_isPlace l D c s.heap.size) (hP.sub [] rfl) (hD.sub [] (by decide) rfl) hK hN rfl rfl kw_738 kw_610 kw_113 kw_611 (by decide +kernel) ⟨(Nat.le_of_ble_eq_true rfl), (Nat.le_of_ble_eq_true rfl)⟩ rfl hl.1 rfl (Nat.le_of_ble_eq_true rfl) dX10_place_1 ⟨(Nat.le_of_ble_eq_true rfl), (Nat.le_of_ble_eq_true rfl)⟩) hP hD hS hA [] rfl (fun H locs t hB hj hS => ?_)
  obtain ⟨hP1, hD1⟩ := hB
  obtain ⟨hP, hD⟩ := hj (wr := [(h0, .inr (9, [.ref h5, .ref h6, .ref h7, .ref h1, .ref h8, .ref h9, .ref h10, .ref h11, .ref h12, .int 0])), (h1, .inr (7, [.ref h2, .ref h13, .int 0, .int 0, .int 0, .int 0, .int 0, .ref h14])), (h2, .inr (3, [.int 0, .int 0, .ref h15, .ref h16, .ref h17, .ref h18, .ref h19, .ref h3, .ref h4])), (h3, .inl (c 0, 8, .inl (fun _ => 0))), (h4, .inl (c 0, 8, .inl (fun _ => 0)))]) (w1 := []) [0, 1, 2, 3, 4] rfl (by decide) (by decide) hP1 hD1
  have hP : va_P D vwCl [(h0, .inr (9, [.ref h5, .ref h6, .ref h7, .ref h1, .ref h8, .ref h9, .ref h10, .ref h11, .ref h12, .int 0])), (h1, .inr (7, [.ref h2, .ref h13, .int 0, .int 0, .int 0, .int 0, .int 0, .ref h14])), (h2, .inr (3, [.int 0, .int 0, .ref h15, .ref h16, .ref h17, .ref h18, .ref h19, .ref h3, .ref h4])), (h3, .inl (c 0, 8, .inl (fun _ => 0))), (h4, .inl (c 0, 8, .inl (fun _ => 0)))] H := hP
  have hD : va_D A [(h0, .inr (9, [.ref h5, .ref h6, .ref h7, .ref h1, .ref h8, .ref h9, .ref h10, .ref h11, .ref h12, .int 0])), (h1, .inr (7, [.ref h2, .ref h13, .int 0, .int 0, .int 0, .int 0, .int 0, .ref h14])), (h2, .inr (3, [.int 0, .int 0, .ref h15, .ref h16, .ref h17, .ref h18, .ref h19, .ref h3, .ref h4])), (h3, .inl (c 0, 8, .inl (fun _ => 0))), (h4, .inl (c 0, 8, .inl (fun _ => 0)))] := hD
  refine T_if_ne (tgt := 10) hx hb dX10_place_4 (by decide) (by decide) ?_
  refine lv_aload_n hx hb dX10_place_10 rfl (lv_at hl 0 rfl) ?_
  refine va_get (D := D) (ci := 9) (v := .ref h1) (C := RX10) (T := TX10) (N := 10) hx hb hts i_X10 hown hK hP 0 rfl rfl 3 (by decide) (hts _ kw_473) (fun _ h9 => h9) rfl dX10_place_11 ?_
  refine va_get (D := D) (ci := 7) (v := .ref h2) (C := RX8) (T := TX8) (N := 8) hx hb hts i_X8 hown hK hP 1 rfl rfl 0 (by decide) (hts _ kw_326) (fun _ h9 => h9) rfl dX10_place_14 ?_
  refine lv_iload_n hx hb dX10_place_17 rfl (lv_at hl 1 rfl) ?_
  refine fin_i (run_V (n := 1) (ci := 3) ⟨hx, hb, hml, hown, hts⟩ (m100_X4_away l D c h2 h3 h4 h15 h16 h17 h18 h19 H.size) (hP.sub [2, 3, 4] rfl) (hD.sub [2, 3, 4] (by decide) rfl) hK hN rfl rfl kw_739 kw_740 kw_741 kw_117 kw_742 ⟨rfl, by decide +kernel⟩ ⟨(Nat.le_of_ble_eq_true rfl), (Nat.le_of_ble_eq_true rfl)⟩ rfl rfl rfl hl.1 rfl (Nat.le_of_ble_eq_true rfl) dX10_place_18 ⟨(Nat.le_of_ble_eq_true rfl), (Nat.le_of_ble_eq_true rfl)⟩) hP hD hS hA [2, 3, 4] rfl (fun H locs t hB hj hS => ?_)
  obtain ⟨hP1, hD1⟩ := hB
  obtain ⟨hP, hD⟩ := hj (wr := [(h0, .inr (9, [.ref h5, .ref h6, .ref h7, .ref h1, .ref h8, .ref h9, .ref h10, .ref h11, .ref h12, .int 0])), (h1, .inr (7, [.ref h2, .ref h13, .int 0, .int 0, .int 0, .int 0, .int 0, .ref h14]))]) (w1 := [(h2, .inr (3, [.int 0, .int 0, .ref h15, .ref h16, .ref h17, .ref h18, .ref h19, .ref h3, .ref h4])), (h3, .inl (c 0, 8, .inl (fun _ => 0))), (h4, .inl (c 0, 8, .inl (fun _ => 0)))]) [0, 1] rfl (by decide) (by decide) hP1 hD1
  have hP : va_P D vwCl [(h0, .inr (9, [.ref h5, .ref h6, .ref h7, .ref h1, .ref h8, .ref h9, .ref h10, .ref h11, .ref h12, .int 0])), (h1, .inr (7, [.ref h2, .ref h13, .int 0, .int 0, .int 0, .int 0, .int 0, .ref h14])), (h2, .inr (3, [.int 0, .int 0, .ref h15, .ref h16, .ref h17, .ref h18, .ref h19, .ref h3, .ref h4])), (h3, .inl (c 0, 8, .inl (fun _ => 0))), (h4, .inl (c 0, 8, .inl (fun _ => 0)))] H := hP
  have hD : va_D A [(h0, .inr (9, [.ref h5, .ref h6, .ref h7, .ref h1, .ref h8, .ref h9, .ref h10, .ref h11, .ref h12, .int 0])), (h1, .inr (7, [.ref h2, .ref h13, .int 0, .int 0, .int 0, .int 0, .int 0, .ref h14])), (h2, .inr (3, [.int 0, .int 0, .ref h15, .ref h16, .ref h17, .ref h18, .ref h19, .ref h3, .ref h4])), (h3, .inl (c 0, 8, .inl (fun _ => 0))), (h4, .inl (c 0, 8, .inl (fun _ => 0)))] := hD
  refine fin_i (run_S (n := 1) ⟨hx, hb, hml, hown, hts⟩ (m77_J6_bitCount_0f7a4 l D c H.size) (hP.sub [] rfl) (hD.sub [] (by decide) rfl) hK hN rfl rfl kw_743 kw_744 kw_130 kw_745 (by decide +kernel) ⟨(Nat.le_of_ble_eq_true rfl), (Nat.le_of_ble_eq_true rfl)⟩ rfl hl.1 rfl (Nat.le_of_ble_eq_true rfl) dX10_place_21 ⟨(Nat.le_of_ble_eq_true rfl), (Nat.le_of_ble_eq_true rfl)⟩) hP hD hS hA [] rfl (fun H locs t hB hj hS => ?_)
  obtain ⟨hP1, hD1⟩ := hB
  obtain ⟨hP, hD⟩ := hj (wr := [(h0, .inr (9, [.ref h5, .ref h6, .ref h7, .ref h1, .ref h8, .ref h9, .ref h10, .ref h11, .ref h12, .int 0])), (h1, .inr (7, [.ref h2, .ref h13, .int 0, .int 0, .int 0, .int 0, .int 0, .ref h14])), (h2, .inr (3, [.int 0, .int 0, .ref h15, .ref h16, .ref h17, .ref h18, .ref h19, .ref h3, .ref h4])), (h3, .inl (c 0, 8, .inl (fun _ => 0))), (h4, .inl (c 0, 8, .inl (fun _ => 0)))]) (w1 := []) [0, 1, 2, 3, 4] rfl (by decide) (by decide) hP1 hD1
  have hP : va_P D vwCl [(h0, .inr (9, [.ref h5, .ref h6, .ref h7, .ref h1, .ref h8, .ref h9, .ref h10, .ref h11, .ref h12, .int 0])), (h1, .inr (7, [.ref h2, .ref h13, .int 0, .int 0, .int 0, .int 0, .int 0, .ref h14])), (h2, .inr (3, [.int 0, .int 0, .ref h15, .ref h16, .ref h17, .ref h18, .ref h19, .ref h3, .ref h4])), (h3, .inl (c 0, 8, .inl (fun _ => 0))), (h4, .inl (c 0, 8, .inl (fun _ => 0)))] H := hP
  have hD : va_D A [(h0, .inr (9, [.ref h5, .ref h6, .ref h7, .ref h1, .ref h8, .ref h9, .ref h10, .ref h11, .ref h12, .int 0])), (h1, .inr (7, [.ref h2, .ref h13, .int 0, .int 0, .int 0, .int 0, .int 0, .ref h14])), (h2, .inr (3, [.int 0, .int 0, .ref h15, .ref h16, .ref h17, .ref h18, .ref h19, .ref h3, .ref h4])), (h3, .inl (c 0, 8, .inl (fun _ => 0))), (h4, .inl (c 0, 8, .inl (fun _ => 0)))] := hD
  refine lv_istore_n (lv' := [(3, .int 0), (0, .ref h0), (1, .int 0), (2, .int 4)]) hx hb dX10_place_24 rfl hl (by decide) rfl (fun ls hl => ?_)
  refine lv_iload_n hx hb dX10_place_25 rfl (lv_at hl 3 rfl) ?_
  refine lv_tableIn (tgt := 103) hx hb dX10_place_26 (by decide) (by decide) rfl (by decide) ?_
  refine lv_aload_n hx hb dX10_place_103 rfl (lv_at hl 1 rfl) ?_
  refine va_get (D := D) (ci := 9) (v := .ref h1) (C := RX10) (T := TX10) (N := 10) hx hb hts i_X10 hown hK hP 0 rfl rfl 3 (by decide) (hts _ kw_473) (fun _ h9 => h9) rfl dX10_place_104 ?_
  refine va_get (D := D) (ci := 7) (v := .ref h2) (C := RX8) (T := TX8) (N := 8) hx hb hts i_X8 hown hK hP 1 rfl rfl 0 (by decide) (hts _ kw_326) (fun _ h9 => h9) rfl dX10_place_107 ?_
  refine lv_iload_n hx hb dX10_place_110 rfl (lv_at hl 2 rfl) ?_
  refine fin_i (run_V (n := 1) (ci := 3) ⟨hx, hb, hml, hown, hts⟩ (m102_X4_reach l D c h2 h15 h16 h17 h18 h19 h3 h4 H.size) (hP.sub [2] rfl) (hD.sub [2] (by decide) rfl) hK hN rfl rfl kw_757 kw_758 kw_759 kw_117 kw_760 ⟨rfl, by decide +kernel⟩ ⟨(Nat.le_of_ble_eq_true rfl), (Nat.le_of_ble_eq_true rfl)⟩ rfl rfl rfl hl.1 rfl (Nat.le_of_ble_eq_true rfl) dX10_place_111 ⟨(Nat.le_of_ble_eq_true rfl), (Nat.le_of_ble_eq_true rfl)⟩) hP hD hS hA [2] rfl (fun H locs t hB hj hS => ?_)
  obtain ⟨hP1, hD1⟩ := hB
  obtain ⟨hP, hD⟩ := hj (wr := [(h0, .inr (9, [.ref h5, .ref h6, .ref h7, .ref h1, .ref h8, .ref h9, .ref h10, .ref h11, .ref h12, .int 0])), (h1, .inr (7, [.ref h2, .ref h13, .int 0, .int 0, .int 0, .int 0, .int 0, .ref h14])), (h3, .inl (c 0, 8, .inl (fun _ => 0))), (h4, .inl (c 0, 8, .inl (fun _ => 0)))]) (w1 := [(h2, .inr (3, [.int 0, .int 0, .ref h15, .ref h16, .ref h17, .ref h18, .ref h19, .ref h3, .ref h4]))]) [0, 1, 3, 4] rfl (by decide) (by decide) hP1 hD1
  have hP : va_P D vwCl [(h0, .inr (9, [.ref h5, .ref h6, .ref h7, .ref h1, .ref h8, .ref h9, .ref h10, .ref h11, .ref h12, .int 0])), (h1, .inr (7, [.ref h2, .ref h13, .int 0, .int 0, .int 0, .int 0, .int 0, .ref h14])), (h3, .inl (c 0, 8, .inl (fun _ => 0))), (h4, .inl (c 0, 8, .inl (fun _ => 0))), (h2, .inr (3, [.int 0, .int 0, .ref h15, .ref h16, .ref h17, .ref h18, .ref h19, .ref h3, .ref h4]))] H := hP
  have hD : va_D A [(h0, .inr (9, [.ref h5, .ref h6, .ref h7, .ref h1, .ref h8, .ref h9, .ref h10, .ref h11, .ref h12, .int 0])), (h1, .inr (7, [.ref h2, .ref h13, .int 0, .int 0, .int 0, .int 0, .int 0, .ref h14])), (h3, .inl (c 0, 8, .inl (fun _ => 0))), (h4, .inl (c 0, 8, .inl (fun _ => 0))), (h2, .inr (3, [.int 0, .int 0, .ref h15, .ref h16, .ref h17, .ref h18, .ref h19, .ref h3, .ref h4]))] := hD
  exact retI hx hb hr hlocks rfl hS (by decide) (by decide) dX10_place_114 (fun t ht => ⟨by rw [ht]; exact hP, hD⟩)
set_option maxHeartbeats 4000000 in
set_option maxRecDepth 100000 in
theorem m104_X11_isPlace (l : Launch) (D : va_G) (c : Nat → ClassId) (sz : Nat) : Met l yX11_isPlace (Cond.code yX11_isPlace cX11_isPlace 1 (some .boolean) :: TB) ({ frames := 0, cells := 0, slots := 0, locals := 0 } : Room) (va_Pc [.int 0] (PW D c [] sz)) ((QI 1 (fun A t => va_P D vwCl [] t.heap ∧ va_D A [])) (va_A [] sz)) 0 0 (va_A [] sz) := by
  refine start (by decide +kernel) (Nat.le_of_ble_eq_true rfl) ?_
  intro p e s m below meth cd A ls hx hb hr hml hts hown hlocks hin hA hS hK hP hD hN hl
  have hown : s.vm.findClass RX11 = some m.cls := hown
  have hl : lv_has ls 1 [(0, .int 0)] := hl
  have hP : va_P D vwCl [] s.heap := hP
  refine lv_iload_n hx hb dX11_isPlace_0 rfl (lv_at hl 0 rfl) ?_
  refine F_if_lt hx hb 14 dX11_isPlace_1 (by decide) (by decide) ?_
  refine lv_iload_n hx hb dX11_isPlace_4 rfl (lv_at hl 0 rfl) ?_
  refine lv_bipush (v := 8) hx hb dX11_isPlace_5 (by decide) ?_
  refine F_icmp_ge hx hb 14 dX11_isPlace_7 (by decide) (by decide) ?_
  refine lv_iconst (v := 1) hx hb dX11_isPlace_10 (by decide) ?_
  refine lv_goto (tgt := 15) hx hb dX11_isPlace_11 (by decide) ?_
  exact retI hx hb hr hlocks (by decide) hS (by decide) (by decide) dX11_isPlace_15 (fun t ht => ⟨by rw [ht]; exact hP, hD⟩)
set_option maxHeartbeats 4000000 in
set_option maxRecDepth 100000 in
theorem m105_X11_in (l : Launch) (D : va_G) (c : Nat → ClassId) (sz : Nat) : Met l yX11_in (Cond.code yX11_in cX11_in 6 (some .boolean) :: TB) ({ frames := 0, cells := 0, slots := 0, locals := 0 } : Room) (va_Pc [.long 4, .long 0, .long 4] (PW D c [] sz)) ((QI 1 (fun A t => va_P D vwCl [] t.heap ∧ va_D A [])) (va_A [] sz)) 0 0 (va_A [] sz) := by
  refine start (by decide +kernel) (Nat.le_of_ble_eq_true rfl) ?_
  intro p e s m below meth cd A ls hx hb hr hml hts hown hlocks hin hA hS hK hP hD hN hl
  have hown : s.vm.findClass RX11 = some m.cls := hown
  have hl : lv_has ls 6 [(0, .long 4), (2, .long 0), (4, .long 4)] := hl
  have hP : va_P D vwCl [] s.heap := hP
  refine lv_lload_n hx hb dX11_in_0 rfl (lv_at hl 0 rfl) ?_
  refine lv_lload_n hx hb dX11_in_1 rfl (lv_at hl 1 rfl) ?_
  refine W.lcmp hx hb dX11_in_2 ?_
  refine tpi 1 (by decide) ?_
  refine F_if_lt hx hb 17 dX11_in_3 (by decide) (by decide) ?_
  refine lv_lload_n hx hb dX11_in_6 rfl (lv_at hl 0 rfl) ?_
  refine lv_lload hx hb dX11_in_7 (lv_at hl 2 rfl) ?_
  refine W.lcmp hx hb dX11_in_9 ?_
  refine tpi 0 (by decide) ?_
  refine F_if_gt hx hb 17 dX11_in_10 (by decide) (by decide) ?_
  refine lv_iconst (v := 1) hx hb dX11_in_13 (by decide) ?_
  refine lv_goto (tgt := 18) hx hb dX11_in_14 (by decide) ?_
  exact retI hx hb hr hlocks (by decide) hS (by decide) (by decide) dX11_in_18 (fun t ht => ⟨by rw [ht]; exact hP, hD⟩)
set_option maxHeartbeats 4000000 in
set_option maxRecDepth 100000 in
theorem m106_X11_spreads (l : Launch) (D : va_G) (c : Nat → ClassId) (h0 h1 h2 h3 h4 h5 h6 h7 h8 h9 h10 h11 h12 h13 h14 h15 h16 h17 h18 h19 h20 h21 h22 h23 h24 : Nat) (sz : Nat) : Met l yX11_spreads (Cond.code yX11_spreads cX11_spreads 6 none :: TB) ({ frames := 0, cells := 0, slots := 0, locals := 0 } : Room) (va_Pc [.ref h0, .int 0] (PW D c [(h0, .inr (10, (.ref h3 :: .int 0 :: .int 0 :: .ref h4 :: .ref h5 :: .ref h6 :: .ref h7 :: .int 0 :: .int 0 :: .ref h8 :: .ref h9 :: .int 0 :: .int 0 :: .int 0 :: .int 0 :: .int 0 :: .int 0 :: .int 0 :: .ref h10 :: .int 0 :: .ref h11 :: .int 0 :: .ref h12 :: .ref h2 :: .ref h13 :: .ref h1 :: .ref h14 :: .ref h15 :: .ref h16 :: .int 0 :: .ref h17 :: .int 0 :: .ref h18 :: .int 0 :: .int 0 :: .int 0 :: .ref h19 :: .ref h20 :: .ref h21 :: .ref h22 :: .int 0 :: .ref h23 :: .ref h24 :: []))), (h1, .inl (c 0, 8, .inl (fun _ => 0))), (h2, .inl (c 0, 202, .inl (fun _ => 0)))] sz)) ((QV (fun A t => va_P D vwCl [(h0, .inr (10, (.ref h3 :: .int 0 :: .int 0 :: .ref h4 :: .ref h5 :: .ref h6 :: .ref h7 :: .int 0 :: .int 0 :: .ref h8 :: .ref h9 :: .int 0 :: .int 0 :: .int 0 :: .int 0 :: .int 0 :: .int 0 :: .int 0 :: .ref h10 :: .int 0 :: .ref h11 :: .int 0 :: .ref h12 :: .ref h2 :: .ref h13 :: .ref h1 :: .ref h14 :: .ref h15 :: .ref h16 :: .int 0 :: .ref h17 :: .int 0 :: .ref h18 :: .int 0 :: .int 0 :: .int 0 :: .ref h19 :: .ref h20 :: .ref h21 :: .ref h22 :: .int 0 :: .ref h23 :: .ref h24 :: []))), (h1, .inl (c 0, 8, .inl (upd (upd (upd (upd (upd (upd (upd (upd (upd (fun _ => 0) (Int32.toNatClampNeg 0) (-1)) (Int32.toNatClampNeg 1) (-1)) (Int32.toNatClampNeg 2) (-1)) (Int32.toNatClampNeg 3) (-1)) (Int32.toNatClampNeg 4) (-1)) (Int32.toNatClampNeg 5) (-1)) (Int32.toNatClampNeg 6) (-1)) (Int32.toNatClampNeg 7) (-1)) (Int32.toNatClampNeg 0) 0))), (h2, .inl (c 0, 202, .inl (fun _ => 0)))] t.heap ∧ va_D A [(h0, .inr (10, (.ref h3 :: .int 0 :: .int 0 :: .ref h4 :: .ref h5 :: .ref h6 :: .ref h7 :: .int 0 :: .int 0 :: .ref h8 :: .ref h9 :: .int 0 :: .int 0 :: .int 0 :: .int 0 :: .int 0 :: .int 0 :: .int 0 :: .ref h10 :: .int 0 :: .ref h11 :: .int 0 :: .ref h12 :: .ref h2 :: .ref h13 :: .ref h1 :: .ref h14 :: .ref h15 :: .ref h16 :: .int 0 :: .ref h17 :: .int 0 :: .ref h18 :: .int 0 :: .int 0 :: .int 0 :: .ref h19 :: .ref h20 :: .ref h21 :: .ref h22 :: .int 0 :: .ref h23 :: .ref h24 :: []))), (h1, .inl (c 0, 8, .inl (upd (upd (upd (upd (upd (upd (upd (upd (upd (fun _ => 0) (Int32.toNatClampNeg 0) (-1)) (Int32.toNatClampNeg 1) (-1)) (Int32.toNatClampNeg 2) (-1)) (Int32.toNatClampNeg 3) (-1)) (Int32.toNatClampNeg 4) (-1)) (Int32.toNatClampNeg 5) (-1)) (Int32.toNatClampNeg 6) (-1)) (Int32.toNatClampNeg 7) (-1)) (Int32.toNatClampNeg 0) 0))), (h2, .inl (c 0, 202, .inl (fun _ => 0)))])) (va_A [(h0, .inr (10, (.ref h3 :: .int 0 :: .int 0 :: .ref h4 :: .ref h5 :: .ref h6 :: .ref h7 :: .int 0 :: .int 0 :: .ref h8 :: .ref h9 :: .int 0 :: .int 0 :: .int 0 :: .int 0 :: .int 0 :: .int 0 :: .int 0 :: .ref h10 :: .int 0 :: .ref h11 :: .int 0 :: .ref h12 :: .ref h2 :: .ref h13 :: .ref h1 :: .ref h14 :: .ref h15 :: .ref h16 :: .int 0 :: .ref h17 :: .int 0 :: .ref h18 :: .int 0 :: .int 0 :: .int 0 :: .ref h19 :: .ref h20 :: .ref h21 :: .ref h22 :: .int 0 :: .ref h23 :: .ref h24 :: []))), (h1, .inl (c 0, 8, .inl (fun _ => 0))), (h2, .inl (c 0, 202, .inl (fun _ => 0)))] sz)) 0 0 (va_A [(h0, .inr (10, (.ref h3 :: .int 0 :: .int 0 :: .ref h4 :: .ref h5 :: .ref h6 :: .ref h7 :: .int 0 :: .int 0 :: .ref h8 :: .ref h9 :: .int 0 :: .int 0 :: .int 0 :: .int 0 :: .int 0 :: .int 0 :: .int 0 :: .ref h10 :: .int 0 :: .ref h11 :: .int 0 :: .ref h12 :: .ref h2 :: .ref h13 :: .ref h1 :: .ref h14 :: .ref h15 :: .ref h16 :: .int 0 :: .ref h17 :: .int 0 :: .ref h18 :: .int 0 :: .int 0 :: .int 0 :: .ref h19 :: .ref h20 :: .ref h21 :: .ref h22 :: .int 0 :: .ref h23 :: .ref h24 :: []))), (h1, .inl (c 0, 8, .inl (fun _ => 0))), (h2, .inl (c 0, 202, .inl (fun _ => 0)))] sz) := by
  refine start (by decide +kernel) (Nat.le_of_ble_eq_true rfl) ?_
  intro p e s m below meth cd A ls hx hb hr hml hts hown hlocks hin hA hS hK hP hD hN hl
  have hown : s.vm.findClass RX11 = some m.cls := hown
  have hl : lv_has ls 6 [(0, .ref h0), (1, .int 0)] := hl
  have hP : va_P D vwCl [(h0, .inr (10, (.ref h3 :: .int 0 :: .int 0 :: .ref h4 :: .ref h5 :: .ref h6 :: .ref h7 :: .int 0 :: .int 0 :: .ref h8 :: .ref h9 :: .int 0 :: .int 0 :: .int 0 :: .int 0 :: .int 0 :: .int 0 :: .int 0 :: .ref h10 :: .int 0 :: .ref h11 :: .int 0 :: .ref h12 :: .ref h2 :: .ref h13 :: .ref h1 :: .ref h14 :: .ref h15 :: .ref h16 :: .int 0 :: .ref h17 :: .int 0 :: .ref h18 :: .int 0 :: .int 0 :: .int 0 :: .ref h19 :: .ref h20 :: .ref h21 :: .ref h22 :: .int 0 :: .ref h23 :: .ref h24 :: []))), (h1, .inl (c 0, 8, .inl (fun _ => 0))), (h2, .inl (c 0, 202, .inl (fun _ => 0)))] s.heap := hP
  refine lv_iconst (v := 0) hx hb dX11_spreads_0 (by decide) ?_
  refine lv_istore_n (lv' := [(2, .int 0), (0, .ref h0), (1, .int 0)]) hx hb dX11_spreads_1 rfl hl (by decide) rfl (fun ls hl => ?_)
  refine lv_iload_n hx hb dX11_spreads_2 rfl (lv_at hl 0 rfl) ?_
  refine lv_bipush (v := 8) hx hb dX11_spreads_3 (by decide) ?_
  refine F_icmp_ge hx hb 21 dX11_spreads_5 (by decide) (by decide) ?_
  refine lv_aload_n hx hb dX11_spreads_8 rfl (lv_at hl 1 rfl) ?_
  refine va_get (D := D) (ci := 10) (v := .ref h1) (C := RX11) (T := TX11) (N := 43) hx hb hts i_X11 hown hK hP 0 rfl rfl 25 (by decide) (hts _ kw_1228) (fun _ h9 => h9) rfl dX11_spreads_9 ?_
  refine lv_iload_n hx hb dX11_spreads_12 rfl (lv_at hl 0 rfl) ?_
  refine lv_iconst (v := (-1)) hx hb dX11_spreads_13 (by decide) ?_
  refine va_iast hx hb hK hP hD hS 1 0 rfl rfl (vpi (by decide)) dX11_spreads_14 (fun H locs hP hD hS => ?_)
  have hP : va_P D vwCl [(h0, .inr (10, (.ref h3 :: .int 0 :: .int 0 :: .ref h4 :: .ref h5 :: .ref h6 :: .ref h7 :: .int 0 :: .int 0 :: .ref h8 :: .ref h9 :: .int 0 :: .int 0 :: .int 0 :: .int 0 :: .int 0 :: .int 0 :: .int 0 :: .ref h10 :: .int 0 :: .ref h11 :: .int 0 :: .ref h12 :: .ref h2 :: .ref h13 :: .ref h1 :: .ref h14 :: .ref h15 :: .ref h16 :: .int 0 :: .ref h17 :: .int 0 :: .ref h18 :: .int 0 :: .int 0 :: .int 0 :: .ref h19 :: .ref h20 :: .ref h21 :: .ref h22 :: .int 0 :: .ref h23 :: .ref h24 :: []))), (h1, .inl (c 0, 8, .inl (upd (fun _ => 0) (Int32.toNatClampNeg 0) (-1)))), (h2, .inl (c 0, 202, .inl (fun _ => 0)))] H := hP
  have hD : va_D A [(h0, .inr (10, (.ref h3 :: .int 0 :: .int 0 :: .ref h4 :: .ref h5 :: .ref h6 :: .ref h7 :: .int 0 :: .int 0 :: .ref h8 :: .ref h9 :: .int 0 :: .int 0 :: .int 0 :: .int 0 :: .int 0 :: .int 0 :: .int 0 :: .ref h10 :: .int 0 :: .ref h11 :: .int 0 :: .ref h12 :: .ref h2 :: .ref h13 :: .ref h1 :: .ref h14 :: .ref h15 :: .ref h16 :: .int 0 :: .ref h17 :: .int 0 :: .ref h18 :: .int 0 :: .int 0 :: .int 0 :: .ref h19 :: .ref h20 :: .ref h21 :: .ref h22 :: .int 0 :: .ref h23 :: .ref h24 :: []))), (h1, .inl (c 0, 8, .inl (upd (fun _ => 0) (Int32.toNatClampNeg 0) (-1)))), (h2, .inl (c 0, 202, .inl (fun _ => 0)))] := hD
  refine lv_iinc (v := 1) (lv' := [(2, .int 1), (0, .ref h0), (1, .int 0)]) hx hb dX11_spreads_15 hl (k := 0) rfl (by decide) (by decide) rfl (fun ls hl => ?_)
  refine lv_goto (tgt := 2) hx hb dX11_spreads_18 (by decide) ?_
  refine lv_iload_n hx hb dX11_spreads_2 rfl (lv_at hl 0 rfl) ?_
  refine lv_bipush (v := 8) hx hb dX11_spreads_3 (by decide) ?_
  refine F_icmp_ge hx hb 21 dX11_spreads_5 (by decide) (by decide) ?_
  refine lv_aload_n hx hb dX11_spreads_8 rfl (lv_at hl 1 rfl) ?_
  refine va_get (D := D) (ci := 10) (v := .ref h1) (C := RX11) (T := TX11) (N := 43) hx hb hts i_X11 hown hK hP 0 rfl rfl 25 (by decide) (hts _ kw_1228) (fun _ h9 => h9) rfl dX11_spreads_9 ?_
  refine lv_iload_n hx hb dX11_spreads_12 rfl (lv_at hl 0 rfl) ?_
  refine lv_iconst (v := (-1)) hx hb dX11_spreads_13 (by decide) ?_
  refine va_iast hx hb hK hP hD hS 1 0 rfl rfl (vpi (by decide)) dX11_spreads_14 (fun H locs hP hD hS => ?_)
  have hP : va_P D vwCl [(h0, .inr (10, (.ref h3 :: .int 0 :: .int 0 :: .ref h4 :: .ref h5 :: .ref h6 :: .ref h7 :: .int 0 :: .int 0 :: .ref h8 :: .ref h9 :: .int 0 :: .int 0 :: .int 0 :: .int 0 :: .int 0 :: .int 0 :: .int 0 :: .ref h10 :: .int 0 :: .ref h11 :: .int 0 :: .ref h12 :: .ref h2 :: .ref h13 :: .ref h1 :: .ref h14 :: .ref h15 :: .ref h16 :: .int 0 :: .ref h17 :: .int 0 :: .ref h18 :: .int 0 :: .int 0 :: .int 0 :: .ref h19 :: .ref h20 :: .ref h21 :: .ref h22 :: .int 0 :: .ref h23 :: .ref h24 :: []))), (h1, .inl (c 0, 8, .inl (upd (upd (fun _ => 0) (Int32.toNatClampNeg 0) (-1)) (Int32.toNatClampNeg 1) (-1)))), (h2, .inl (c 0, 202, .inl (fun _ => 0)))] H := hP
  have hD : va_D A [(h0, .inr (10, (.ref h3 :: .int 0 :: .int 0 :: .ref h4 :: .ref h5 :: .ref h6 :: .ref h7 :: .int 0 :: .int 0 :: .ref h8 :: .ref h9 :: .int 0 :: .int 0 :: .int 0 :: .int 0 :: .int 0 :: .int 0 :: .int 0 :: .ref h10 :: .int 0 :: .ref h11 :: .int 0 :: .ref h12 :: .ref h2 :: .ref h13 :: .ref h1 :: .ref h14 :: .ref h15 :: .ref h16 :: .int 0 :: .ref h17 :: .int 0 :: .ref h18 :: .int 0 :: .int 0 :: .int 0 :: .ref h19 :: .ref h20 :: .ref h21 :: .ref h22 :: .int 0 :: .ref h23 :: .ref h24 :: []))), (h1, .inl (c 0, 8, .inl (upd (upd (fun _ => 0) (Int32.toNatClampNeg 0) (-1)) (Int32.toNatClampNeg 1) (-1)))), (h2, .inl (c 0, 202, .inl (fun _ => 0)))] := hD
  refine lv_iinc (v := 2) (lv' := [(2, .int 2), (0, .ref h0), (1, .int 0)]) hx hb dX11_spreads_15 hl (k := 0) rfl (by decide) (by decide) rfl (fun ls hl => ?_)
  refine lv_goto (tgt := 2) hx hb dX11_spreads_18 (by decide) ?_
  refine lv_iload_n hx hb dX11_spreads_2 rfl (lv_at hl 0 rfl) ?_
  refine lv_bipush (v := 8) hx hb dX11_spreads_3 (by decide) ?_
  refine F_icmp_ge hx hb 21 dX11_spreads_5 (by decide) (by decide) ?_
  refine lv_aload_n hx hb dX11_spreads_8 rfl (lv_at hl 1 rfl) ?_
  refine va_get (D := D) (ci := 10) (v := .ref h1) (C := RX11) (T := TX11) (N := 43) hx hb hts i_X11 hown hK hP 0 rfl rfl 25 (by decide) (hts _ kw_1228) (fun _ h9 => h9) rfl dX11_spreads_9 ?_
  refine lv_iload_n hx hb dX11_spreads_12 rfl (lv_at hl 0 rfl) ?_
  refine lv_iconst (v := (-1)) hx hb dX11_spreads_13 (by decide) ?_
  refine va_iast hx hb hK hP hD hS 1 0 rfl rfl (vpi (by decide)) dX11_spreads_14 (fun H locs hP hD hS => ?_)
  have hP : va_P D vwCl [(h0, .inr (10, (.ref h3 :: .int 0 :: .int 0 :: .ref h4 :: .ref h5 :: .ref h6 :: .ref h7 :: .int 0 :: .int 0 :: .ref h8 :: .ref h9 :: .int 0 :: .int 0 :: .int 0 :: .int 0 :: .int 0 :: .int 0 :: .int 0 :: .ref h10 :: .int 0 :: .ref h11 :: .int 0 :: .ref h12 :: .ref h2 :: .ref h13 :: .ref h1 :: .ref h14 :: .ref h15 :: .ref h16 :: .int 0 :: .ref h17 :: .int 0 :: .ref h18 :: .int 0 :: .int 0 :: .int 0 :: .ref h19 :: .ref h20 :: .ref h21 :: .ref h22 :: .int 0 :: .ref h23 :: .ref h24 :: []))), (h1, .inl (c 0, 8, .inl (upd (upd (upd (fun _ => 0) (Int32.toNatClampNeg 0) (-1)) (Int32.toNatClampNeg 1) (-1)) (Int32.toNatClampNeg 2) (-1)))), (h2, .inl (c 0, 202, .inl (fun _ => 0)))] H := hP
  have hD : va_D A [(h0, .inr (10, (.ref h3 :: .int 0 :: .int 0 :: .ref h4 :: .ref h5 :: .ref h6 :: .ref h7 :: .int 0 :: .int 0 :: .ref h8 :: .ref h9 :: .int 0 :: .int 0 :: .int 0 :: .int 0 :: .int 0 :: .int 0 :: .int 0 :: .ref h10 :: .int 0 :: .ref h11 :: .int 0 :: .ref h12 :: .ref h2 :: .ref h13 :: .ref h1 :: .ref h14 :: .ref h15 :: .ref h16 :: .int 0 :: .ref h17 :: .int 0 :: .ref h18 :: .int 0 :: .int 0 :: .int 0 :: .ref h19 :: .ref h20 :: .ref h21 :: .ref h22 :: .int 0 :: .ref h23 :: .ref h24 :: []))), (h1, .inl (c 0, 8, .inl (upd (upd (upd (fun _ => 0) (Int32.toNatClampNeg 0) (-1)) (Int32.toNatClampNeg 1) (-1)) (Int32.toNatClampNeg 2) (-1)))), (h2, .inl (c 0, 202, .inl (fun _ => 0)))] := hD
  refine lv_iinc (v := 3) (lv' := [(2, .int 3), (0, .ref h0), (1, .int 0)]) hx hb dX11_spreads_15 hl (k := 0) rfl (by decide) (by decide) rfl (fun ls hl => ?_)
  refine lv_goto (tgt := 2) hx hb dX11_spreads_18 (by decide) ?_
  refine lv_iload_n hx hb dX11_spreads_2 rfl (lv_at hl 0 rfl) ?_
  refine lv_bipush (v := 8) hx hb dX11_spreads_3 (by decide) ?_
  refine F_icmp_ge hx hb 21 dX11_spreads_5 (by decide) (by decide) ?_
  refine lv_aload_n hx hb dX11_spreads_8 rfl (lv_at hl 1 rfl) ?_
  refine va_get (D := D) (ci := 10) (v := .ref h1) (C := RX11) (T := TX11) (N := 43) hx hb hts i_X11 hown hK hP 0 rfl rfl 25 (by decide) (hts _ kw_1228) (fun _ h9 => h9) rfl dX11_spreads_9 ?_
  refine lv_iload_n hx hb dX11_spreads_12 rfl (lv_at hl 0 rfl) ?_
  refine lv_iconst (v := (-1)) hx hb dX11_spreads_13 (by decide) ?_
  refine va_iast hx hb hK hP hD hS 1 0 rfl rfl (vpi (by decide)) dX11_spreads_14 (fun H locs hP hD hS => ?_)
  have hP : va_P D vwCl [(h0, .inr (10, (.ref h3 :: .int 0 :: .int 0 :: .ref h4 :: .ref h5 :: .ref h6 :: .ref h7 :: .int 0 :: .int 0 :: .ref h8 :: .ref h9 :: .int 0 :: .int 0 :: .int 0 :: .int 0 :: .int 0 :: .int 0 :: .int 0 :: .ref h10 :: .int 0 :: .ref h11 :: .int 0 :: .ref h12 :: .ref h2 :: .ref h13 :: .ref h1 :: .ref h14 :: .ref h15 :: .ref h16 :: .int 0 :: .ref h17 :: .int 0 :: .ref h18 :: .int 0 :: .int 0 :: .int 0 :: .ref h19 :: .ref h20 :: .ref h21 :: .ref h22 :: .int 0 :: .ref h23 :: .ref h24 :: []))), (h1, .inl (c 0, 8, .inl (upd (upd (upd (upd (fun _ => 0) (Int32.toNatClampNeg 0) (-1)) (Int32.toNatClampNeg 1) (-1)) (Int32.toNatClampNeg 2) (-1)) (Int32.toNatClampNeg 3) (-1)))), (h2, .inl (c 0, 202, .inl (fun _ => 0)))] H := hP
  have hD : va_D A [(h0, .inr (10, (.ref h3 :: .int 0 :: .int 0 :: .ref h4 :: .ref h5 :: .ref h6 :: .ref h7 :: .int 0 :: .int 0 :: .ref h8 :: .ref h9 :: .int 0 :: .int 0 :: .int 0 :: .int 0 :: .int 0 :: .int 0 :: .int 0 :: .ref h10 :: .int 0 :: .ref h11 :: .int 0 :: .ref h12 :: .ref h2 :: .ref h13 :: .ref h1 :: .ref h14 :: .ref h15 :: .ref h16 :: .int 0 :: .ref h17 :: .int 0 :: .ref h18 :: .int 0 :: .int 0 :: .int 0 :: .ref h19 :: .ref h20 :: .ref h21 :: .ref h22 :: .int 0 :: .ref h23 :: .ref h24 :: []))), (h1, .inl (c 0, 8, .inl (upd (upd (upd (upd (fun _ => 0) (Int32.toNatClampNeg 0) (-1)) (Int32.toNatClampNeg 1) (-1)) (Int32.toNatClampNeg 2) (-1)) (Int32.toNatClampNeg 3) (-1)))), (h2, .inl (c 0, 202, .inl (fun _ => 0)))] := hD
  refine lv_iinc (v := 4) (lv' := [(2, .int 4), (0, .ref h0), (1, .int 0)]) hx hb dX11_spreads_15 hl (k := 0) rfl (by decide) (by decide) rfl (fun ls hl => ?_)
  refine lv_goto (tgt := 2) hx hb dX11_spreads_18 (by decide) ?_
  refine lv_iload_n hx hb dX11_spreads_2 rfl (lv_at hl 0 rfl) ?_
  refine lv_bipush (v := 8) hx hb dX11_spreads_3 (by decide) ?_
  refine F_icmp_ge hx hb 21 dX11_spreads_5 (by decide) (by decide) ?_
  refine lv_aload_n hx hb dX11_spreads_8 rfl (lv_at hl 1 rfl) ?_
  refine va_get (D := D) (ci := 10) (v := .ref h1) (C := RX11) (T := TX11) (N := 43) hx hb hts i_X11 hown hK hP 0 rfl rfl 25 (by decide) (hts _ kw_1228) (fun _ h9 => h9) rfl dX11_spreads_9 ?_
  refine lv_iload_n hx hb dX11_spreads_12 rfl (lv_at hl 0 rfl) ?_
  refine lv_iconst (v := (-1)) hx hb dX11_spreads_13 (by decide) ?_
  refine va_iast hx hb hK hP hD hS 1 0 rfl rfl (vpi (by decide)) dX11_spreads_14 (fun H locs hP hD hS => ?_)
  have hP : va_P D vwCl [(h0, .inr (10, (.ref h3 :: .int 0 :: .int 0 :: .ref h4 :: .ref h5 :: .ref h6 :: .ref h7 :: .int 0 :: .int 0 :: .ref h8 :: .ref h9 :: .int 0 :: .int 0 :: .int 0 :: .int 0 :: .int 0 :: .int 0 :: .int 0 :: .ref h10 :: .int 0 :: .ref h11 :: .int 0 :: .ref h12 :: .ref h2 :: .ref h13 :: .ref h1 :: .ref h14 :: .ref h15 :: .ref h16 :: .int 0 :: .ref h17 :: .int 0 :: .ref h18 :: .int 0 :: .int 0 :: .int 0 :: .ref h19 :: .ref h20 :: .ref h21 :: .ref h22 :: .int 0 :: .ref h23 :: .ref h24 :: []))), (h1, .inl (c 0, 8, .inl (upd (upd (upd (upd (upd (fun _ => 0) (Int32.toNatClampNeg 0) (-1)) (Int32.toNatClampNeg 1) (-1)) (Int32.toNatClampNeg 2) (-1)) (Int32.toNatClampNeg 3) (-1)) (Int32.toNatClampNeg 4) (-1)))), (h2, .inl (c 0, 202, .inl (fun _ => 0)))] H := hP
  have hD : va_D A [(h0, .inr (10, (.ref h3 :: .int 0 :: .int 0 :: .ref h4 :: .ref h5 :: .ref h6 :: .ref h7 :: .int 0 :: .int 0 :: .ref h8 :: .ref h9 :: .int 0 :: .int 0 :: .int 0 :: .int 0 :: .int 0 :: .int 0 :: .int 0 :: .ref h10 :: .int 0 :: .ref h11 :: .int 0 :: .ref h12 :: .ref h2 :: .ref h13 :: .ref h1 :: .ref h14 :: .ref h15 :: .ref h16 :: .int 0 :: .ref h17 :: .int 0 :: .ref h18 :: .int 0 :: .int 0 :: .int 0 :: .ref h19 :: .ref h20 :: .ref h21 :: .ref h22 :: .int 0 :: .ref h23 :: .ref h24 :: []))), (h1, .inl (c 0, 8, .inl (upd (upd (upd (upd (upd (fun _ => 0) (Int32.toNatClampNeg 0) (-1)) (Int32.toNatClampNeg 1) (-1)) (Int32.toNatClampNeg 2) (-1)) (Int32.toNatClampNeg 3) (-1)) (Int32.toNatClampNeg 4) (-1)))), (h2, .inl (c 0, 202, .inl (fun _ => 0)))] := hD
  refine lv_iinc (v := 5) (lv' := [(2, .int 5), (0, .ref h0), (1, .int 0)]) hx hb dX11_spreads_15 hl (k := 0) rfl (by decide) (by decide) rfl (fun ls hl => ?_)
  refine lv_goto (tgt := 2) hx hb dX11_spreads_18 (by decide) ?_
  refine lv_iload_n hx hb dX11_spreads_2 rfl (lv_at hl 0 rfl) ?_
  refine lv_bipush (v := 8) hx hb dX11_spreads_3 (by decide) ?_
  refine F_icmp_ge hx hb 21 dX11_spreads_5 (by decide) (by decide) ?_
  refine lv_aload_n hx hb dX11_spreads_8 rfl (lv_at hl 1 rfl) ?_
  refine va_get (D := D) (ci := 10) (v := .ref h1) (C := RX11) (T := TX11) (N := 43) hx hb hts i_X11 hown hK hP 0 rfl rfl 25 (by decide) (hts _ kw_1228) (fun _ h9 => h9) rfl dX11_spreads_9 ?_
  refine lv_iload_n hx hb dX11_spreads_12 rfl (lv_at hl 0 rfl) ?_
  refine lv_iconst (v := (-1)) hx hb dX11_spreads_13 (by decide) ?_
  refine va_iast hx hb hK hP hD hS 1 0 rfl rfl (vpi (by decide)) dX11_spreads_14 (fun H locs hP hD hS => ?_)
  have hP : va_P D vwCl [(h0, .inr (10, (.ref h3 :: .int 0 :: .int 0 :: .ref h4 :: .ref h5 :: .ref h6 :: .ref h7 :: .int 0 :: .int 0 :: .ref h8 :: .ref h9 :: .int 0 :: .int 0 :: .int 0 :: .int 0 :: .int 0 :: .int 0 :: .int 0 :: .ref h10 :: .int 0 :: .ref h11 :: .int 0 :: .ref h12 :: .ref h2 :: .ref h13 :: .ref h1 :: .ref h14 :: .ref h15 :: .ref h16 :: .int 0 :: .ref h17 :: .int 0 :: .ref h18 :: .int 0 :: .int 0 :: .int 0 :: .ref h19 :: .ref h20 :: .ref h21 :: .ref h22 :: .int 0 :: .ref h23 :: .ref h24 :: []))), (h1, .inl (c 0, 8, .inl (upd (upd (upd (upd (upd (upd (fun _ => 0) (Int32.toNatClampNeg 0) (-1)) (Int32.toNatClampNeg 1) (-1)) (Int32.toNatClampNeg 2) (-1)) (Int32.toNatClampNeg 3) (-1)) (Int32.toNatClampNeg 4) (-1)) (Int32.toNatClampNeg 5) (-1)))), (h2, .inl (c 0, 202, .inl (fun _ => 0)))] H := hP
  have hD : va_D A [(h0, .inr (10, (.ref h3 :: .int 0 :: .int 0 :: .ref h4 :: .ref h5 :: .ref h6 :: .ref h7 :: .int 0 :: .int 0 :: .ref h8 :: .ref h9 :: .int 0 :: .int 0 :: .int 0 :: .int 0 :: .int 0 :: .int 0 :: .int 0 :: .ref h10 :: .int 0 :: .ref h11 :: .int 0 :: .ref h12 :: .ref h2 :: .ref h13 :: .ref h1 :: .ref h14 :: .ref h15 :: .ref h16 :: .int 0 :: .ref h17 :: .int 0 :: .ref h18 :: .int 0 :: .int 0 :: .int 0 :: .ref h19 :: .ref h20 :: .ref h21 :: .ref h22 :: .int 0 :: .ref h23 :: .ref h24 :: []))), (h1, .inl (c 0, 8, .inl (upd (upd (upd (upd (upd (upd (fun _ => 0) (Int32.toNatClampNeg 0) (-1)) (Int32.toNatClampNeg 1) (-1)) (Int32.toNatClampNeg 2) (-1)) (Int32.toNatClampNeg 3) (-1)) (Int32.toNatClampNeg 4) (-1)) (Int32.toNatClampNeg 5) (-1)))), (h2, .inl (c 0, 202, .inl (fun _ => 0)))] := hD
  refine lv_iinc (v := 6) (lv' := [(2, .int 6), (0, .ref h0), (1, .int 0)]) hx hb dX11_spreads_15 hl (k := 0) rfl (by decide) (by decide) rfl (fun ls hl => ?_)
  refine lv_goto (tgt := 2) hx hb dX11_spreads_18 (by decide) ?_
  refine lv_iload_n hx hb dX11_spreads_2 rfl (lv_at hl 0 rfl) ?_
  refine lv_bipush (v := 8) hx hb dX11_spreads_3 (by decide) ?_
  refine F_icmp_ge hx hb 21 dX11_spreads_5 (by decide) (by decide) ?_
  refine lv_aload_n hx hb dX11_spreads_8 rfl (lv_at hl 1 rfl) ?_
  refine va_get (D := D) (ci := 10) (v := .ref h1) (C := RX11) (T := TX11) (N := 43) hx hb hts i_X11 hown hK hP 0 rfl rfl 25 (by decide) (hts _ kw_1228) (fun _ h9 => h9) rfl dX11_spreads_9 ?_
  refine lv_iload_n hx hb dX11_spreads_12 rfl (lv_at hl 0 rfl) ?_
  refine lv_iconst (v := (-1)) hx hb dX11_spreads_13 (by decide) ?_
  refine va_iast hx hb hK hP hD hS 1 0 rfl rfl (vpi (by decide)) dX11_spreads_14 (fun H locs hP hD hS => ?_)
  have hP : va_P D vwCl [(h0, .inr (10, (.ref h3 :: .int 0 :: .int 0 :: .ref h4 :: .ref h5 :: .ref h6 :: .ref h7 :: .int 0 :: .int 0 :: .ref h8 :: .ref h9 :: .int 0 :: .int 0 :: .int 0 :: .int 0 :: .int 0 :: .int 0 :: .int 0 :: .ref h10 :: .int 0 :: .ref h11 :: .int 0 :: .ref h12 :: .ref h2 :: .ref h13 :: .ref h1 :: .ref h14 :: .ref h15 :: .ref h16 :: .int 0 :: .ref h17 :: .int 0 :: .ref h18 :: .int 0 :: .int 0 :: .int 0 :: .ref h19 :: .ref h20 :: .ref h21 :: .ref h22 :: .int 0 :: .ref h23 :: .ref h24 :: []))), (h1, .inl (c 0, 8, .inl (upd (upd (upd (upd (upd (upd (upd (fun _ => 0) (Int32.toNatClampNeg 0) (-1)) (Int32.toNatClampNeg 1) (-1)) (Int32.toNatClampNeg 2) (-1)) (Int32.toNatClampNeg 3) (-1)) (Int32.toNatClampNeg 4) (-1)) (Int32.toNatClampNeg 5) (-1)) (Int32.toNatClampNeg 6) (-1)))), (h2, .inl (c 0, 202, .inl (fun _ => 0)))] H := hP
  have hD : va_D A [(h0, .inr (10, (.ref h3 :: .int 0 :: .int 0 :: .ref h4 :: .ref h5 :: .ref h6 :: .ref h7 :: .int 0 :: .int 0 :: .ref h8 :: .ref h9 :: .int 0 :: .int 0 :: .int 0 :: .int 0 :: .int 0 :: .int 0 :: .int 0 :: .ref h10 :: .int 0 :: .ref h11 :: .int 0 :: .ref h12 :: .ref h2 :: .ref h13 :: .ref h1 :: .ref h14 :: .ref h15 :: .ref h16 :: .int 0 :: .ref h17 :: .int 0 :: .ref h18 :: .int 0 :: .int 0 :: .int 0 :: .ref h19 :: .ref h20 :: .ref h21 :: .ref h22 :: .int 0 :: .ref h23 :: .ref h24 :: []))), (h1, .inl (c 0, 8, .inl (upd (upd (upd (upd (upd (upd (upd (fun _ => 0) (Int32.toNatClampNeg 0) (-1)) (Int32.toNatClampNeg 1) (-1)) (Int32.toNatClampNeg 2) (-1)) (Int32.toNatClampNeg 3) (-1)) (Int32.toNatClampNeg 4) (-1)) (Int32.toNatClampNeg 5) (-1)) (Int32.toNatClampNeg 6) (-1)))), (h2, .inl (c 0, 202, .inl (fun _ => 0)))] := hD
  refine lv_iinc (v := 7) (lv' := [(2, .int 7), (0, .ref h0), (1, .int 0)]) hx hb dX11_spreads_15 hl (k := 0) rfl (by decide) (by decide) rfl (fun ls hl => ?_)
  refine lv_goto (tgt := 2) hx hb dX11_spreads_18 (by decide) ?_
  refine lv_iload_n hx hb dX11_spreads_2 rfl (lv_at hl 0 rfl) ?_
  refine lv_bipush (v := 8) hx hb dX11_spreads_3 (by decide) ?_
  refine F_icmp_ge hx hb 21 dX11_spreads_5 (by decide) (by decide) ?_
  refine lv_aload_n hx hb dX11_spreads_8 rfl (lv_at hl 1 rfl) ?_
  refine va_get (D := D) (ci := 10) (v := .ref h1) (C := RX11) (T := TX11) (N := 43) hx hb hts i_X11 hown hK hP 0 rfl rfl 25 (by decide) (hts _ kw_1228) (fun _ h9 => h9) rfl dX11_spreads_9 ?_
  refine lv_iload_n hx hb dX11_spreads_12 rfl (lv_at hl 0 rfl) ?_
  refine lv_iconst (v := (-1)) hx hb dX11_spreads_13 (by decide) ?_
  refine va_iast hx hb hK hP hD hS 1 0 rfl rfl (vpi (by decide)) dX11_spreads_14 (fun H locs hP hD hS => ?_)
  have hP : va_P D vwCl [(h0, .inr (10, (.ref h3 :: .int 0 :: .int 0 :: .ref h4 :: .ref h5 :: .ref h6 :: .ref h7 :: .int 0 :: .int 0 :: .ref h8 :: .ref h9 :: .int 0 :: .int 0 :: .int 0 :: .int 0 :: .int 0 :: .int 0 :: .int 0 :: .ref h10 :: .int 0 :: .ref h11 :: .int 0 :: .ref h12 :: .ref h2 :: .ref h13 :: .ref h1 :: .ref h14 :: .ref h15 :: .ref h16 :: .int 0 :: .ref h17 :: .int 0 :: .ref h18 :: .int 0 :: .int 0 :: .int 0 :: .ref h19 :: .ref h20 :: .ref h21 :: .ref h22 :: .int 0 :: .ref h23 :: .ref h24 :: []))), (h1, .inl (c 0, 8, .inl (upd (upd (upd (upd (upd (upd (upd (upd (fun _ => 0) (Int32.toNatClampNeg 0) (-1)) (Int32.toNatClampNeg 1) (-1)) (Int32.toNatClampNeg 2) (-1)) (Int32.toNatClampNeg 3) (-1)) (Int32.toNatClampNeg 4) (-1)) (Int32.toNatClampNeg 5) (-1)) (Int32.toNatClampNeg 6) (-1)) (Int32.toNatClampNeg 7) (-1)))), (h2, .inl (c 0, 202, .inl (fun _ => 0)))] H := hP
  have hD : va_D A [(h0, .inr (10, (.ref h3 :: .int 0 :: .int 0 :: .ref h4 :: .ref h5 :: .ref h6 :: .ref h7 :: .int 0 :: .int 0 :: .ref h8 :: .ref h9 :: .int 0 :: .int 0 :: .int 0 :: .int 0 :: .int 0 :: .int 0 :: .int 0 :: .ref h10 :: .int 0 :: .ref h11 :: .int 0 :: .ref h12 :: .ref h2 :: .ref h13 :: .ref h1 :: .ref h14 :: .ref h15 :: .ref h16 :: .int 0 :: .ref h17 :: .int 0 :: .ref h18 :: .int 0 :: .int 0 :: .int 0 :: .ref h19 :: .ref h20 :: .ref h21 :: .ref h22 :: .int 0 :: .ref h23 :: .ref h24 :: []))), (h1, .inl (c 0, 8, .inl (upd (upd (upd (upd (upd (upd (upd (upd (fun _ => 0) (Int32.toNatClampNeg 0) (-1)) (Int32.toNatClampNeg 1) (-1)) (Int32.toNatClampNeg 2) (-1)) (Int32.toNatClampNeg 3) (-1)) (Int32.toNatClampNeg 4) (-1)) (Int32.toNatClampNeg 5) (-1)) (Int32.toNatClampNeg 6) (-1)) (Int32.toNatClampNeg 7) (-1)))), (h2, .inl (c 0, 202, .inl (fun _ => 0)))] := hD
  refine lv_iinc (v := 8) (lv' := [(2, .int 8), (0, .ref h0), (1, .int 0)]) hx hb dX11_spreads_15 hl (k := 0) rfl (by decide) (by decide) rfl (fun ls hl => ?_)
  refine lv_goto (tgt := 2) hx hb dX11_spreads_18 (by decide) ?_
  refine lv_iload_n hx hb dX11_spreads_2 rfl (lv_at hl 0 rfl) ?_
  refine lv_bipush (v := 8) hx hb dX11_spreads_3 (by decide) ?_
  refine T_icmp_ge (tgt := 21) hx hb dX11_spreads_5 (by decide) (by decide) ?_
  refine lv_aload_n hx hb dX11_spreads_21 rfl (lv_at hl 1 rfl) ?_
  refine va_get (D := D) (ci := 10) (v := .ref h1) (C := RX11) (T := TX11) (N := 43) hx hb hts i_X11 hown hK hP 0 rfl rfl 25 (by decide) (hts _ kw_1228) (fun _ h9 => h9) rfl dX11_spreads_22 ?_
  refine lv_iload_n hx hb dX11_spreads_25 rfl (lv_at hl 2 rfl) ?_
  refine lv_iconst (v := 0) hx hb dX11_spreads_26 (by decide) ?_
  refine va_iast hx hb hK hP hD hS 1 0 rfl rfl (vpi (by decide)) dX11_spreads_27 (fun H locs hP hD hS => ?_)
  have hP : va_P D vwCl [(h0, .inr (10, (.ref h3 :: .int 0 :: .int 0 :: .ref h4 :: .ref h5 :: .ref h6 :: .ref h7 :: .int 0 :: .int 0 :: .ref h8 :: .ref h9 :: .int 0 :: .int 0 :: .int 0 :: .int 0 :: .int 0 :: .int 0 :: .int 0 :: .ref h10 :: .int 0 :: .ref h11 :: .int 0 :: .ref h12 :: .ref h2 :: .ref h13 :: .ref h1 :: .ref h14 :: .ref h15 :: .ref h16 :: .int 0 :: .ref h17 :: .int 0 :: .ref h18 :: .int 0 :: .int 0 :: .int 0 :: .ref h19 :: .ref h20 :: .ref h21 :: .ref h22 :: .int 0 :: .ref h23 :: .ref h24 :: []))), (h1, .inl (c 0, 8, .inl (upd (upd (upd (upd (upd (upd (upd (upd (upd (fun _ => 0) (Int32.toNatClampNeg 0) (-1)) (Int32.toNatClampNeg 1) (-1)) (Int32.toNatClampNeg 2) (-1)) (Int32.toNatClampNeg 3) (-1)) (Int32.toNatClampNeg 4) (-1)) (Int32.toNatClampNeg 5) (-1)) (Int32.toNatClampNeg 6) (-1)) (Int32.toNatClampNeg 7) (-1)) (Int32.toNatClampNeg 0) 0))), (h2, .inl (c 0, 202, .inl (fun _ => 0)))] H := hP
  have hD : va_D A [(h0, .inr (10, (.ref h3 :: .int 0 :: .int 0 :: .ref h4 :: .ref h5 :: .ref h6 :: .ref h7 :: .int 0 :: .int 0 :: .ref h8 :: .ref h9 :: .int 0 :: .int 0 :: .int 0 :: .int 0 :: .int 0 :: .int 0 :: .int 0 :: .ref h10 :: .int 0 :: .ref h11 :: .int 0 :: .ref h12 :: .ref h2 :: .ref h13 :: .ref h1 :: .ref h14 :: .ref h15 :: .ref h16 :: .int 0 :: .ref h17 :: .int 0 :: .ref h18 :: .int 0 :: .int 0 :: .int 0 :: .ref h19 :: .ref h20 :: .ref h21 :: .ref h22 :: .int 0 :: .ref h23 :: .ref h24 :: []))), (h1, .inl (c 0, 8, .inl (upd (upd (upd (upd (upd (upd (upd (upd (upd (fun _ => 0) (Int32.toNatClampNeg 0) (-1)) (Int32.toNatClampNeg 1) (-1)) (Int32.toNatClampNeg 2) (-1)) (Int32.toNatClampNeg 3) (-1)) (Int32.toNatClampNeg 4) (-1)) (Int32.toNatClampNeg 5) (-1)) (Int32.toNatClampNeg 6) (-1)) (Int32.toNatClampNeg 7) (-1)) (Int32.toNatClampNeg 0) 0))), (h2, .inl (c 0, 202, .inl (fun _ => 0)))] := hD
  refine lv_iconst (v := 1) hx hb dX11_spreads_28 (by decide) ?_
  refine lv_istore_n (lv' := [(2, .int 1), (0, .ref h0), (1, .int 0)]) hx hb dX11_spreads_29 rfl hl (by decide) rfl (fun ls hl => ?_)
  refine lv_iload_n hx hb dX11_spreads_30 rfl (lv_at hl 0 rfl) ?_
  refine F_if_eq hx hb 145 dX11_spreads_31 (by decide) (by decide) ?_
  refine lv_iconst (v := 0) hx hb dX11_spreads_34 (by decide) ?_
  refine lv_istore_n (lv' := [(2, .int 0), (0, .ref h0), (1, .int 0)]) hx hb dX11_spreads_35 rfl hl (by decide) rfl (fun ls hl => ?_)
  refine lv_iconst (v := 0) hx hb dX11_spreads_36 (by decide) ?_
  refine lv_istore_n (lv' := [(3, .int 0), (2, .int 0), (0, .ref h0), (1, .int 0)]) hx hb dX11_spreads_37 rfl hl (by decide) rfl (fun ls hl => ?_)
  refine lv_iload_n hx hb dX11_spreads_38 rfl (lv_at hl 0 rfl) ?_
  refine lv_aload_n hx hb dX11_spreads_39 rfl (lv_at hl 2 rfl) ?_
  refine va_get (D := D) (ci := 10) (v := .ref h2) (C := RX11) (T := TX11) (N := 43) hx hb hts i_X11 hown hK hP 0 rfl rfl 23 (by decide) (hts _ kw_1226) (fun _ h9 => h9) rfl dX11_spreads_40 ?_
  refine lv_iconst (v := 0) hx hb dX11_spreads_43 (by decide) ?_
  refine va_iald hx hb hK hP 2 0 rfl rfl (vpi (by decide)) dX11_spreads_44 ?_
  refine tpi 0 (by first | rfl | decide) ?_
  refine T_icmp_ge (tgt := 142) hx hb dX11_spreads_45 (by decide) (by decide) ?_
  refine lv_goto (tgt := 30) hx hb dX11_spreads_142 (by decide) ?_
  refine lv_iload_n hx hb dX11_spreads_30 rfl (lv_at hl 1 rfl) ?_
  refine T_if_eq (tgt := 145) hx hb dX11_spreads_31 (by decide) (by decide) ?_
  exact retV hx hb hr hlocks hS (by decide) (by decide) dX11_spreads_145 (fun t ht => ⟨by rw [ht]; exact hP, hD⟩)
set_option maxHeartbeats 4000000 in
set_option maxRecDepth 100000 in
theorem m107_X11_place (l : Launch) (D : va_G) (c : Nat → ClassId) (h0 h1 h2 h3 h4 h5 h6 h7 h8 h9 h10 h11 h12 h13 h14 h15 h16 h17 h18 h19 h20 h21 h22 h23 h24 : Nat) (sz : Nat) : Met l yX11_place (Cond.code yX11_place cX11_place 5 (some .int) :: TB) ({ frames := 1, cells := 0, slots := 0, locals := 25 } : Room) (va_Pc [.ref h0, .int 0, .int 4] (PW D c [(h0, .inr (10, (.ref h3 :: .int 0 :: .int 0 :: .ref h4 :: .ref h5 :: .ref h6 :: .ref h7 :: .int 0 :: .int 0 :: .ref h8 :: .ref h9 :: .int 0 :: .int 0 :: .int 0 :: .int 0 :: .int 0 :: .int 0 :: .int 0 :: .ref h10 :: .int 0 :: .ref h11 :: .int 0 :: .ref h12 :: .ref h2 :: .ref h13 :: .ref h1 :: .ref h14 :: .ref h15 :: .ref h16 :: .int 0 :: .ref h17 :: .int 0 :: .ref h18 :: .int 0 :: .int 0 :: .int 0 :: .ref h19 :: .ref h20 :: .ref h21 :: .ref h22 :: .int 0 :: .ref h23 :: .ref h24 :: []))), (h1, .inl (c 0, 8, .inl (fun _ => 0))), (h2, .inl (c 0, 202, .inl (fun _ => 0)))] sz)) ((QI 1 (fun A t => va_P D vwCl [(h0, .inr (10, (.ref h3 :: .int 0 :: .int 0 :: .ref h4 :: .ref h5 :: .ref h6 :: .ref h7 :: .int 0 :: .int 0 :: .ref h8 :: .ref h9 :: .int 0 :: .int 0 :: .int 0 :: .int 0 :: .int 0 :: .int 0 :: .int 0 :: .ref h10 :: .int 0 :: .ref h11 :: .int 0 :: .ref h12 :: .ref h2 :: .ref h13 :: .ref h1 :: .ref h14 :: .ref h15 :: .ref h16 :: .int 0 :: .ref h17 :: .int 0 :: .ref h18 :: .int 0 :: .int 0 :: .int 0 :: .ref h19 :: .ref h20 :: .ref h21 :: .ref h22 :: .int 0 :: .ref h23 :: .ref h24 :: []))), (h1, .inl (c 0, 8, .inl (upd (upd (upd (upd (upd (upd (upd (upd (upd (fun _ => 0) (Int32.toNatClampNeg 0) (-1)) (Int32.toNatClampNeg 1) (-1)) (Int32.toNatClampNeg 2) (-1)) (Int32.toNatClampNeg 3) (-1)) (Int32.toNatClampNeg 4) (-1)) (Int32.toNatClampNeg 5) (-1)) (Int32.toNatClampNeg 6) (-1)) (Int32.toNatClampNeg 7) (-1)) (Int32.toNatClampNeg 0) 0))), (h2, .inl (c 0, 202, .inl (fun _ => 0)))] t.heap ∧ va_D A [(h0, .inr (10, (.ref h3 :: .int 0 :: .int 0 :: .ref h4 :: .ref h5 :: .ref h6 :: .ref h7 :: .int 0 :: .int 0 :: .ref h8 :: .ref h9 :: .int 0 :: .int 0 :: .int 0 :: .int 0 :: .int 0 :: .int 0 :: .int 0 :: .ref h10 :: .int 0 :: .ref h11 :: .int 0 :: .ref h12 :: .ref h2 :: .ref h13 :: .ref h1 :: .ref h14 :: .ref h15 :: .ref h16 :: .int 0 :: .ref h17 :: .int 0 :: .ref h18 :: .int 0 :: .int 0 :: .int 0 :: .ref h19 :: .ref h20 :: .ref h21 :: .ref h22 :: .int 0 :: .ref h23 :: .ref h24 :: []))), (h1, .inl (c 0, 8, .inl (upd (upd (upd (upd (upd (upd (upd (upd (upd (fun _ => 0) (Int32.toNatClampNeg 0) (-1)) (Int32.toNatClampNeg 1) (-1)) (Int32.toNatClampNeg 2) (-1)) (Int32.toNatClampNeg 3) (-1)) (Int32.toNatClampNeg 4) (-1)) (Int32.toNatClampNeg 5) (-1)) (Int32.toNatClampNeg 6) (-1)) (Int32.toNatClampNeg 7) (-1)) (Int32.toNatClampNeg 0) 0))), (h2, .inl (c 0, 202, .inl (fun _ => 0)))])) (va_A [(h0, .inr (10, (.ref h3 :: .int 0 :: .int 0 :: .ref h4 :: .ref h5 :: .ref h6 :: .ref h7 :: .int 0 :: .int 0 :: .ref h8 :: .ref h9 :: .int 0 :: .int 0 :: .int 0 :: .int 0 :: .int 0 :: .int 0 :: .int 0 :: .ref h10 :: .int 0 :: .ref h11 :: .int 0 :: .ref h12 :: .ref h2 :: .ref h13 :: .ref h1 :: .ref h14 :: .ref h15 :: .ref h16 :: .int 0 :: .ref h17 :: .int 0 :: .ref h18 :: .int 0 :: .int 0 :: .int 0 :: .ref h19 :: .ref h20 :: .ref h21 :: .ref h22 :: .int 0 :: .ref h23 :: .ref h24 :: []))), (h1, .inl (c 0, 8, .inl (fun _ => 0))), (h2, .inl (c 0, 202, .inl (fun _ => 0)))] sz)) 0 0 (va_A [(h0, .inr (10, (.ref h3 :: .int 0 :: .int 0 :: .ref h4 :: .ref h5 :: .ref h6 :: .ref h7 :: .int 0 :: .int 0 :: .ref h8 :: .ref h9 :: .int 0 :: .int 0 :: .int 0 :: .int 0 :: .int 0 :: .int 0 :: .int 0 :: .ref h10 :: .int 0 :: .ref h11 :: .int 0 :: .ref h12 :: .ref h2 :: .ref h13 :: .ref h1 :: .ref h14 :: .ref h15 :: .ref h16 :: .int 0 :: .ref h17 :: .int 0 :: .ref h18 :: .int 0 :: .int 0 :: .int 0 :: .ref h19 :: .ref h20 :: .ref h21 :: .ref h22 :: .int 0 :: .ref h23 :: .ref h24 :: []))), (h1, .inl (c 0, 8, .inl (fun _ => 0))), (h2, .inl (c 0, 202, .inl (fun _ => 0)))] sz) := by
  refine start (by decide +kernel) (Nat.le_of_ble_eq_true rfl) ?_
  intro p e s m below meth cd A ls hx hb hr hml hts hown hlocks hin hA hS hK hP hD hN hl
  have hown : s.vm.findClass RX11 = some m.cls := hown
  have hl : lv_has ls 5 [(0, .ref h0), (1, .int 0), (2, .int 4)] := hl
  have hP : va_P D vwCl [(h0, .inr (10, (.ref h3 :: .int 0 :: .int 0 :: .ref h4 :: .ref h5 :: .ref h6 :: .ref h7 :: .int 0 :: .int 0 :: .ref h8 :: .ref h9 :: .int 0 :: .int 0 :: .int 0 :: .int 0 :: .int 0 :: .int 0 :: .int 0 :: .ref h10 :: .int 0 :: .ref h11 :: .int 0 :: .ref h12 :: .ref h2 :: .ref h13 :: .ref h1 :: .ref h14 :: .ref h15 :: .ref h16 :: .int 0 :: .ref h17 :: .int 0 :: .ref h18 :: .int 0 :: .int 0 :: .int 0 :: .ref h19 :: .ref h20 :: .ref h21 :: .ref h22 :: .int 0 :: .ref h23 :: .ref h24 :: []))), (h1, .inl (c 0, 8, .inl (fun _ => 0))), (h2, .inl (c 0, 202, .inl (fun _ => 0)))] s.heap := hP
  refine lv_iload_n hx hb dX11_place_0 rfl (lv_at hl 1 rfl) ?_
  refine fin_i (run_S (n := 1) ⟨hx, hb, hml, hown, hts⟩ (m104_X11_isPlace l D c s.heap.size) (hP.sub [] rfl) (hD.sub [] (by decide) rfl) hK hN rfl rfl kw_1521 kw_1522 kw_122 kw_1523 (by decide +kernel) ⟨(Nat.le_of_ble_eq_true rfl), (Nat.le_of_ble_eq_true rfl)⟩ rfl hl.1 rfl (Nat.le_of_ble_eq_true rfl) dX11_place_1 ⟨(Nat.le_of_ble_eq_true rfl), (Nat.le_of_ble_eq_true rfl)⟩) hP hD hS hA [] rfl (fun H locs t hB hj hS => ?_)
  obtain ⟨hP1, hD1⟩ := hB
  obtain ⟨hP, hD⟩ := hj (wr := [(h0, .inr (10, (.ref h3 :: .int 0 :: .int 0 :: .ref h4 :: .ref h5 :: .ref h6 :: .ref h7 :: .int 0 :: .int 0 :: .ref h8 :: .ref h9 :: .int 0 :: .int 0 :: .int 0 :: .int 0 :: .int 0 :: .int 0 :: .int 0 :: .ref h10 :: .int 0 :: .ref h11 :: .int 0 :: .ref h12 :: .ref h2 :: .ref h13 :: .ref h1 :: .ref h14 :: .ref h15 :: .ref h16 :: .int 0 :: .ref h17 :: .int 0 :: .ref h18 :: .int 0 :: .int 0 :: .int 0 :: .ref h19 :: .ref h20 :: .ref h21 :: .ref h22 :: .int 0 :: .ref h23 :: .ref h24 :: []))), (h1, .inl (c 0, 8, .inl (fun _ => 0))), (h2, .inl (c 0, 202, .inl (fun _ => 0)))]) (w1 := []) [0, 1, 2] rfl (by decide) (by decide) hP1 hD1
  have hP : va_P D vwCl [(h0, .inr (10, (.ref h3 :: .int 0 :: .int 0 :: .ref h4 :: .ref h5 :: .ref h6 :: .ref h7 :: .int 0 :: .int 0 :: .ref h8 :: .ref h9 :: .int 0 :: .int 0 :: .int 0 :: .int 0 :: .int 0 :: .int 0 :: .int 0 :: .ref h10 :: .int 0 :: .ref h11 :: .int 0 :: .ref h12 :: .ref h2 :: .ref h13 :: .ref h1 :: .ref h14 :: .ref h15 :: .ref h16 :: .int 0 :: .ref h17 :: .int 0 :: .ref h18 :: .int 0 :: .int 0 :: .int 0 :: .ref h19 :: .ref h20 :: .ref h21 :: .ref h22 :: .int 0 :: .ref h23 :: .ref h24 :: []))), (h1, .inl (c 0, 8, .inl (fun _ => 0))), (h2, .inl (c 0, 202, .inl (fun _ => 0)))] H := hP
  have hD : va_D A [(h0, .inr (10, (.ref h3 :: .int 0 :: .int 0 :: .ref h4 :: .ref h5 :: .ref h6 :: .ref h7 :: .int 0 :: .int 0 :: .ref h8 :: .ref h9 :: .int 0 :: .int 0 :: .int 0 :: .int 0 :: .int 0 :: .int 0 :: .int 0 :: .ref h10 :: .int 0 :: .ref h11 :: .int 0 :: .ref h12 :: .ref h2 :: .ref h13 :: .ref h1 :: .ref h14 :: .ref h15 :: .ref h16 :: .int 0 :: .ref h17 :: .int 0 :: .ref h18 :: .int 0 :: .int 0 :: .int 0 :: .ref h19 :: .ref h20 :: .ref h21 :: .ref h22 :: .int 0 :: .ref h23 :: .ref h24 :: []))), (h1, .inl (c 0, 8, .inl (fun _ => 0))), (h2, .inl (c 0, 202, .inl (fun _ => 0)))] := hD
  refine F_if_eq hx hb 19 dX11_place_4 (by decide) (by decide) ?_
  refine lv_iload_n hx hb dX11_place_7 rfl (lv_at hl 2 rfl) ?_
  refine lv_i2l (v := 4) hx hb dX11_place_8 (by decide) ?_
  refine lv_lconst (v := 0) hx hb dX11_place_9 (by decide) ?_
  refine lv_ldc2 (v := 4) hx hb hown (hts _ kw_1524) dX11_place_10 ?_
  refine fin_i (run_S (n := 3) ⟨hx, hb, hml, hown, hts⟩ (m105_X11_in l D c H.size) (hP.sub [] rfl) (hD.sub [] (by decide) rfl) hK hN rfl rfl kw_1394 kw_1395 kw_122 kw_1396 (by decide +kernel) ⟨(Nat.le_of_ble_eq_true rfl), (Nat.le_of_ble_eq_true rfl)⟩ rfl hl.1 rfl (Nat.le_of_ble_eq_true rfl) dX11_place_13 ⟨(Nat.le_of_ble_eq_true rfl), (Nat.le_of_ble_eq_true rfl)⟩) hP hD hS hA [] rfl (fun H locs t hB hj hS => ?_)
  obtain ⟨hP1, hD1⟩ := hB
  obtain ⟨hP, hD⟩ := hj (wr := [(h0, .inr (10, (.ref h3 :: .int 0 :: .int 0 :: .ref h4 :: .ref h5 :: .ref h6 :: .ref h7 :: .int 0 :: .int 0 :: .ref h8 :: .ref h9 :: .int 0 :: .int 0 :: .int 0 :: .int 0 :: .int 0 :: .int 0 :: .int 0 :: .ref h10 :: .int 0 :: .ref h11 :: .int 0 :: .ref h12 :: .ref h2 :: .ref h13 :: .ref h1 :: .ref h14 :: .ref h15 :: .ref h16 :: .int 0 :: .ref h17 :: .int 0 :: .ref h18 :: .int 0 :: .int 0 :: .int 0 :: .ref h19 :: .ref h20 :: .ref h21 :: .ref h22 :: .int 0 :: .ref h23 :: .ref h24 :: []))), (h1, .inl (c 0, 8, .inl (fun _ => 0))), (h2, .inl (c 0, 202, .inl (fun _ => 0)))]) (w1 := []) [0, 1, 2] rfl (by decide) (by decide) hP1 hD1
  have hP : va_P D vwCl [(h0, .inr (10, (.ref h3 :: .int 0 :: .int 0 :: .ref h4 :: .ref h5 :: .ref h6 :: .ref h7 :: .int 0 :: .int 0 :: .ref h8 :: .ref h9 :: .int 0 :: .int 0 :: .int 0 :: .int 0 :: .int 0 :: .int 0 :: .int 0 :: .ref h10 :: .int 0 :: .ref h11 :: .int 0 :: .ref h12 :: .ref h2 :: .ref h13 :: .ref h1 :: .ref h14 :: .ref h15 :: .ref h16 :: .int 0 :: .ref h17 :: .int 0 :: .ref h18 :: .int 0 :: .int 0 :: .int 0 :: .ref h19 :: .ref h20 :: .ref h21 :: .ref h22 :: .int 0 :: .ref h23 :: .ref h24 :: []))), (h1, .inl (c 0, 8, .inl (fun _ => 0))), (h2, .inl (c 0, 202, .inl (fun _ => 0)))] H := hP
  have hD : va_D A [(h0, .inr (10, (.ref h3 :: .int 0 :: .int 0 :: .ref h4 :: .ref h5 :: .ref h6 :: .ref h7 :: .int 0 :: .int 0 :: .ref h8 :: .ref h9 :: .int 0 :: .int 0 :: .int 0 :: .int 0 :: .int 0 :: .int 0 :: .int 0 :: .ref h10 :: .int 0 :: .ref h11 :: .int 0 :: .ref h12 :: .ref h2 :: .ref h13 :: .ref h1 :: .ref h14 :: .ref h15 :: .ref h16 :: .int 0 :: .ref h17 :: .int 0 :: .ref h18 :: .int 0 :: .int 0 :: .int 0 :: .ref h19 :: .ref h20 :: .ref h21 :: .ref h22 :: .int 0 :: .ref h23 :: .ref h24 :: []))), (h1, .inl (c 0, 8, .inl (fun _ => 0))), (h2, .inl (c 0, 202, .inl (fun _ => 0)))] := hD
  refine T_if_ne (tgt := 22) hx hb dX11_place_16 (by decide) (by decide) ?_
  refine lv_iload_n hx hb dX11_place_22 rfl (lv_at hl 2 rfl) ?_
  refine lv_iconst (v := 2) hx hb dX11_place_23 (by decide) ?_
  refine T_icmp_ge (tgt := 40) hx hb dX11_place_24 (by decide) (by decide) ?_
  refine lv_iload_n hx hb dX11_place_40 rfl (lv_at hl 2 rfl) ?_
  refine lv_iconst (v := 2) hx hb dX11_place_41 (by decide) ?_
  refine T_icmp_ne (tgt := 51) hx hb dX11_place_42 (by decide) (by decide) ?_
  refine lv_iload_n hx hb dX11_place_51 rfl (lv_at hl 2 rfl) ?_
  refine lv_iconst (v := 3) hx hb dX11_place_52 (by decide) ?_
  refine T_icmp_ne (tgt := 75) hx hb dX11_place_53 (by decide) (by decide) ?_
  refine lv_aload_n hx hb dX11_place_75 rfl (lv_at hl 0 rfl) ?_
  refine lv_iload_n hx hb dX11_place_76 rfl (lv_at hl 1 rfl) ?_
  refine fin_v (run_V (n := 1) (ci := 10) ⟨hx, hb, hml, hown, hts⟩ (m106_X11_spreads l D c h0 h1 h2 h3 h4 h5 h6 h7 h8 h9 h10 h11 h12 h13 h14 h15 h16 h17 h18 h19 h20 h21 h22 h23 h24 H.size) (hP.sub [0, 1, 2] rfl) (hD.sub [0, 1, 2] (by decide) rfl) hK hN rfl rfl kw_1533 kw_1535 kw_75 kw_122 kw_1536 ⟨rfl, by decide +kernel⟩ ⟨(Nat.le_of_ble_eq_true rfl), (Nat.le_of_ble_eq_true rfl)⟩ rfl rfl rfl hl.1 rfl (Nat.le_of_ble_eq_true rfl) dX11_place_77 ⟨(Nat.le_of_ble_eq_true rfl), (Nat.le_of_ble_eq_true rfl)⟩) hP hD hS hA [0, 1, 2] rfl (fun H locs t hB hj hS => ?_)
  obtain ⟨hP1, hD1⟩ := hB
  obtain ⟨hP, hD⟩ := hj (wr := []) (w1 := [(h0, .inr (10, (.ref h3 :: .int 0 :: .int 0 :: .ref h4 :: .ref h5 :: .ref h6 :: .ref h7 :: .int 0 :: .int 0 :: .ref h8 :: .ref h9 :: .int 0 :: .int 0 :: .int 0 :: .int 0 :: .int 0 :: .int 0 :: .int 0 :: .ref h10 :: .int 0 :: .ref h11 :: .int 0 :: .ref h12 :: .ref h2 :: .ref h13 :: .ref h1 :: .ref h14 :: .ref h15 :: .ref h16 :: .int 0 :: .ref h17 :: .int 0 :: .ref h18 :: .int 0 :: .int 0 :: .int 0 :: .ref h19 :: .ref h20 :: .ref h21 :: .ref h22 :: .int 0 :: .ref h23 :: .ref h24 :: []))), (h1, .inl (c 0, 8, .inl (upd (upd (upd (upd (upd (upd (upd (upd (upd (fun _ => 0) (Int32.toNatClampNeg 0) (-1)) (Int32.toNatClampNeg 1) (-1)) (Int32.toNatClampNeg 2) (-1)) (Int32.toNatClampNeg 3) (-1)) (Int32.toNatClampNeg 4) (-1)) (Int32.toNatClampNeg 5) (-1)) (Int32.toNatClampNeg 6) (-1)) (Int32.toNatClampNeg 7) (-1)) (Int32.toNatClampNeg 0) 0))), (h2, .inl (c 0, 202, .inl (fun _ => 0)))]) [] rfl (by decide) (by decide) hP1 hD1
  have hP : va_P D vwCl [(h0, .inr (10, (.ref h3 :: .int 0 :: .int 0 :: .ref h4 :: .ref h5 :: .ref h6 :: .ref h7 :: .int 0 :: .int 0 :: .ref h8 :: .ref h9 :: .int 0 :: .int 0 :: .int 0 :: .int 0 :: .int 0 :: .int 0 :: .int 0 :: .ref h10 :: .int 0 :: .ref h11 :: .int 0 :: .ref h12 :: .ref h2 :: .ref h13 :: .ref h1 :: .ref h14 :: .ref h15 :: .ref h16 :: .int 0 :: .ref h17 :: .int 0 :: .ref h18 :: .int 0 :: .int 0 :: .int 0 :: .ref h19 :: .ref h20 :: .ref h21 :: .ref h22 :: .int 0 :: .ref h23 :: .ref h24 :: []))), (h1, .inl (c 0, 8, .inl (upd (upd (upd (upd (upd (upd (upd (upd (upd (fun _ => 0) (Int32.toNatClampNeg 0) (-1)) (Int32.toNatClampNeg 1) (-1)) (Int32.toNatClampNeg 2) (-1)) (Int32.toNatClampNeg 3) (-1)) (Int32.toNatClampNeg 4) (-1)) (Int32.toNatClampNeg 5) (-1)) (Int32.toNatClampNeg 6) (-1)) (Int32.toNatClampNeg 7) (-1)) (Int32.toNatClampNeg 0) 0))), (h2, .inl (c 0, 202, .inl (fun _ => 0)))] H := hP
  have hD : va_D A [(h0, .inr (10, (.ref h3 :: .int 0 :: .int 0 :: .ref h4 :: .ref h5 :: .ref h6 :: .ref h7 :: .int 0 :: .int 0 :: .ref h8 :: .ref h9 :: .int 0 :: .int 0 :: .int 0 :: .int 0 :: .int 0 :: .int 0 :: .int 0 :: .ref h10 :: .int 0 :: .ref h11 :: .int 0 :: .ref h12 :: .ref h2 :: .ref h13 :: .ref h1 :: .ref h14 :: .ref h15 :: .ref h16 :: .int 0 :: .ref h17 :: .int 0 :: .ref h18 :: .int 0 :: .int 0 :: .int 0 :: .ref h19 :: .ref h20 :: .ref h21 :: .ref h22 :: .int 0 :: .ref h23 :: .ref h24 :: []))), (h1, .inl (c 0, 8, .inl (upd (upd (upd (upd (upd (upd (upd (upd (upd (fun _ => 0) (Int32.toNatClampNeg 0) (-1)) (Int32.toNatClampNeg 1) (-1)) (Int32.toNatClampNeg 2) (-1)) (Int32.toNatClampNeg 3) (-1)) (Int32.toNatClampNeg 4) (-1)) (Int32.toNatClampNeg 5) (-1)) (Int32.toNatClampNeg 6) (-1)) (Int32.toNatClampNeg 7) (-1)) (Int32.toNatClampNeg 0) 0))), (h2, .inl (c 0, 202, .inl (fun _ => 0)))] := hD
  refine lv_iconst (v := 0) hx hb dX11_place_80 (by decide) ?_
  refine lv_istore_n (lv' := [(3, .int 0), (0, .ref h0), (1, .int 0), (2, .int 4)]) hx hb dX11_place_81 rfl hl (by decide) rfl (fun ls hl => ?_)
  refine lv_iconst (v := 0) hx hb dX11_place_82 (by decide) ?_
  refine lv_istore (lv' := [(4, .int 0), (3, .int 0), (0, .ref h0), (1, .int 0), (2, .int 4)]) hx hb dX11_place_83 hl (by decide) rfl (fun ls hl => ?_)
  refine lv_iload hx hb dX11_place_85 (lv_at hl 0 rfl) ?_
  refine lv_bipush (v := 8) hx hb dX11_place_87 (by decide) ?_
  refine F_icmp_ge hx hb 119 dX11_place_89 (by decide) (by decide) ?_
  refine lv_iload_n hx hb dX11_place_92 rfl (lv_at hl 1 rfl) ?_
  refine lv_aload_n hx hb dX11_place_93 rfl (lv_at hl 2 rfl) ?_
  refine va_get (D := D) (ci := 10) (v := .ref h1) (C := RX11) (T := TX11) (N := 43) hx hb hts i_X11 hown hK hP 0 rfl rfl 25 (by decide) (hts _ kw_1228) (fun _ h9 => h9) rfl dX11_place_94 ?_
  refine lv_iload hx hb dX11_place_97 (lv_at hl 0 rfl) ?_
  refine va_iald hx hb hK hP 1 0 rfl rfl (vpi (by decide)) dX11_place_99 ?_
  refine tpi 0 (by first | rfl | decide) ?_
  refine F_if_lt hx hb 110 dX11_place_100 (by decide) (by decide) ?_
  refine lv_iconst (v := 1) hx hb dX11_place_103 (by decide) ?_
  refine lv_iload hx hb dX11_place_104 (lv_at hl 0 rfl) ?_
  refine lv_ishl hx hb dX11_place_106 ?_
  refine tpi 1 (by decide) ?_
  refine lv_goto (tgt := 111) hx hb dX11_place_107 (by decide) ?_
  refine lv_ior hx hb dX11_place_111 ?_
  refine tpi 1 (by decide) ?_
  refine lv_istore_n (lv' := [(3, .int 1), (4, .int 0), (0, .ref h0), (1, .int 0), (2, .int 4)]) hx hb dX11_place_112 rfl hl (by decide) rfl (fun ls hl => ?_)
  refine lv_iinc (v := 1) (lv' := [(4, .int 1), (3, .int 1), (0, .ref h0), (1, .int 0), (2, .int 4)]) hx hb dX11_place_113 hl (k := 1) rfl (by decide) (by decide) rfl (fun ls hl => ?_)
  refine lv_goto (tgt := 85) hx hb dX11_place_116 (by decide) ?_
  refine lv_iload hx hb dX11_place_85 (lv_at hl 0 rfl) ?_
  refine lv_bipush (v := 8) hx hb dX11_place_87 (by decide) ?_
  refine F_icmp_ge hx hb 119 dX11_place_89 (by decide) (by decide) ?_
  refine lv_iload_n hx hb dX11_place_92 rfl (lv_at hl 1 rfl) ?_
  refine lv_aload_n hx hb dX11_place_93 rfl (lv_at hl 2 rfl) ?_
  refine va_get (D := D) (ci := 10) (v := .ref h1) (C := RX11) (T := TX11) (N := 43) hx hb hts i_X11 hown hK hP 0 rfl rfl 25 (by decide) (hts _ kw_1228) (fun _ h9 => h9) rfl dX11_place_94 ?_
  refine lv_iload hx hb dX11_place_97 (lv_at hl 0 rfl) ?_
  refine va_iald hx hb hK hP 1 0 rfl rfl (vpi (by decide)) dX11_place_99 ?_
  refine tpi (-1) (by first | rfl | decide) ?_
  refine T_if_lt (tgt := 110) hx hb dX11_place_100 (by decide) (by decide) ?_
  refine lv_iconst (v := 0) hx hb dX11_place_110 (by decide) ?_
  refine lv_ior hx hb dX11_place_111 ?_
  refine tpi 1 (by decide) ?_
  refine lv_istore_n (lv' := [(3, .int 1), (4, .int 1), (0, .ref h0), (1, .int 0), (2, .int 4)]) hx hb dX11_place_112 rfl hl (by decide) rfl (fun ls hl => ?_)
  refine lv_iinc (v := 2) (lv' := [(4, .int 2), (3, .int 1), (0, .ref h0), (1, .int 0), (2, .int 4)]) hx hb dX11_place_113 hl (k := 1) rfl (by decide) (by decide) rfl (fun ls hl => ?_)
  refine lv_goto (tgt := 85) hx hb dX11_place_116 (by decide) ?_
  refine lv_iload hx hb dX11_place_85 (lv_at hl 0 rfl) ?_
  refine lv_bipush (v := 8) hx hb dX11_place_87 (by decide) ?_
  refine F_icmp_ge hx hb 119 dX11_place_89 (by decide) (by decide) ?_
  refine lv_iload_n hx hb dX11_place_92 rfl (lv_at hl 1 rfl) ?_
  refine lv_aload_n hx hb dX11_place_93 rfl (lv_at hl 2 rfl) ?_
  refine va_get (D := D) (ci := 10) (v := .ref h1) (C := RX11) (T := TX11) (N := 43) hx hb hts i_X11 hown hK hP 0 rfl rfl 25 (by decide) (hts _ kw_1228) (fun _ h9 => h9) rfl dX11_place_94 ?_
  refine lv_iload hx hb dX11_place_97 (lv_at hl 0 rfl) ?_
  refine va_iald hx hb hK hP 1 0 rfl rfl (vpi (by decide)) dX11_place_99 ?_
  refine tpi (-1) (by first | rfl | decide) ?_
  refine T_if_lt (tgt := 110) hx hb dX11_place_100 (by decide) (by decide) ?_
  refine lv_iconst (v := 0) hx hb dX11_place_110 (by decide) ?_
  refine lv_ior hx hb dX11_place_111 ?_
  refine tpi 1 (by decide) ?_
  refine lv_istore_n (lv' := [(3, .int 1), (4, .int 2), (0, .ref h0), (1, .int 0), (2, .int 4)]) hx hb dX11_place_112 rfl hl (by decide) rfl (fun ls hl => ?_)
  refine lv_iinc (v := 3) (lv' := [(4, .int 3), (3, .int 1), (0, .ref h0), (1, .int 0), (2, .int 4)]) hx hb dX11_place_113 hl (k := 1) rfl (by decide) (by decide) rfl (fun ls hl => ?_)
  refine lv_goto (tgt := 85) hx hb dX11_place_116 (by decide) ?_
  refine lv_iload hx hb dX11_place_85 (lv_at hl 0 rfl) ?_
  refine lv_bipush (v := 8) hx hb dX11_place_87 (by decide) ?_
  refine F_icmp_ge hx hb 119 dX11_place_89 (by decide) (by decide) ?_
  refine lv_iload_n hx hb dX11_place_92 rfl (lv_at hl 1 rfl) ?_
  refine lv_aload_n hx hb dX11_place_93 rfl (lv_at hl 2 rfl) ?_
  refine va_get (D := D) (ci := 10) (v := .ref h1) (C := RX11) (T := TX11) (N := 43) hx hb hts i_X11 hown hK hP 0 rfl rfl 25 (by decide) (hts _ kw_1228) (fun _ h9 => h9) rfl dX11_place_94 ?_
  refine lv_iload hx hb dX11_place_97 (lv_at hl 0 rfl) ?_
  refine va_iald hx hb hK hP 1 0 rfl rfl (vpi (by decide)) dX11_place_99 ?_
  refine tpi (-1) (by first | rfl | decide) ?_
  refine T_if_lt (tgt := 110) hx hb dX11_place_100 (by decide) (by decide) ?_
  refine lv_iconst (v := 0) hx hb dX11_place_110 (by decide) ?_
  refine lv_ior hx hb dX11_place_111 ?_
  refine tpi 1 (by decide) ?_
  refine lv_istore_n (lv' := [(3, .int 1), (4, .int 3), (0, .ref h0), (1, .int 0), (2, .int 4)]) hx hb dX11_place_112 rfl hl (by decide) rfl (fun ls hl => ?_)
  refine lv_iinc (v := 4) (lv' := [(4, .int 4), (3, .int 1), (0, .ref h0), (1, .int 0), (2, .int 4)]) hx hb dX11_place_113 hl (k := 1) rfl (by decide) (by decide) rfl (fun ls hl => ?_)
  refine lv_goto (tgt := 85) hx hb dX11_place_116 (by decide) ?_
  refine lv_iload hx hb dX11_place_85 (lv_at hl 0 rfl) ?_
  refine lv_bipush (v := 8) hx hb dX11_place_87 (by decide) ?_
  refine F_icmp_ge hx hb 119 dX11_place_89 (by decide) (by decide) ?_
  refine lv_iload_n hx hb dX11_place_92 rfl (lv_at hl 1 rfl) ?_
  refine lv_aload_n hx hb dX11_place_93 rfl (lv_at hl 2 rfl) ?_
  refine va_get (D := D) (ci := 10) (v := .ref h1) (C := RX11) (T := TX11) (N := 43) hx hb hts i_X11 hown hK hP 0 rfl rfl 25 (by decide) (hts _ kw_1228) (fun _ h9 => h9) rfl dX11_place_94 ?_
  refine lv_iload hx hb dX11_place_97 (lv_at hl 0 rfl) ?_
  refine va_iald hx hb hK hP 1 0 rfl rfl (vpi (by decide)) dX11_place_99 ?_
  refine tpi (-1) (by first | rfl | decide) ?_
  refine T_if_lt (tgt := 110) hx hb dX11_place_100 (by decide) (by decide) ?_
  refine lv_iconst (v := 0) hx hb dX11_place_110 (by decide) ?_
  refine lv_ior hx hb dX11_place_111 ?_
  refine tpi 1 (by decide) ?_
  refine lv_istore_n (lv' := [(3, .int 1), (4, .int 4), (0, .ref h0), (1, .int 0), (2, .int 4)]) hx hb dX11_place_112 rfl hl (by decide) rfl (fun ls hl => ?_)
  refine lv_iinc (v := 5) (lv' := [(4, .int 5), (3, .int 1), (0, .ref h0), (1, .int 0), (2, .int 4)]) hx hb dX11_place_113 hl (k := 1) rfl (by decide) (by decide) rfl (fun ls hl => ?_)
  refine lv_goto (tgt := 85) hx hb dX11_place_116 (by decide) ?_
  refine lv_iload hx hb dX11_place_85 (lv_at hl 0 rfl) ?_
  refine lv_bipush (v := 8) hx hb dX11_place_87 (by decide) ?_
  refine F_icmp_ge hx hb 119 dX11_place_89 (by decide) (by decide) ?_
  refine lv_iload_n hx hb dX11_place_92 rfl (lv_at hl 1 rfl) ?_
  refine lv_aload_n hx hb dX11_place_93 rfl (lv_at hl 2 rfl) ?_
  refine va_get (D := D) (ci := 10) (v := .ref h1) (C := RX11) (T := TX11) (N := 43) hx hb hts i_X11 hown hK hP 0 rfl rfl 25 (by decide) (hts _ kw_1228) (fun _ h9 => h9) rfl dX11_place_94 ?_
  refine lv_iload hx hb dX11_place_97 (lv_at hl 0 rfl) ?_
  refine va_iald hx hb hK hP 1 0 rfl rfl (vpi (by decide)) dX11_place_99 ?_
  refine tpi (-1) (by first | rfl | decide) ?_
  refine T_if_lt (tgt := 110) hx hb dX11_place_100 (by decide) (by decide) ?_
  refine lv_iconst (v := 0) hx hb dX11_place_110 (by decide) ?_
  refine lv_ior hx hb dX11_place_111 ?_
  refine tpi 1 (by decide) ?_
  refine lv_istore_n (lv' := [(3, .int 1), (4, .int 5), (0, .ref h0), (1, .int 0), (2, .int 4)]) hx hb dX11_place_112 rfl hl (by decide) rfl (fun ls hl => ?_)
  refine lv_iinc (v := 6) (lv' := [(4, .int 6), (3, .int 1), (0, .ref h0), (1, .int 0), (2, .int 4)]) hx hb dX11_place_113 hl (k := 1) rfl (by decide) (by decide) rfl (fun ls hl => ?_)
  refine lv_goto (tgt := 85) hx hb dX11_place_116 (by decide) ?_
  refine lv_iload hx hb dX11_place_85 (lv_at hl 0 rfl) ?_
  refine lv_bipush (v := 8) hx hb dX11_place_87 (by decide) ?_
  refine F_icmp_ge hx hb 119 dX11_place_89 (by decide) (by decide) ?_
  refine lv_iload_n hx hb dX11_place_92 rfl (lv_at hl 1 rfl) ?_
  refine lv_aload_n hx hb dX11_place_93 rfl (lv_at hl 2 rfl) ?_
  refine va_get (D := D) (ci := 10) (v := .ref h1) (C := RX11) (T := TX11) (N := 43) hx hb hts i_X11 hown hK hP 0 rfl rfl 25 (by decide) (hts _ kw_1228) (fun _ h9 => h9) rfl dX11_place_94 ?_
  refine lv_iload hx hb dX11_place_97 (lv_at hl 0 rfl) ?_
  refine va_iald hx hb hK hP 1 0 rfl rfl (vpi (by decide)) dX11_place_99 ?_
  refine tpi (-1) (by first | rfl | decide) ?_
  refine T_if_lt (tgt := 110) hx hb dX11_place_100 (by decide) (by decide) ?_
  refine lv_iconst (v := 0) hx hb dX11_place_110 (by decide) ?_
  refine lv_ior hx hb dX11_place_111 ?_
  refine tpi 1 (by decide) ?_
  refine lv_istore_n (lv' := [(3, .int 1), (4, .int 6), (0, .ref h0), (1, .int 0), (2, .int 4)]) hx hb dX11_place_112 rfl hl (by decide) rfl (fun ls hl => ?_)
  refine lv_iinc (v := 7) (lv' := [(4, .int 7), (3, .int 1), (0, .ref h0), (1, .int 0), (2, .int 4)]) hx hb dX11_place_113 hl (k := 1) rfl (by decide) (by decide) rfl (fun ls hl => ?_)
  refine lv_goto (tgt := 85) hx hb dX11_place_116 (by decide) ?_
  refine lv_iload hx hb dX11_place_85 (lv_at hl 0 rfl) ?_
  refine lv_bipush (v := 8) hx hb dX11_place_87 (by decide) ?_
  refine F_icmp_ge hx hb 119 dX11_place_89 (by decide) (by decide) ?_
  refine lv_iload_n hx hb dX11_place_92 rfl (lv_at hl 1 rfl) ?_
  refine lv_aload_n hx hb dX11_place_93 rfl (lv_at hl 2 rfl) ?_
  refine va_get (D := D) (ci := 10) (v := .ref h1) (C := RX11) (T := TX11) (N := 43) hx hb hts i_X11 hown hK hP 0 rfl rfl 25 (by decide) (hts _ kw_1228) (fun _ h9 => h9) rfl dX11_place_94 ?_
  refine lv_iload hx hb dX11_place_97 (lv_at hl 0 rfl) ?_
  refine va_iald hx hb hK hP 1 0 rfl rfl (vpi (by decide)) dX11_place_99 ?_
  refine tpi (-1) (by first | rfl | decide) ?_
  refine T_if_lt (tgt := 110) hx hb dX11_place_100 (by decide) (by decide) ?_
  refine lv_iconst (v := 0) hx hb dX11_place_110 (by decide) ?_
  refine lv_ior hx hb dX11_place_111 ?_
  refine tpi 1 (by decide) ?_
  refine lv_istore_n (lv' := [(3, .int 1), (4, .int 7), (0, .ref h0), (1, .int 0), (2, .int 4)]) hx hb dX11_place_112 rfl hl (by decide) rfl (fun ls hl => ?_)
  refine lv_iinc (v := 8) (lv' := [(4, .int 8), (3, .int 1), (0, .ref h0), (1, .int 0), (2, .int 4)]) hx hb dX11_place_113 hl (k := 1) rfl (by decide) (by decide) rfl (fun ls hl => ?_)
  refine lv_goto (tgt := 85) hx hb dX11_place_116 (by decide) ?_
  refine lv_iload hx hb dX11_place_85 (lv_at hl 0 rfl) ?_
  refine lv_bipush (v := 8) hx hb dX11_place_87 (by decide) ?_
  refine T_icmp_ge (tgt := 119) hx hb dX11_place_89 (by decide) (by decide) ?_
  refine lv_iload_n hx hb dX11_place_119 rfl (lv_at hl 1 rfl) ?_
  exact retI hx hb hr hlocks rfl hS (by decide) (by decide) dX11_place_120 (fun t ht => ⟨by rw [ht]; exact hP, hD⟩)
set_option maxHeartbeats 4000000 in
set_option maxRecDepth 100000 in
theorem m108_X10_isPlace (l : Launch) (D : va_G) (c : Nat → ClassId) (sz : Nat) : Met l yX10_isPlace (Cond.code yX10_isPlace cX10_isPlace 1 (some .boolean) :: TB) ({ frames := 0, cells := 0, slots := 0, locals := 0 } : Room) (va_Pc [.int 1] (PW D c [] sz)) ((QI 1 (fun A t => va_P D vwCl [] t.heap ∧ va_D A [])) (va_A [] sz)) 0 0 (va_A [] sz) := by
  refine start (by decide +kernel) (Nat.le_of_ble_eq_true rfl) ?_
  intro p e s m below meth cd A ls hx hb hr hml hts hown hlocks hin hA hS hK hP hD hN hl
  have hown : s.vm.findClass RX10 = some m.cls := hown
  have hl : lv_has ls 1 [(0, .int 1)] := hl
  have hP : va_P D vwCl [] s.heap := hP
  refine lv_iload_n hx hb dX10_isPlace_0 rfl (lv_at hl 0 rfl) ?_
  refine F_if_lt hx hb 14 dX10_isPlace_1 (by decide) (by decide) ?_
  refine lv_iload_n hx hb dX10_isPlace_4 rfl (lv_at hl 0 rfl) ?_
  refine lv_bipush (v := 8) hx hb dX10_isPlace_5 (by decide) ?_
  refine F_icmp_ge hx hb 14 dX10_isPlace_7 (by decide) (by decide) ?_
  refine lv_iconst (v := 1) hx hb dX10_isPlace_10 (by decide) ?_
  refine lv_goto (tgt := 15) hx hb dX10_isPlace_11 (by decide) ?_
  exact retI hx hb hr hlocks (by decide) hS (by decide) (by decide) dX10_isPlace_15 (fun t ht => ⟨by rw [ht]; exact hP, hD⟩)
set_option maxHeartbeats 4000000 in
set_option maxRecDepth 100000 in
theorem m109_X4_away (l : Launch) (D : va_G) (c : Nat → ClassId) (h0 h1 h2 h3 h4 h5 h6 h7 : Nat) (sz : Nat) : Met l yX4_away (Cond.code yX4_away cX4_away 2 (some .int) :: TB) ({ frames := 0, cells := 0, slots := 0, locals := 0 } : Room) (va_Pc [.ref h0, .int 1] (PW D c [(h0, .inr (3, [.int 0, .int 0, .ref h3, .ref h4, .ref h5, .ref h6, .ref h7, .ref h1, .ref h2])), (h1, .inl (c 0, 8, .inl (fun _ => 0))), (h2, .inl (c 0, 8, .inl (fun _ => 0)))] sz)) ((QI 0 (fun A t => va_P D vwCl [(h0, .inr (3, [.int 0, .int 0, .ref h3, .ref h4, .ref h5, .ref h6, .ref h7, .ref h1, .ref h2])), (h1, .inl (c 0, 8, .inl (fun _ => 0))), (h2, .inl (c 0, 8, .inl (fun _ => 0)))] t.heap ∧ va_D A [(h0, .inr (3, [.int 0, .int 0, .ref h3, .ref h4, .ref h5, .ref h6, .ref h7, .ref h1, .ref h2])), (h1, .inl (c 0, 8, .inl (fun _ => 0))), (h2, .inl (c 0, 8, .inl (fun _ => 0)))])) (va_A [(h0, .inr (3, [.int 0, .int 0, .ref h3, .ref h4, .ref h5, .ref h6, .ref h7, .ref h1, .ref h2])), (h1, .inl (c 0, 8, .inl (fun _ => 0))), (h2, .inl (c 0, 8, .inl (fun _ => 0)))] sz)) 0 0 (va_A [(h0, .inr (3, [.int 0, .int 0, .ref h3, .ref h4, .ref h5, .ref h6, .ref h7, .ref h1, .ref h2])), (h1, .inl (c 0, 8, .inl (fun _ => 0))), (h2, .inl (c 0, 8, .inl (fun _ => 0)))] sz) := by
  refine start (by decide +kernel) (Nat.le_of_ble_eq_true rfl) ?_
  intro p e s m below meth cd A ls hx hb hr hml hts hown hlocks hin hA hS hK hP hD hN hl
  have hown : s.vm.findClass RX4 = some m.cls := hown
  have hl : lv_has ls 2 [(0, .ref h0), (1, .int 1)] := hl
  have hP : va_P D vwCl [(h0, .inr (3, [.int 0, .int 0, .ref h3, .ref h4, .ref h5, .ref h6, .ref h7, .ref h1, .ref h2])), (h1, .inl (c 0, 8, .inl (fun _ => 0))), (h2, .inl (c 0, 8, .inl (fun _ => 0)))] s.heap := hP
  refine lv_aload_n hx hb dX4_away_0 rfl (lv_at hl 0 rfl) ?_
  refine va_get (D := D) (ci := 3) (v := .ref h1) (C := RX4) (T := TX4) (N := 9) hx hb hts i_X4 hown hK hP 0 rfl rfl 7 (by decide) (hts _ kw_242) (fun _ h9 => h9) rfl dX4_away_1 ?_
  refine lv_iload_n hx hb dX4_away_4 rfl (lv_at hl 1 rfl) ?_
  refine va_iald hx hb hK hP 1 0 rfl rfl (vpi (by decide)) dX4_away_5 ?_
  refine tpi 0 (by first | rfl | decide) ?_
  refine lv_aload_n hx hb dX4_away_6 rfl (lv_at hl 0 rfl) ?_
  refine va_get (D := D) (ci := 3) (v := .int 0) (C := RX4) (T := TX4) (N := 9) hx hb hts i_X4 hown hK hP 0 rfl rfl 1 (by decide) (hts _ kw_218) (fun _ h9 => h9) rfl dX4_away_7 ?_
  refine lv_iconst (v := (-1)) hx hb dX4_away_10 (by decide) ?_
  refine lv_ixor hx hb dX4_away_11 ?_
  refine tpi (-1) (by decide) ?_
  refine lv_iand hx hb dX4_away_12 ?_
  refine tpi 0 (by decide) ?_
  refine lv_aload_n hx hb dX4_away_13 rfl (lv_at hl 0 rfl) ?_
  refine va_get (D := D) (ci := 3) (v := .ref h2) (C := RX4) (T := TX4) (N := 9) hx hb hts i_X4 hown hK hP 0 rfl rfl 8 (by decide) (hts _ kw_245) (fun _ h9 => h9) rfl dX4_away_14 ?_
  refine lv_iload_n hx hb dX4_away_17 rfl (lv_at hl 1 rfl) ?_
  refine va_iald hx hb hK hP 2 0 rfl rfl (vpi (by decide)) dX4_away_18 ?_
  refine tpi 0 (by first | rfl | decide) ?_
  refine lv_aload_n hx hb dX4_away_19 rfl (lv_at hl 0 rfl) ?_
  refine va_get (D := D) (ci := 3) (v := .int 0) (C := RX4) (T := TX4) (N := 9) hx hb hts i_X4 hown hK hP 0 rfl rfl 1 (by decide) (hts _ kw_218) (fun _ h9 => h9) rfl dX4_away_20 ?_
  refine lv_iand hx hb dX4_away_23 ?_
  refine tpi 0 (by decide) ?_
  refine lv_ior hx hb dX4_away_24 ?_
  refine tpi 0 (by decide) ?_
  exact retI hx hb hr hlocks rfl hS (by decide) (by decide) dX4_away_25 (fun t ht => ⟨by rw [ht]; exact hP, hD⟩)
set_option maxHeartbeats 4000000 in
set_option maxRecDepth 100000 in
theorem m110_X4_spread (l : Launch) (D : va_G) (c : Nat → ClassId) (h0 h1 h2 h3 h4 h5 h6 h7 : Nat) (sz : Nat) : Met l yX4_spread (Cond.code yX4_spread cX4_spread 4 (some .int) :: TB) ({ frames := 0, cells := 0, slots := 0, locals := 0 } : Room) (va_Pc [.ref h0, .int 2] (PW D c [(h0, .inr (3, [.int 0, .int 0, .ref h1, .ref h2, .ref h3, .ref h4, .ref h5, .ref h6, .ref h7]))] sz)) ((QI 2 (fun A t => va_P D vwCl [(h0, .inr (3, [.int 0, .int 0, .ref h1, .ref h2, .ref h3, .ref h4, .ref h5, .ref h6, .ref h7]))] t.heap ∧ va_D A [(h0, .inr (3, [.int 0, .int 0, .ref h1, .ref h2, .ref h3, .ref h4, .ref h5, .ref h6, .ref h7]))])) (va_A [(h0, .inr (3, [.int 0, .int 0, .ref h1, .ref h2, .ref h3, .ref h4, .ref h5, .ref h6, .ref h7]))] sz)) 0 0 (va_A [(h0, .inr (3, [.int 0, .int 0, .ref h1, .ref h2, .ref h3, .ref h4, .ref h5, .ref h6, .ref h7]))] sz) := by
  refine start (by decide +kernel) (Nat.le_of_ble_eq_true rfl) ?_
  intro p e s m below meth cd A ls hx hb hr hml hts hown hlocks hin hA hS hK hP hD hN hl
  have hown : s.vm.findClass RX4 = some m.cls := hown
  have hl : lv_has ls 4 [(0, .ref h0), (1, .int 2)] := hl
  have hP : va_P D vwCl [(h0, .inr (3, [.int 0, .int 0, .ref h1, .ref h2, .ref h3, .ref h4, .ref h5, .ref h6, .ref h7]))] s.heap := hP
  refine lv_iload_n hx hb dX4_spread_0 rfl (lv_at hl 1 rfl) ?_
  refine lv_istore_n (lv' := [(2, .int 2), (0, .ref h0), (1, .int 2)]) hx hb dX4_spread_1 rfl hl (by decide) rfl (fun ls hl => ?_)
  refine lv_iconst (v := 0) hx hb dX4_spread_2 (by decide) ?_
  refine lv_istore_n (lv' := [(3, .int 0), (2, .int 2), (0, .ref h0), (1, .int 2)]) hx hb dX4_spread_3 rfl hl (by decide) rfl (fun ls hl => ?_)
  refine lv_iload_n hx hb dX4_spread_4 rfl (lv_at hl 0 rfl) ?_
  refine lv_aload_n hx hb dX4_spread_5 rfl (lv_at hl 2 rfl) ?_
  refine va_get (D := D) (ci := 3) (v := .int 0) (C := RX4) (T := TX4) (N := 9) hx hb hts i_X4 hown hK hP 0 rfl rfl 0 (by decide) (hts _ kw_212) (fun _ h9 => h9) rfl dX4_spread_6 ?_
  refine T_icmp_ge (tgt := 40) hx hb dX4_spread_9 (by decide) (by decide) ?_
  refine lv_iload_n hx hb dX4_spread_40 rfl (lv_at hl 1 rfl) ?_
  exact retI hx hb hr hlocks rfl hS (by decide) (by decide) dX4_spread_41 (fun t ht => ⟨by rw [ht]; exact hP, hD⟩)
set_option maxHeartbeats 4000000 in
set_option maxRecDepth 100000 in
theorem m111_X4_reach (l : Launch) (D : va_G) (c : Nat → ClassId) (h0 h1 h2 h3 h4 h5 h6 h7 : Nat) (sz : Nat) : Met l yX4_reach (Cond.code yX4_reach cX4_reach 4 (some .int) :: TB) ({ frames := 1, cells := 0, slots := 0, locals := 23 } : Room) (va_Pc [.ref h0, .int 1] (PW D c [(h0, .inr (3, [.int 0, .int 0, .ref h1, .ref h2, .ref h3, .ref h4, .ref h5, .ref h6, .ref h7]))] sz)) ((QI 2 (fun A t => va_P D vwCl [(h0, .inr (3, [.int 0, .int 0, .ref h1, .ref h2, .ref h3, .ref h4, .ref h5, .ref h6, .ref h7]))] t.heap ∧ va_D A [(h0, .inr (3, [.int 0, .int 0, .ref h1, .ref h2, .ref h3, .ref h4, .ref h5, .ref h6, .ref h7]))])) (va_A [(h0, .inr (3, [.int 0, .int 0, .ref h1, .ref h2, .ref h3, .ref h4, .ref h5, .ref h6, .ref h7]))] sz)) 0 0 (va_A [(h0, .inr (3, [.int 0, .int 0, .ref h1, .ref h2, .ref h3, .ref h4, .ref h5, .ref h6, .ref h7]))] sz) := by
  refine start (by decide +kernel) (Nat.le_of_ble_eq_true rfl) ?_
  intro p e s m below meth cd A ls hx hb hr hml hts hown hlocks hin hA hS hK hP hD hN hl
  have hown : s.vm.findClass RX4 = some m.cls := hown
  have hl : lv_has ls 4 [(0, .ref h0), (1, .int 1)] := hl
  have hP : va_P D vwCl [(h0, .inr (3, [.int 0, .int 0, .ref h1, .ref h2, .ref h3, .ref h4, .ref h5, .ref h6, .ref h7]))] s.heap := hP
  refine lv_iconst (v := 1) hx hb dX4_reach_0 (by decide) ?_
  refine lv_iload_n hx hb dX4_reach_1 rfl (lv_at hl 1 rfl) ?_
  refine lv_ishl hx hb dX4_reach_2 ?_
  refine tpi 2 (by decide) ?_
  refine lv_istore_n (lv' := [(2, .int 2), (0, .ref h0), (1, .int 1)]) hx hb dX4_reach_3 rfl hl (by decide) rfl (fun ls hl => ?_)
  refine lv_iconst (v := 1) hx hb dX4_reach_4 (by decide) ?_
  refine lv_istore_n (lv' := [(3, .int 1), (2, .int 2), (0, .ref h0), (1, .int 1)]) hx hb dX4_reach_5 rfl hl (by decide) rfl (fun ls hl => ?_)
  refine lv_iload_n hx hb dX4_reach_6 rfl (lv_at hl 0 rfl) ?_
  refine lv_bipush (v := 8) hx hb dX4_reach_7 (by decide) ?_
  refine F_icmp_ge hx hb 24 dX4_reach_9 (by decide) (by decide) ?_
  refine lv_aload_n hx hb dX4_reach_12 rfl (lv_at hl 2 rfl) ?_
  refine lv_iload_n hx hb dX4_reach_13 rfl (lv_at hl 1 rfl) ?_
  refine fin_i (run_V (n := 1) (ci := 3) ⟨hx, hb, hml, hown, hts⟩ (m110_X4_spread l D c h0 h1 h2 h3 h4 h5 h6 h7 s.heap.size) (hP.sub [0] rfl) (hD.sub [0] (by decide) rfl) hK hN rfl rfl kw_761 kw_763 kw_8 kw_117 kw_764 ⟨rfl, by decide +kernel⟩ ⟨(Nat.le_of_ble_eq_true rfl), (Nat.le_of_ble_eq_true rfl)⟩ rfl rfl rfl hl.1 rfl (Nat.le_of_ble_eq_true rfl) dX4_reach_14 ⟨(Nat.le_of_ble_eq_true rfl), (Nat.le_of_ble_eq_true rfl)⟩) hP hD hS hA [0] rfl (fun H locs t hB hj hS => ?_)
  obtain ⟨hP1, hD1⟩ := hB
  obtain ⟨hP, hD⟩ := hj (wr := []) (w1 := [(h0, .inr (3, [.int 0, .int 0, .ref h1, .ref h2, .ref h3, .ref h4, .ref h5, .ref h6, .ref h7]))]) [] rfl (by decide) (by decide) hP1 hD1
  have hP : va_P D vwCl [(h0, .inr (3, [.int 0, .int 0, .ref h1, .ref h2, .ref h3, .ref h4, .ref h5, .ref h6, .ref h7]))] H := hP
  have hD : va_D A [(h0, .inr (3, [.int 0, .int 0, .ref h1, .ref h2, .ref h3, .ref h4, .ref h5, .ref h6, .ref h7]))] := hD
  refine lv_istore_n (lv' := [(2, .int 2), (3, .int 1), (0, .ref h0), (1, .int 1)]) hx hb dX4_reach_17 rfl hl (by decide) rfl (fun ls hl => ?_)
  refine lv_iinc (v := 2) (lv' := [(3, .int 2), (2, .int 2), (0, .ref h0), (1, .int 1)]) hx hb dX4_reach_18 hl (k := 1) rfl (by decide) (by decide) rfl (fun ls hl => ?_)
  refine lv_goto (tgt := 6) hx hb dX4_reach_21 (by decide) ?_
  refine lv_iload_n hx hb dX4_reach_6 rfl (lv_at hl 0 rfl) ?_
  refine lv_bipush (v := 8) hx hb dX4_reach_7 (by decide) ?_
  refine F_icmp_ge hx hb 24 dX4_reach_9 (by decide) (by decide) ?_
  refine lv_aload_n hx hb dX4_reach_12 rfl (lv_at hl 2 rfl) ?_
  refine lv_iload_n hx hb dX4_reach_13 rfl (lv_at hl 1 rfl) ?_
  refine fin_i (run_V (n := 1) (ci := 3) ⟨hx, hb, hml, hown, hts⟩ (m110_X4_spread l D c h0 h1 h2 h3 h4 h5 h6 h7 H.size) (hP.sub [0] rfl) (hD.sub [0] (by decide) rfl) hK hN rfl rfl kw_761 kw_763 kw_8 kw_117 kw_764 ⟨rfl, by decide +kernel⟩ ⟨(Nat.le_of_ble_eq_true rfl), (Nat.le_of_ble_eq_true rfl)⟩ rfl rfl rfl hl.1 rfl (Nat.le_of_ble_eq_true rfl) dX4_reach_14 ⟨(Nat.le_of_ble_eq_true rfl), (Nat.le_of_ble_eq_true rfl)⟩) hP hD hS hA [0] rfl (fun H locs t hB hj hS => ?_)
  obtain ⟨hP1, hD1⟩ := hB
  obtain ⟨hP, hD⟩ := hj (wr := []) (w1 := [(h0, .inr (3, [.int 0, .int 0, .ref h1, .ref h2, .ref h3, .ref h4, .ref h5, .ref h6, .ref h7]))]) [] rfl (by decide) (by decide) hP1 hD1
  have hP : va_P D vwCl [(h0, .inr (3, [.int 0, .int 0, .ref h1, .ref h2, .ref h3, .ref h4, .ref h5, .ref h6, .ref h7]))] H := hP
  have hD : va_D A [(h0, .inr (3, [.int 0, .int 0, .ref h1, .ref h2, .ref h3, .ref h4, .ref h5, .ref h6, .ref h7]))] := hD
  refine lv_istore_n (lv' := [(2, .int 2), (3, .int 2), (0, .ref h0), (1, .int 1)]) hx hb dX4_reach_17 rfl hl (by decide) rfl (fun ls hl => ?_)
  refine lv_iinc (v := 3) (lv' := [(3, .int 3), (2, .int 2), (0, .ref h0), (1, .int 1)]) hx hb dX4_reach_18 hl (k := 1) rfl (by decide) (by decide) rfl (fun ls hl => ?_)
  refine lv_goto (tgt := 6) hx hb dX4_reach_21 (by decide) ?_
  refine lv_iload_n hx hb dX4_reach_6 rfl (lv_at hl 0 rfl) ?_
  refine lv_bipush (v := 8) hx hb dX4_reach_7 (by decide) ?_
  refine F_icmp_ge hx hb 24 dX4_reach_9 (by decide) (by decide) ?_
  refine lv_aload_n hx hb dX4_reach_12 rfl (lv_at hl 2 rfl) ?_
  refine lv_iload_n hx hb dX4_reach_13 rfl (lv_at hl 1 rfl) ?_
  refine fin_i (run_V (n := 1) (ci := 3) ⟨hx, hb, hml, hown, hts⟩ (m110_X4_spread l D c h0 h1 h2 h3 h4 h5 h6 h7 H.size) (hP.sub [0] rfl) (hD.sub [0] (by decide) rfl) hK hN rfl rfl kw_761 kw_763 kw_8 kw_117 kw_764 ⟨rfl, by decide +kernel⟩ ⟨(Nat.le_of_ble_eq_true rfl), (Nat.le_of_ble_eq_true rfl)⟩ rfl rfl rfl hl.1 rfl (Nat.le_of_ble_eq_true rfl) dX4_reach_14 ⟨(Nat.le_of_ble_eq_true rfl), (Nat.le_of_ble_eq_true rfl)⟩) hP hD hS hA [0] rfl (fun H locs t hB hj hS => ?_)
  obtain ⟨hP1, hD1⟩ := hB
  obtain ⟨hP, hD⟩ := hj (wr := []) (w1 := [(h0, .inr (3, [.int 0, .int 0, .ref h1, .ref h2, .ref h3, .ref h4, .ref h5, .ref h6, .ref h7]))]) [] rfl (by decide) (by decide) hP1 hD1
  have hP : va_P D vwCl [(h0, .inr (3, [.int 0, .int 0, .ref h1, .ref h2, .ref h3, .ref h4, .ref h5, .ref h6, .ref h7]))] H := hP
  have hD : va_D A [(h0, .inr (3, [.int 0, .int 0, .ref h1, .ref h2, .ref h3, .ref h4, .ref h5, .ref h6, .ref h7]))] := hD
  refine lv_istore_n (lv' := [(2, .int 2), (3, .int 3), (0, .ref h0), (1, .int 1)]) hx hb dX4_reach_17 rfl hl (by decide) rfl (fun ls hl => ?_)
  refine lv_iinc (v := 4) (lv' := [(3, .int 4), (2, .int 2), (0, .ref h0), (1, .int 1)]) hx hb dX4_reach_18 hl (k := 1) rfl (by decide) (by decide) rfl (fun ls hl => ?_)
  refine lv_goto (tgt := 6) hx hb dX4_reach_21 (by decide) ?_
  refine lv_iload_n hx hb dX4_reach_6 rfl (lv_at hl 0 rfl) ?_
  refine lv_bipush (v := 8) hx hb dX4_reach_7 (by decide) ?_
  refine F_icmp_ge hx hb 24 dX4_reach_9 (by decide) (by decide) ?_
  refine lv_aload_n hx hb dX4_reach_12 rfl (lv_at hl 2 rfl) ?_
  refine lv_iload_n hx hb dX4_reach_13 rfl (lv_at hl 1 rfl) ?_
  refine fin_i (run_V (n := 1) (ci := 3) ⟨hx, hb, hml, hown, hts⟩ (m110_X4_spread l D c h0 h1 h2 h3 h4 h5 h6 h7 H.size) (hP.sub [0] rfl) (hD.sub [0] (by decide) rfl) hK hN rfl rfl kw_761 kw_763 kw_8 kw_117 kw_764 ⟨rfl, by decide +kernel⟩ ⟨(Nat.le_of_ble_eq_true rfl), (Nat.le_of_ble_eq_true rfl)⟩ rfl rfl rfl hl.1 rfl (Nat.le_of_ble_eq_true rfl) dX4_reach_14 ⟨(Nat.le_of_ble_eq_true rfl), (Nat.le_of_ble_eq_true rfl)⟩) hP hD hS hA [0] rfl (fun H locs t hB hj hS => ?_)
  obtain ⟨hP1, hD1⟩ := hB
  obtain ⟨hP, hD⟩ := hj (wr := []) (w1 := [(h0, .inr (3, [.int 0, .int 0, .ref h1, .ref h2, .ref h3, .ref h4, .ref h5, .ref h6, .ref h7]))]) [] rfl (by decide) (by decide) hP1 hD1
  have hP : va_P D vwCl [(h0, .inr (3, [.int 0, .int 0, .ref h1, .ref h2, .ref h3, .ref h4, .ref h5, .ref h6, .ref h7]))] H := hP
  have hD : va_D A [(h0, .inr (3, [.int 0, .int 0, .ref h1, .ref h2, .ref h3, .ref h4, .ref h5, .ref h6, .ref h7]))] := hD
  refine lv_istore_n (lv' := [(2, .int 2), (3, .int 4), (0, .ref h0), (1, .int 1)]) hx hb dX4_reach_17 rfl hl (by decide) rfl (fun ls hl => ?_)
  refine lv_iinc (v := 5) (lv' := [(3, .int 5), (2, .int 2), (0, .ref h0), (1, .int 1)]) hx hb dX4_reach_18 hl (k := 1) rfl (by decide) (by decide) rfl (fun ls hl => ?_)
  refine lv_goto (tgt := 6) hx hb dX4_reach_21 (by decide) ?_
  refine lv_iload_n hx hb dX4_reach_6 rfl (lv_at hl 0 rfl) ?_
  refine lv_bipush (v := 8) hx hb dX4_reach_7 (by decide) ?_
  refine F_icmp_ge hx hb 24 dX4_reach_9 (by decide) (by decide) ?_
  refine lv_aload_n hx hb dX4_reach_12 rfl (lv_at hl 2 rfl) ?_
  refine lv_iload_n hx hb dX4_reach_13 rfl (lv_at hl 1 rfl) ?_
  refine fin_i (run_V (n := 1) (ci := 3) ⟨hx, hb, hml, hown, hts⟩ (m110_X4_spread l D c h0 h1 h2 h3 h4 h5 h6 h7 H.size) (hP.sub [0] rfl) (hD.sub [0] (by decide) rfl) hK hN rfl rfl kw_761 kw_763 kw_8 kw_117 kw_764 ⟨rfl, by decide +kernel⟩ ⟨(Nat.le_of_ble_eq_true rfl), (Nat.le_of_ble_eq_true rfl)⟩ rfl rfl rfl hl.1 rfl (Nat.le_of_ble_eq_true rfl) dX4_reach_14 ⟨(Nat.le_of_ble_eq_true rfl), (Nat.le_of_ble_eq_true rfl)⟩) hP hD hS hA [0] rfl (fun H locs t hB hj hS => ?_)
  obtain ⟨hP1, hD1⟩ := hB
  obtain ⟨hP, hD⟩ := hj (wr := []) (w1 := [(h0, .inr (3, [.int 0, .int 0, .ref h1, .ref h2, .ref h3, .ref h4, .ref h5, .ref h6, .ref h7]))]) [] rfl (by decide) (by decide) hP1 hD1
  have hP : va_P D vwCl [(h0, .inr (3, [.int 0, .int 0, .ref h1, .ref h2, .ref h3, .ref h4, .ref h5, .ref h6, .ref h7]))] H := hP
  have hD : va_D A [(h0, .inr (3, [.int 0, .int 0, .ref h1, .ref h2, .ref h3, .ref h4, .ref h5, .ref h6, .ref h7]))] := hD
  refine lv_istore_n (lv' := [(2, .int 2), (3, .int 5), (0, .ref h0), (1, .int 1)]) hx hb dX4_reach_17 rfl hl (by decide) rfl (fun ls hl => ?_)
  refine lv_iinc (v := 6) (lv' := [(3, .int 6), (2, .int 2), (0, .ref h0), (1, .int 1)]) hx hb dX4_reach_18 hl (k := 1) rfl (by decide) (by decide) rfl (fun ls hl => ?_)
  refine lv_goto (tgt := 6) hx hb dX4_reach_21 (by decide) ?_
  refine lv_iload_n hx hb dX4_reach_6 rfl (lv_at hl 0 rfl) ?_
  refine lv_bipush (v := 8) hx hb dX4_reach_7 (by decide) ?_
  refine F_icmp_ge hx hb 24 dX4_reach_9 (by decide) (by decide) ?_
  refine lv_aload_n hx hb dX4_reach_12 rfl (lv_at hl 2 rfl) ?_
  refine lv_iload_n hx hb dX4_reach_13 rfl (lv_at hl 1 rfl) ?_
  refine fin_i (run_V (n := 1) (ci := 3) ⟨hx, hb, hml, hown, hts⟩ (m110_X4_spread l D c h0 h1 h2 h3 h4 h5 h6 h7 H.size) (hP.sub [0] rfl) (hD.sub [0] (by decide) rfl) hK hN rfl rfl kw_761 kw_763 kw_8 kw_117 kw_764 ⟨rfl, by decide +kernel⟩ ⟨(Nat.le_of_ble_eq_true rfl), (Nat.le_of_ble_eq_true rfl)⟩ rfl rfl rfl hl.1 rfl (Nat.le_of_ble_eq_true rfl) dX4_reach_14 ⟨(Nat.le_of_ble_eq_true rfl), (Nat.le_of_ble_eq_true rfl)⟩) hP hD hS hA [0] rfl (fun H locs t hB hj hS => ?_)
  obtain ⟨hP1, hD1⟩ := hB
  obtain ⟨hP, hD⟩ := hj (wr := []) (w1 := [(h0, .inr (3, [.int 0, .int 0, .ref h1, .ref h2, .ref h3, .ref h4, .ref h5, .ref h6, .ref h7]))]) [] rfl (by decide) (by decide) hP1 hD1
  have hP : va_P D vwCl [(h0, .inr (3, [.int 0, .int 0, .ref h1, .ref h2, .ref h3, .ref h4, .ref h5, .ref h6, .ref h7]))] H := hP
  have hD : va_D A [(h0, .inr (3, [.int 0, .int 0, .ref h1, .ref h2, .ref h3, .ref h4, .ref h5, .ref h6, .ref h7]))] := hD
  refine lv_istore_n (lv' := [(2, .int 2), (3, .int 6), (0, .ref h0), (1, .int 1)]) hx hb dX4_reach_17 rfl hl (by decide) rfl (fun ls hl => ?_)
  refine lv_iinc (v := 7) (lv' := [(3, .int 7), (2, .int 2), (0, .ref h0), (1, .int 1)]) hx hb dX4_reach_18 hl (k := 1) rfl (by decide) (by decide) rfl (fun ls hl => ?_)
  refine lv_goto (tgt := 6) hx hb dX4_reach_21 (by decide) ?_
  refine lv_iload_n hx hb dX4_reach_6 rfl (lv_at hl 0 rfl) ?_
  refine lv_bipush (v := 8) hx hb dX4_reach_7 (by decide) ?_
  refine F_icmp_ge hx hb 24 dX4_reach_9 (by decide) (by decide) ?_
  refine lv_aload_n hx hb dX4_reach_12 rfl (lv_at hl 2 rfl) ?_
  refine lv_iload_n hx hb dX4_reach_13 rfl (lv_at hl 1 rfl) ?_
  refine fin_i (run_V (n := 1) (ci := 3) ⟨hx, hb, hml, hown, hts⟩ (m110_X4_spread l D c h0 h1 h2 h3 h4 h5 h6 h7 H.size) (hP.sub [0] rfl) (hD.sub [0] (by decide) rfl) hK hN rfl rfl kw_761 kw_763 kw_8 kw_117 kw_764 ⟨rfl, by decide +kernel⟩ ⟨(Nat.le_of_ble_eq_true rfl), (Nat.le_of_ble_eq_true rfl)⟩ rfl rfl rfl hl.1 rfl (Nat.le_of_ble_eq_true rfl) dX4_reach_14 ⟨(Nat.le_of_ble_eq_true rfl), (Nat.le_of_ble_eq_true rfl)⟩) hP hD hS hA [0] rfl (fun H locs t hB hj hS => ?_)
  obtain ⟨hP1, hD1⟩ := hB
  obtain ⟨hP, hD⟩ := hj (wr := []) (w1 := [(h0, .inr (3, [.int 0, .int 0, .ref h1, .ref h2, .ref h3, .ref h4, .ref h5, .ref h6, .ref h7]))]) [] rfl (by decide) (by decide) hP1 hD1
  have hP : va_P D vwCl [(h0, .inr (3, [.int 0, .int 0, .ref h1, .ref h2, .ref h3, .ref h4, .ref h5, .ref h6, .ref h7]))] H := hP
  have hD : va_D A [(h0, .inr (3, [.int 0, .int 0, .ref h1, .ref h2, .ref h3, .ref h4, .ref h5, .ref h6, .ref h7]))] := hD
  refine lv_istore_n (lv' := [(2, .int 2), (3, .int 7), (0, .ref h0), (1, .int 1)]) hx hb dX4_reach_17 rfl hl (by decide) rfl (fun ls hl => ?_)
  refine lv_iinc (v := 8) (lv' := [(3, .int 8), (2, .int 2), (0, .ref h0), (1, .int 1)]) hx hb dX4_reach_18 hl (k := 1) rfl (by decide) (by decide) rfl (fun ls hl => ?_)
  refine lv_goto (tgt := 6) hx hb dX4_reach_21 (by decide) ?_
  refine lv_iload_n hx hb dX4_reach_6 rfl (lv_at hl 0 rfl) ?_
  refine lv_bipush (v := 8) hx hb dX4_reach_7 (by decide) ?_
  refine T_icmp_ge (tgt := 24) hx hb dX4_reach_9 (by decide) (by decide) ?_
  refine lv_iload_n hx hb dX4_reach_24 rfl (lv_at hl 1 rfl) ?_
  exact retI hx hb hr hlocks rfl hS (by decide) (by decide) dX4_reach_25 (fun t ht => ⟨by rw [ht]; exact hP, hD⟩)
set_option maxHeartbeats 4000000 in
set_option maxRecDepth 100000 in
theorem m112_X10_place (l : Launch) (D : va_G) (c : Nat → ClassId) (h0 h1 h2 h3 h4 h5 h6 h7 h8 h9 h10 h11 h12 h13 h14 h15 h16 h17 h18 h19 : Nat) (sz : Nat) : Met l yX10_place (Cond.code yX10_place cX10_place 4 (some .int) :: TB) ({ frames := 2, cells := 0, slots := 0, locals := 46 } : Room) (va_Pc [.ref h0, .int 1, .int 4] (PW D c [(h0, .inr (9, [.ref h5, .ref h6, .ref h7, .ref h1, .ref h8, .ref h9, .ref h10, .ref h11, .ref h12, .int 0])), (h1, .inr (7, [.ref h2, .ref h13, .int 0, .int 0, .int 0, .int 0, .int 0, .ref h14])), (h2, .inr (3, [.int 0, .int 0, .ref h15, .ref h16, .ref h17, .ref h18, .ref h19, .ref h3, .ref h4])), (h3, .inl (c 0, 8, .inl (fun _ => 0))), (h4, .inl (c 0, 8, .inl (fun _ => 0)))] sz)) ((QI 2 (fun A t => va_P D vwCl [(h0, .inr (9, [.ref h5, .ref h6, .ref h7, .ref h1, .ref h8, .ref h9, .ref h10, .ref h11, .ref h12, .int 0])), (h1, .inr (7, [.ref h2, .ref h13, .int 0, .int 0, .int 0, .int 0, .int 0, .ref h14])), (h3, .inl (c 0, 8, .inl (fun _ => 0))), (h4, .inl (c 0, 8, .inl (fun _ => 0))), (h2, .inr (3, [.int 0, .int 0, .ref h15, .ref h16, .ref h17, .ref h18, .ref h19, .ref h3, .ref h4]))] t.heap ∧ va_D A [(h0, .inr (9, [.ref h5, .ref h6, .ref h7, .ref h1, .ref h8, .ref h9, .ref h10, .ref h11, .ref h12, .int 0])), (h1, .inr (7, [.ref h2, .ref h13, .int 0, .int 0, .int 0, .int 0, .int 0, .ref h14])), (h3, .inl (c 0, 8, .inl (fun _ => 0))), (h4, .inl (c 0, 8, .inl (fun _ => 0))), (h2, .inr (3, [.int 0, .int 0, .ref h15, .ref h16, .ref h17, .ref h18, .ref h19, .ref h3, .ref h4]))])) (va_A [(h0, .inr (9, [.ref h5, .ref h6, .ref h7, .ref h1, .ref h8, .ref h9, .ref h10, .ref h11, .ref h12, .int 0])), (h1, .inr (7, [.ref h2, .ref h13, .int 0, .int 0, .int 0, .int 0, .int 0, .ref h14])), (h2, .inr (3, [.int 0, .int 0, .ref h15, .ref h16, .ref h17, .ref h18, .ref h19, .ref h3, .ref h4])), (h3, .inl (c 0, 8, .inl (fun _ => 0))), (h4, .inl (c 0, 8, .inl (fun _ => 0)))] sz)) 0 0 (va_A [(h0, .inr (9, [.ref h5, .ref h6, .ref h7, .ref h1, .ref h8, .ref h9, .ref h10, .ref h11, .ref h12, .int 0])), (h1, .inr (7, [.ref h2, .ref h13, .int 0, .int 0, .int 0, .int 0, .int 0, .ref h14])), (h2, .inr (3, [.int 0, .int 0, .ref h15, .ref h16, .ref h17, .ref h18, .ref h19, .ref h3, .ref h4])), (h3, .inl (c 0, 8, .inl (fun _ => 0))), (h4, .inl (c 0, 8, .inl (fun _ => 0)))] sz) := by
  refine start (by decide +kernel) (Nat.le_of_ble_eq_true rfl) ?_
  intro p e s m below meth cd A ls hx hb hr hml hts hown hlocks hin hA hS hK hP hD hN hl
  have hown : s.vm.findClass RX10 = some m.cls := hown
  have hl : lv_has ls 4 [(0, .ref h0), (1, .int 1), (2, .int 4)] := hl
  have hP : va_P D vwCl [(h0, .inr (9, [.ref h5, .ref h6, .ref h7, .ref h1, .ref h8, .ref h9, .ref h10, .ref h11, .ref h12, .int 0])), (h1, .inr (7, [.ref h2, .ref h13, .int 0, .int 0, .int 0, .int 0, .int 0, .ref h14])), (h2, .inr (3, [.int 0, .int 0, .ref h15, .ref h16, .ref h17, .ref h18, .ref h19, .ref h3, .ref h4])), (h3, .inl (c 0, 8, .inl (fun _ => 0))), (h4, .inl (c 0, 8, .inl (fun _ => 0)))] s.heap := hP
  refine lv_iload_n hx hb dX10_place_0 rfl (lv_at hl 1 rfl) ?_
  refine fin_i (run_S (n := 1) ⟨hx, hb, hml, hown, hts⟩ (m108_X10_isPlace l D c s.heap.size) (hP.sub [] rfl) (hD.sub [] (by decide) rfl) hK hN rfl rfl kw_738 kw_610 kw_113 kw_611 (by decide +kernel) ⟨(Nat.le_of_ble_eq_true rfl), (Nat.le_of_ble_eq_true rfl)⟩ rfl hl.1 rfl (Nat.le_of_ble_eq_true rfl) dX10_place_1 ⟨(Nat.le_of_ble_eq_true rfl), (Nat.le_of_ble_eq_true rfl)⟩) hP hD hS hA [] rfl (fun H locs t hB hj hS => ?_)
  obtain ⟨hP1, hD1⟩ := hB
  obtain ⟨hP, hD⟩ := hj (wr := [(h0, .inr (9, [.ref h5, .ref h6, .ref h7, .ref h1, .ref h8, .ref h9, .ref h10, .ref h11, .ref h12, .int 0])), (h1, .inr (7, [.ref h2, .ref h13, .int 0, .int 0, .int 0, .int 0, .int 0, .ref h14])), (h2, .inr (3, [.int 0, .int 0, .ref h15, .ref h16, .ref h17, .ref h18, .ref h19, .ref h3, .ref h4])), (h3, .inl (c 0, 8, .inl (fun _ => 0))), (h4, .inl (c 0, 8, .inl (fun _ => 0)))]) (w1 := []) [0, 1, 2, 3, 4] rfl (by decide) (by decide) hP1 hD1
  have hP : va_P D vwCl [(h0, .inr (9, [.ref h5, .ref h6, .ref h7, .ref h1, .ref h8, .ref h9, .ref h10, .ref h11, .ref h12, .int 0])), (h1, .inr (7, [.ref h2, .ref h13, .int 0, .int 0, .int 0, .int 0, .int 0, .ref h14])), (h2, .inr (3, [.int 0, .int 0, .ref h15, .ref h16, .ref h17, .ref h18, .ref h19, .ref h3, .ref h4])), (h3, .inl (c 0, 8, .inl (fun _ => 0))), (h4, .inl (c 0, 8, .inl (fun _ => 0)))] H := hP
  have hD : va_D A [(h0, .inr (9, [.ref h5, .ref h6, .ref h7, .ref h1, .ref h8, .ref h9, .ref h10, .ref h11, .ref h12, .int 0])), (h1, .inr (7, [.ref h2, .ref h13, .int 0, .int 0, .int 0, .int 0, .int 0, .ref h14])), (h2, .inr (3, [.int 0, .int 0, .ref h15, .ref h16, .ref h17, .ref h18, .ref h19, .ref h3, .ref h4])), (h3, .inl (c 0, 8, .inl (fun _ => 0))), (h4, .inl (c 0, 8, .inl (fun _ => 0)))] := hD
  refine T_if_ne (tgt := 10) hx hb dX10_place_4 (by decide) (by decide) ?_
  refine lv_aload_n hx hb dX10_place_10 rfl (lv_at hl 0 rfl) ?_
  refine va_get (D := D) (ci := 9) (v := .ref h1) (C := RX10) (T := TX10) (N := 10) hx hb hts i_X10 hown hK hP 0 rfl rfl 3 (by decide) (hts _ kw_473) (fun _ h9 => h9) rfl dX10_place_11 ?_
  refine va_get (D := D) (ci := 7) (v := .ref h2) (C := RX8) (T := TX8) (N := 8) hx hb hts i_X8 hown hK hP 1 rfl rfl 0 (by decide) (hts _ kw_326) (fun _ h9 => h9) rfl dX10_place_14 ?_
  refine lv_iload_n hx hb dX10_place_17 rfl (lv_at hl 1 rfl) ?_
  refine fin_i (run_V (n := 1) (ci := 3) ⟨hx, hb, hml, hown, hts⟩ (m109_X4_away l D c h2 h3 h4 h15 h16 h17 h18 h19 H.size) (hP.sub [2, 3, 4] rfl) (hD.sub [2, 3, 4] (by decide) rfl) hK hN rfl rfl kw_739 kw_740 kw_741 kw_117 kw_742 ⟨rfl, by decide +kernel⟩ ⟨(Nat.le_of_ble_eq_true rfl), (Nat.le_of_ble_eq_true rfl)⟩ rfl rfl rfl hl.1 rfl (Nat.le_of_ble_eq_true rfl) dX10_place_18 ⟨(Nat.le_of_ble_eq_true rfl), (Nat.le_of_ble_eq_true rfl)⟩) hP hD hS hA [2, 3, 4] rfl (fun H locs t hB hj hS => ?_)
  obtain ⟨hP1, hD1⟩ := hB
  obtain ⟨hP, hD⟩ := hj (wr := [(h0, .inr (9, [.ref h5, .ref h6, .ref h7, .ref h1, .ref h8, .ref h9, .ref h10, .ref h11, .ref h12, .int 0])), (h1, .inr (7, [.ref h2, .ref h13, .int 0, .int 0, .int 0, .int 0, .int 0, .ref h14]))]) (w1 := [(h2, .inr (3, [.int 0, .int 0, .ref h15, .ref h16, .ref h17, .ref h18, .ref h19, .ref h3, .ref h4])), (h3, .inl (c 0, 8, .inl (fun _ => 0))), (h4, .inl (c 0, 8, .inl (fun _ => 0)))]) [0, 1] rfl (by decide) (by decide) hP1 hD1
  have hP : va_P D vwCl [(h0, .inr (9, [.ref h5, .ref h6, .ref h7, .ref h1, .ref h8, .ref h9, .ref h10, .ref h11, .ref h12, .int 0])), (h1, .inr (7, [.ref h2, .ref h13, .int 0, .int 0, .int 0, .int 0, .int 0, .ref h14])), (h2, .inr (3, [.int 0, .int 0, .ref h15, .ref h16, .ref h17, .ref h18, .ref h19, .ref h3, .ref h4])), (h3, .inl (c 0, 8, .inl (fun _ => 0))), (h4, .inl (c 0, 8, .inl (fun _ => 0)))] H := hP
  have hD : va_D A [(h0, .inr (9, [.ref h5, .ref h6, .ref h7, .ref h1, .ref h8, .ref h9, .ref h10, .ref h11, .ref h12, .int 0])), (h1, .inr (7, [.ref h2, .ref h13, .int 0, .int 0, .int 0, .int 0, .int 0, .ref h14])), (h2, .inr (3, [.int 0, .int 0, .ref h15, .ref h16, .ref h17, .ref h18, .ref h19, .ref h3, .ref h4])), (h3, .inl (c 0, 8, .inl (fun _ => 0))), (h4, .inl (c 0, 8, .inl (fun _ => 0)))] := hD
  refine fin_i (run_S (n := 1) ⟨hx, hb, hml, hown, hts⟩ (m77_J6_bitCount_0f7a4 l D c H.size) (hP.sub [] rfl) (hD.sub [] (by decide) rfl) hK hN rfl rfl kw_743 kw_744 kw_130 kw_745 (by decide +kernel) ⟨(Nat.le_of_ble_eq_true rfl), (Nat.le_of_ble_eq_true rfl)⟩ rfl hl.1 rfl (Nat.le_of_ble_eq_true rfl) dX10_place_21 ⟨(Nat.le_of_ble_eq_true rfl), (Nat.le_of_ble_eq_true rfl)⟩) hP hD hS hA [] rfl (fun H locs t hB hj hS => ?_)
  obtain ⟨hP1, hD1⟩ := hB
  obtain ⟨hP, hD⟩ := hj (wr := [(h0, .inr (9, [.ref h5, .ref h6, .ref h7, .ref h1, .ref h8, .ref h9, .ref h10, .ref h11, .ref h12, .int 0])), (h1, .inr (7, [.ref h2, .ref h13, .int 0, .int 0, .int 0, .int 0, .int 0, .ref h14])), (h2, .inr (3, [.int 0, .int 0, .ref h15, .ref h16, .ref h17, .ref h18, .ref h19, .ref h3, .ref h4])), (h3, .inl (c 0, 8, .inl (fun _ => 0))), (h4, .inl (c 0, 8, .inl (fun _ => 0)))]) (w1 := []) [0, 1, 2, 3, 4] rfl (by decide) (by decide) hP1 hD1
  have hP : va_P D vwCl [(h0, .inr (9, [.ref h5, .ref h6, .ref h7, .ref h1, .ref h8, .ref h9, .ref h10, .ref h11, .ref h12, .int 0])), (h1, .inr (7, [.ref h2, .ref h13, .int 0, .int 0, .int 0, .int 0, .int 0, .ref h14])), (h2, .inr (3, [.int 0, .int 0, .ref h15, .ref h16, .ref h17, .ref h18, .ref h19, .ref h3, .ref h4])), (h3, .inl (c 0, 8, .inl (fun _ => 0))), (h4, .inl (c 0, 8, .inl (fun _ => 0)))] H := hP
  have hD : va_D A [(h0, .inr (9, [.ref h5, .ref h6, .ref h7, .ref h1, .ref h8, .ref h9, .ref h10, .ref h11, .ref h12, .int 0])), (h1, .inr (7, [.ref h2, .ref h13, .int 0, .int 0, .int 0, .int 0, .int 0, .ref h14])), (h2, .inr (3, [.int 0, .int 0, .ref h15, .ref h16, .ref h17, .ref h18, .ref h19, .ref h3, .ref h4])), (h3, .inl (c 0, 8, .inl (fun _ => 0))), (h4, .inl (c 0, 8, .inl (fun _ => 0)))] := hD
  refine lv_istore_n (lv' := [(3, .int 0), (0, .ref h0), (1, .int 1), (2, .int 4)]) hx hb dX10_place_24 rfl hl (by decide) rfl (fun ls hl => ?_)
  refine lv_iload_n hx hb dX10_place_25 rfl (lv_at hl 3 rfl) ?_
  refine lv_tableIn (tgt := 103) hx hb dX10_place_26 (by decide) (by decide) rfl (by decide) ?_
  refine lv_aload_n hx hb dX10_place_103 rfl (lv_at hl 1 rfl) ?_
  refine va_get (D := D) (ci := 9) (v := .ref h1) (C := RX10) (T := TX10) (N := 10) hx hb hts i_X10 hown hK hP 0 rfl rfl 3 (by decide) (hts _ kw_473) (fun _ h9 => h9) rfl dX10_place_104 ?_
  refine va_get (D := D) (ci := 7) (v := .ref h2) (C := RX8) (T := TX8) (N := 8) hx hb hts i_X8 hown hK hP 1 rfl rfl 0 (by decide) (hts _ kw_326) (fun _ h9 => h9) rfl dX10_place_107 ?_
  refine lv_iload_n hx hb dX10_place_110 rfl (lv_at hl 2 rfl) ?_
  refine fin_i (run_V (n := 1) (ci := 3) ⟨hx, hb, hml, hown, hts⟩ (m111_X4_reach l D c h2 h15 h16 h17 h18 h19 h3 h4 H.size) (hP.sub [2] rfl) (hD.sub [2] (by decide) rfl) hK hN rfl rfl kw_757 kw_758 kw_759 kw_117 kw_760 ⟨rfl, by decide +kernel⟩ ⟨(Nat.le_of_ble_eq_true rfl), (Nat.le_of_ble_eq_true rfl)⟩ rfl rfl rfl hl.1 rfl (Nat.le_of_ble_eq_true rfl) dX10_place_111 ⟨(Nat.le_of_ble_eq_true rfl), (Nat.le_of_ble_eq_true rfl)⟩) hP hD hS hA [2] rfl (fun H locs t hB hj hS => ?_)
  obtain ⟨hP1, hD1⟩ := hB
  obtain ⟨hP, hD⟩ := hj (wr := [(h0, .inr (9, [.ref h5, .ref h6, .ref h7, .ref h1, .ref h8, .ref h9, .ref h10, .ref h11, .ref h12, .int 0])), (h1, .inr (7, [.ref h2, .ref h13, .int 0, .int 0, .int 0, .int 0, .int 0, .ref h14])), (h3, .inl (c 0, 8, .inl (fun _ => 0))), (h4, .inl (c 0, 8, .inl (fun _ => 0)))]) (w1 := [(h2, .inr (3, [.int 0, .int 0, .ref h15, .ref h16, .ref h17, .ref h18, .ref h19, .ref h3, .ref h4]))]) [0, 1, 3, 4] rfl (by decide) (by decide) hP1 hD1
  have hP : va_P D vwCl [(h0, .inr (9, [.ref h5, .ref h6, .ref h7, .ref h1, .ref h8, .ref h9, .ref h10, .ref h11, .ref h12, .int 0])), (h1, .inr (7, [.ref h2, .ref h13, .int 0, .int 0, .int 0, .int 0, .int 0, .ref h14])), (h3, .inl (c 0, 8, .inl (fun _ => 0))), (h4, .inl (c 0, 8, .inl (fun _ => 0))), (h2, .inr (3, [.int 0, .int 0, .ref h15, .ref h16, .ref h17, .ref h18, .ref h19, .ref h3, .ref h4]))] H := hP
  have hD : va_D A [(h0, .inr (9, [.ref h5, .ref h6, .ref h7, .ref h1, .ref h8, .ref h9, .ref h10, .ref h11, .ref h12, .int 0])), (h1, .inr (7, [.ref h2, .ref h13, .int 0, .int 0, .int 0, .int 0, .int 0, .ref h14])), (h3, .inl (c 0, 8, .inl (fun _ => 0))), (h4, .inl (c 0, 8, .inl (fun _ => 0))), (h2, .inr (3, [.int 0, .int 0, .ref h15, .ref h16, .ref h17, .ref h18, .ref h19, .ref h3, .ref h4]))] := hD
  exact retI hx hb hr hlocks rfl hS (by decide) (by decide) dX10_place_114 (fun t ht => ⟨by rw [ht]; exact hP, hD⟩)
set_option maxHeartbeats 4000000 in
set_option maxRecDepth 100000 in
theorem m113_X11_isPlace (l : Launch) (D : va_G) (c : Nat → ClassId) (sz : Nat) : Met l yX11_isPlace (Cond.code yX11_isPlace cX11_isPlace 1 (some .boolean) :: TB) ({ frames := 0, cells := 0, slots := 0, locals := 0 } : Room) (va_Pc [.int 1] (PW D c [] sz)) ((QI 1 (fun A t => va_P D vwCl [] t.heap ∧ va_D A [])) (va_A [] sz)) 0 0 (va_A [] sz) := by
  refine start (by decide +kernel) (Nat.le_of_ble_eq_true rfl) ?_
  intro p e s m below meth cd A ls hx hb hr hml hts hown hlocks hin hA hS hK hP hD hN hl
  have hown : s.vm.findClass RX11 = some m.cls := hown
  have hl : lv_has ls 1 [(0, .int 1)] := hl
  have hP : va_P D vwCl [] s.heap := hP
  refine lv_iload_n hx hb dX11_isPlace_0 rfl (lv_at hl 0 rfl) ?_
  refine F_if_lt hx hb 14 dX11_isPlace_1 (by decide) (by decide) ?_
  refine lv_iload_n hx hb dX11_isPlace_4 rfl (lv_at hl 0 rfl) ?_
  refine lv_bipush (v := 8) hx hb dX11_isPlace_5 (by decide) ?_
  refine F_icmp_ge hx hb 14 dX11_isPlace_7 (by decide) (by decide) ?_
  refine lv_iconst (v := 1) hx hb dX11_isPlace_10 (by decide) ?_
  refine lv_goto (tgt := 15) hx hb dX11_isPlace_11 (by decide) ?_
  exact retI hx hb hr hlocks (by decide) hS (by decide) (by decide) dX11_isPlace_15 (fun t ht => ⟨by rw [ht]; exact hP, hD⟩)
set_option maxHeartbeats 4000000 in
set_option maxRecDepth 100000 in
theorem m114_X11_spreads (l : Launch) (D : va_G) (c : Nat → ClassId) (h0 h1 h2 h3 h4 h5 h6 h7 h8 h9 h10 h11 h12 h13 h14 h15 h16 h17 h18 h19 h20 h21 h22 h23 h24 : Nat) (sz : Nat) : Met l yX11_spreads (Cond.code yX11_spreads cX11_spreads 6 none :: TB) ({ frames := 0, cells := 0, slots := 0, locals := 0 } : Room) (va_Pc [.ref h0, .int 1] (PW D c [(h0, .inr (10, (.ref h3 :: .int 0 :: .int 0 :: .ref h4 :: .ref h5 :: .ref h6 :: .ref h7 :: .int 0 :: .int 0 :: .ref h8 :: .ref h9 :: .int 0 :: .int 0 :: .int 0 :: .int 0 :: .int 0 :: .int 0 :: .int 0 :: .ref h10 :: .int 0 :: .ref h11 :: .int 0 :: .ref h12 :: .ref h2 :: .ref h13 :: .ref h1 :: .ref h14 :: .ref h15 :: .ref h16 :: .int 0 :: .ref h17 :: .int 0 :: .ref h18 :: .int 0 :: .int 0 :: .int 0 :: .ref h19 :: .ref h20 :: .ref h21 :: .ref h22 :: .int 0 :: .ref h23 :: .ref h24 :: []))), (h1, .inl (c 0, 8, .inl (fun _ => 0))), (h2, .inl (c 0, 202, .inl (fun _ => 0)))] sz)) ((QV (fun A t => va_P D vwCl [(h0, .inr (10, (.ref h3 :: .int 0 :: .int 0 :: .ref h4 :: .ref h5 :: .ref h6 :: .ref h7 :: .int 0 :: .int 0 :: .ref h8 :: .ref h9 :: .int 0 :: .int 0 :: .int 0 :: .int 0 :: .int 0 :: .int 0 :: .int 0 :: .ref h10 :: .int 0 :: .ref h11 :: .int 0 :: .ref h12 :: .ref h2 :: .ref h13 :: .ref h1 :: .ref h14 :: .ref h15 :: .ref h16 :: .int 0 :: .ref h17 :: .int 0 :: .ref h18 :: .int 0 :: .int 0 :: .int 0 :: .ref h19 :: .ref h20 :: .ref h21 :: .ref h22 :: .int 0 :: .ref h23 :: .ref h24 :: []))), (h1, .inl (c 0, 8, .inl (upd (upd (upd (upd (upd (upd (upd (upd (upd (fun _ => 0) (Int32.toNatClampNeg 0) (-1)) (Int32.toNatClampNeg 1) (-1)) (Int32.toNatClampNeg 2) (-1)) (Int32.toNatClampNeg 3) (-1)) (Int32.toNatClampNeg 4) (-1)) (Int32.toNatClampNeg 5) (-1)) (Int32.toNatClampNeg 6) (-1)) (Int32.toNatClampNeg 7) (-1)) (Int32.toNatClampNeg 1) 0))), (h2, .inl (c 0, 202, .inl (fun _ => 0)))] t.heap ∧ va_D A [(h0, .inr (10, (.ref h3 :: .int 0 :: .int 0 :: .ref h4 :: .ref h5 :: .ref h6 :: .ref h7 :: .int 0 :: .int 0 :: .ref h8 :: .ref h9 :: .int 0 :: .int 0 :: .int 0 :: .int 0 :: .int 0 :: .int 0 :: .int 0 :: .ref h10 :: .int 0 :: .ref h11 :: .int 0 :: .ref h12 :: .ref h2 :: .ref h13 :: .ref h1 :: .ref h14 :: .ref h15 :: .ref h16 :: .int 0 :: .ref h17 :: .int 0 :: .ref h18 :: .int 0 :: .int 0 :: .int 0 :: .ref h19 :: .ref h20 :: .ref h21 :: .ref h22 :: .int 0 :: .ref h23 :: .ref h24 :: []))), (h1, .inl (c 0, 8, .inl (upd (upd (upd (upd (upd (upd (upd (upd (upd (fun _ => 0) (Int32.toNatClampNeg 0) (-1)) (Int32.toNatClampNeg 1) (-1)) (Int32.toNatClampNeg 2) (-1)) (Int32.toNatClampNeg 3) (-1)) (Int32.toNatClampNeg 4) (-1)) (Int32.toNatClampNeg 5) (-1)) (Int32.toNatClampNeg 6) (-1)) (Int32.toNatClampNeg 7) (-1)) (Int32.toNatClampNeg 1) 0))), (h2, .inl (c 0, 202, .inl (fun _ => 0)))])) (va_A [(h0, .inr (10, (.ref h3 :: .int 0 :: .int 0 :: .ref h4 :: .ref h5 :: .ref h6 :: .ref h7 :: .int 0 :: .int 0 :: .ref h8 :: .ref h9 :: .int 0 :: .int 0 :: .int 0 :: .int 0 :: .int 0 :: .int 0 :: .int 0 :: .ref h10 :: .int 0 :: .ref h11 :: .int 0 :: .ref h12 :: .ref h2 :: .ref h13 :: .ref h1 :: .ref h14 :: .ref h15 :: .ref h16 :: .int 0 :: .ref h17 :: .int 0 :: .ref h18 :: .int 0 :: .int 0 :: .int 0 :: .ref h19 :: .ref h20 :: .ref h21 :: .ref h22 :: .int 0 :: .ref h23 :: .ref h24 :: []))), (h1, .inl (c 0, 8, .inl (fun _ => 0))), (h2, .inl (c 0, 202, .inl (fun _ => 0)))] sz)) 0 0 (va_A [(h0, .inr (10, (.ref h3 :: .int 0 :: .int 0 :: .ref h4 :: .ref h5 :: .ref h6 :: .ref h7 :: .int 0 :: .int 0 :: .ref h8 :: .ref h9 :: .int 0 :: .int 0 :: .int 0 :: .int 0 :: .int 0 :: .int 0 :: .int 0 :: .ref h10 :: .int 0 :: .ref h11 :: .int 0 :: .ref h12 :: .ref h2 :: .ref h13 :: .ref h1 :: .ref h14 :: .ref h15 :: .ref h16 :: .int 0 :: .ref h17 :: .int 0 :: .ref h18 :: .int 0 :: .int 0 :: .int 0 :: .ref h19 :: .ref h20 :: .ref h21 :: .ref h22 :: .int 0 :: .ref h23 :: .ref h24 :: []))), (h1, .inl (c 0, 8, .inl (fun _ => 0))), (h2, .inl (c 0, 202, .inl (fun _ => 0)))] sz) := by
  refine start (by decide +kernel) (Nat.le_of_ble_eq_true rfl) ?_
  intro p e s m below meth cd A ls hx hb hr hml hts hown hlocks hin hA hS hK hP hD hN hl
  have hown : s.vm.findClass RX11 = some m.cls := hown
  have hl : lv_has ls 6 [(0, .ref h0), (1, .int 1)] := hl
  have hP : va_P D vwCl [(h0, .inr (10, (.ref h3 :: .int 0 :: .int 0 :: .ref h4 :: .ref h5 :: .ref h6 :: .ref h7 :: .int 0 :: .int 0 :: .ref h8 :: .ref h9 :: .int 0 :: .int 0 :: .int 0 :: .int 0 :: .int 0 :: .int 0 :: .int 0 :: .ref h10 :: .int 0 :: .ref h11 :: .int 0 :: .ref h12 :: .ref h2 :: .ref h13 :: .ref h1 :: .ref h14 :: .ref h15 :: .ref h16 :: .int 0 :: .ref h17 :: .int 0 :: .ref h18 :: .int 0 :: .int 0 :: .int 0 :: .ref h19 :: .ref h20 :: .ref h21 :: .ref h22 :: .int 0 :: .ref h23 :: .ref h24 :: []))), (h1, .inl (c 0, 8, .inl (fun _ => 0))), (h2, .inl (c 0, 202, .inl (fun _ => 0)))] s.heap := hP
  refine lv_iconst (v := 0) hx hb dX11_spreads_0 (by decide) ?_
  refine lv_istore_n (lv' := [(2, .int 0), (0, .ref h0), (1, .int 1)]) hx hb dX11_spreads_1 rfl hl (by decide) rfl (fun ls hl => ?_)
  refine lv_iload_n hx hb dX11_spreads_2 rfl (lv_at hl 0 rfl) ?_
  refine lv_bipush (v := 8) hx hb dX11_spreads_3 (by decide) ?_
  refine F_icmp_ge hx hb 21 dX11_spreads_5 (by decide) (by decide) ?_
  refine lv_aload_n hx hb dX11_spreads_8 rfl (lv_at hl 1 rfl) ?_
  refine va_get (D := D) (ci := 10) (v := .ref h1) (C := RX11) (T := TX11) (N := 43) hx hb hts i_X11 hown hK hP 0 rfl rfl 25 (by decide) (hts _ kw_1228) (fun _ h9 => h9) rfl dX11_spreads_9 ?_
  refine lv_iload_n hx hb dX11_spreads_12 rfl (lv_at hl 0 rfl) ?_
  refine lv_iconst (v := (-1)) hx hb dX11_spreads_13 (by decide) ?_
  refine va_iast hx hb hK hP hD hS 1 0 rfl rfl (vpi (by decide)) dX11_spreads_14 (fun H locs hP hD hS => ?_)
  have hP : va_P D vwCl [(h0, .inr (10, (.ref h3 :: .int 0 :: .int 0 :: .ref h4 :: .ref h5 :: .ref h6 :: .ref h7 :: .int 0 :: .int 0 :: .ref h8 :: .ref h9 :: .int 0 :: .int 0 :: .int 0 :: .int 0 :: .int 0 :: .int 0 :: .int 0 :: .ref h10 :: .int 0 :: .ref h11 :: .int 0 :: .ref h12 :: .ref h2 :: .ref h13 :: .ref h1 :: .ref h14 :: .ref h15 :: .ref h16 :: .int 0 :: .ref h17 :: .int 0 :: .ref h18 :: .int 0 :: .int 0 :: .int 0 :: .ref h19 :: .ref h20 :: .ref h21 :: .ref h22 :: .int 0 :: .ref h23 :: .ref h24 :: []))), (h1, .inl (c 0, 8, .inl (upd (fun _ => 0) (Int32.toNatClampNeg 0) (-1)))), (h2, .inl (c 0, 202, .inl (fun _ => 0)))] H := hP
  have hD : va_D A [(h0, .inr (10, (.ref h3 :: .int 0 :: .int 0 :: .ref h4 :: .ref h5 :: .ref h6 :: .ref h7 :: .int 0 :: .int 0 :: .ref h8 :: .ref h9 :: .int 0 :: .int 0 :: .int 0 :: .int 0 :: .int 0 :: .int 0 :: .int 0 :: .ref h10 :: .int 0 :: .ref h11 :: .int 0 :: .ref h12 :: .ref h2 :: .ref h13 :: .ref h1 :: .ref h14 :: .ref h15 :: .ref h16 :: .int 0 :: .ref h17 :: .int 0 :: .ref h18 :: .int 0 :: .int 0 :: .int 0 :: .ref h19 :: .ref h20 :: .ref h21 :: .ref h22 :: .int 0 :: .ref h23 :: .ref h24 :: []))), (h1, .inl (c 0, 8, .inl (upd (fun _ => 0) (Int32.toNatClampNeg 0) (-1)))), (h2, .inl (c 0, 202, .inl (fun _ => 0)))] := hD
  refine lv_iinc (v := 1) (lv' := [(2, .int 1), (0, .ref h0), (1, .int 1)]) hx hb dX11_spreads_15 hl (k := 0) rfl (by decide) (by decide) rfl (fun ls hl => ?_)
  refine lv_goto (tgt := 2) hx hb dX11_spreads_18 (by decide) ?_
  refine lv_iload_n hx hb dX11_spreads_2 rfl (lv_at hl 0 rfl) ?_
  refine lv_bipush (v := 8) hx hb dX11_spreads_3 (by decide) ?_
  refine F_icmp_ge hx hb 21 dX11_spreads_5 (by decide) (by decide) ?_
  refine lv_aload_n hx hb dX11_spreads_8 rfl (lv_at hl 1 rfl) ?_
  refine va_get (D := D) (ci := 10) (v := .ref h1) (C := RX11) (T := TX11) (N := 43) hx hb hts i_X11 hown hK hP 0 rfl rfl 25 (by decide) (hts _ kw_1228) (fun _ h9 => h9) rfl dX11_spreads_9 ?_
  refine lv_iload_n hx hb dX11_spreads_12 rfl (lv_at hl 0 rfl) ?_
  refine lv_iconst (v := (-1)) hx hb dX11_spreads_13 (by decide) ?_
  refine va_iast hx hb hK hP hD hS 1 0 rfl rfl (vpi (by decide)) dX11_spreads_14 (fun H locs hP hD hS => ?_)
  have hP : va_P D vwCl [(h0, .inr (10, (.ref h3 :: .int 0 :: .int 0 :: .ref h4 :: .ref h5 :: .ref h6 :: .ref h7 :: .int 0 :: .int 0 :: .ref h8 :: .ref h9 :: .int 0 :: .int 0 :: .int 0 :: .int 0 :: .int 0 :: .int 0 :: .int 0 :: .ref h10 :: .int 0 :: .ref h11 :: .int 0 :: .ref h12 :: .ref h2 :: .ref h13 :: .ref h1 :: .ref h14 :: .ref h15 :: .ref h16 :: .int 0 :: .ref h17 :: .int 0 :: .ref h18 :: .int 0 :: .int 0 :: .int 0 :: .ref h19 :: .ref h20 :: .ref h21 :: .ref h22 :: .int 0 :: .ref h23 :: .ref h24 :: []))), (h1, .inl (c 0, 8, .inl (upd (upd (fun _ => 0) (Int32.toNatClampNeg 0) (-1)) (Int32.toNatClampNeg 1) (-1)))), (h2, .inl (c 0, 202, .inl (fun _ => 0)))] H := hP
  have hD : va_D A [(h0, .inr (10, (.ref h3 :: .int 0 :: .int 0 :: .ref h4 :: .ref h5 :: .ref h6 :: .ref h7 :: .int 0 :: .int 0 :: .ref h8 :: .ref h9 :: .int 0 :: .int 0 :: .int 0 :: .int 0 :: .int 0 :: .int 0 :: .int 0 :: .ref h10 :: .int 0 :: .ref h11 :: .int 0 :: .ref h12 :: .ref h2 :: .ref h13 :: .ref h1 :: .ref h14 :: .ref h15 :: .ref h16 :: .int 0 :: .ref h17 :: .int 0 :: .ref h18 :: .int 0 :: .int 0 :: .int 0 :: .ref h19 :: .ref h20 :: .ref h21 :: .ref h22 :: .int 0 :: .ref h23 :: .ref h24 :: []))), (h1, .inl (c 0, 8, .inl (upd (upd (fun _ => 0) (Int32.toNatClampNeg 0) (-1)) (Int32.toNatClampNeg 1) (-1)))), (h2, .inl (c 0, 202, .inl (fun _ => 0)))] := hD
  refine lv_iinc (v := 2) (lv' := [(2, .int 2), (0, .ref h0), (1, .int 1)]) hx hb dX11_spreads_15 hl (k := 0) rfl (by decide) (by decide) rfl (fun ls hl => ?_)
  refine lv_goto (tgt := 2) hx hb dX11_spreads_18 (by decide) ?_
  refine lv_iload_n hx hb dX11_spreads_2 rfl (lv_at hl 0 rfl) ?_
  refine lv_bipush (v := 8) hx hb dX11_spreads_3 (by decide) ?_
  refine F_icmp_ge hx hb 21 dX11_spreads_5 (by decide) (by decide) ?_
  refine lv_aload_n hx hb dX11_spreads_8 rfl (lv_at hl 1 rfl) ?_
  refine va_get (D := D) (ci := 10) (v := .ref h1) (C := RX11) (T := TX11) (N := 43) hx hb hts i_X11 hown hK hP 0 rfl rfl 25 (by decide) (hts _ kw_1228) (fun _ h9 => h9) rfl dX11_spreads_9 ?_
  refine lv_iload_n hx hb dX11_spreads_12 rfl (lv_at hl 0 rfl) ?_
  refine lv_iconst (v := (-1)) hx hb dX11_spreads_13 (by decide) ?_
  refine va_iast hx hb hK hP hD hS 1 0 rfl rfl (vpi (by decide)) dX11_spreads_14 (fun H locs hP hD hS => ?_)
  have hP : va_P D vwCl [(h0, .inr (10, (.ref h3 :: .int 0 :: .int 0 :: .ref h4 :: .ref h5 :: .ref h6 :: .ref h7 :: .int 0 :: .int 0 :: .ref h8 :: .ref h9 :: .int 0 :: .int 0 :: .int 0 :: .int 0 :: .int 0 :: .int 0 :: .int 0 :: .ref h10 :: .int 0 :: .ref h11 :: .int 0 :: .ref h12 :: .ref h2 :: .ref h13 :: .ref h1 :: .ref h14 :: .ref h15 :: .ref h16 :: .int 0 :: .ref h17 :: .int 0 :: .ref h18 :: .int 0 :: .int 0 :: .int 0 :: .ref h19 :: .ref h20 :: .ref h21 :: .ref h22 :: .int 0 :: .ref h23 :: .ref h24 :: []))), (h1, .inl (c 0, 8, .inl (upd (upd (upd (fun _ => 0) (Int32.toNatClampNeg 0) (-1)) (Int32.toNatClampNeg 1) (-1)) (Int32.toNatClampNeg 2) (-1)))), (h2, .inl (c 0, 202, .inl (fun _ => 0)))] H := hP
  have hD : va_D A [(h0, .inr (10, (.ref h3 :: .int 0 :: .int 0 :: .ref h4 :: .ref h5 :: .ref h6 :: .ref h7 :: .int 0 :: .int 0 :: .ref h8 :: .ref h9 :: .int 0 :: .int 0 :: .int 0 :: .int 0 :: .int 0 :: .int 0 :: .int 0 :: .ref h10 :: .int 0 :: .ref h11 :: .int 0 :: .ref h12 :: .ref h2 :: .ref h13 :: .ref h1 :: .ref h14 :: .ref h15 :: .ref h16 :: .int 0 :: .ref h17 :: .int 0 :: .ref h18 :: .int 0 :: .int 0 :: .int 0 :: .ref h19 :: .ref h20 :: .ref h21 :: .ref h22 :: .int 0 :: .ref h23 :: .ref h24 :: []))), (h1, .inl (c 0, 8, .inl (upd (upd (upd (fun _ => 0) (Int32.toNatClampNeg 0) (-1)) (Int32.toNatClampNeg 1) (-1)) (Int32.toNatClampNeg 2) (-1)))), (h2, .inl (c 0, 202, .inl (fun _ => 0)))] := hD
  refine lv_iinc (v := 3) (lv' := [(2, .int 3), (0, .ref h0), (1, .int 1)]) hx hb dX11_spreads_15 hl (k := 0) rfl (by decide) (by decide) rfl (fun ls hl => ?_)
  refine lv_goto (tgt := 2) hx hb dX11_spreads_18 (by decide) ?_
  refine lv_iload_n hx hb dX11_spreads_2 rfl (lv_at hl 0 rfl) ?_
  refine lv_bipush (v := 8) hx hb dX11_spreads_3 (by decide) ?_
  refine F_icmp_ge hx hb 21 dX11_spreads_5 (by decide) (by decide) ?_
  refine lv_aload_n hx hb dX11_spreads_8 rfl (lv_at hl 1 rfl) ?_
  refine va_get (D := D) (ci := 10) (v := .ref h1) (C := RX11) (T := TX11) (N := 43) hx hb hts i_X11 hown hK hP 0 rfl rfl 25 (by decide) (hts _ kw_1228) (fun _ h9 => h9) rfl dX11_spreads_9 ?_
  refine lv_iload_n hx hb dX11_spreads_12 rfl (lv_at hl 0 rfl) ?_
  refine lv_iconst (v := (-1)) hx hb dX11_spreads_13 (by decide) ?_
  refine va_iast hx hb hK hP hD hS 1 0 rfl rfl (vpi (by decide)) dX11_spreads_14 (fun H locs hP hD hS => ?_)
  have hP : va_P D vwCl [(h0, .inr (10, (.ref h3 :: .int 0 :: .int 0 :: .ref h4 :: .ref h5 :: .ref h6 :: .ref h7 :: .int 0 :: .int 0 :: .ref h8 :: .ref h9 :: .int 0 :: .int 0 :: .int 0 :: .int 0 :: .int 0 :: .int 0 :: .int 0 :: .ref h10 :: .int 0 :: .ref h11 :: .int 0 :: .ref h12 :: .ref h2 :: .ref h13 :: .ref h1 :: .ref h14 :: .ref h15 :: .ref h16 :: .int 0 :: .ref h17 :: .int 0 :: .ref h18 :: .int 0 :: .int 0 :: .int 0 :: .ref h19 :: .ref h20 :: .ref h21 :: .ref h22 :: .int 0 :: .ref h23 :: .ref h24 :: []))), (h1, .inl (c 0, 8, .inl (upd (upd (upd (upd (fun _ => 0) (Int32.toNatClampNeg 0) (-1)) (Int32.toNatClampNeg 1) (-1)) (Int32.toNatClampNeg 2) (-1)) (Int32.toNatClampNeg 3) (-1)))), (h2, .inl (c 0, 202, .inl (fun _ => 0)))] H := hP
  have hD : va_D A [(h0, .inr (10, (.ref h3 :: .int 0 :: .int 0 :: .ref h4 :: .ref h5 :: .ref h6 :: .ref h7 :: .int 0 :: .int 0 :: .ref h8 :: .ref h9 :: .int 0 :: .int 0 :: .int 0 :: .int 0 :: .int 0 :: .int 0 :: .int 0 :: .ref h10 :: .int 0 :: .ref h11 :: .int 0 :: .ref h12 :: .ref h2 :: .ref h13 :: .ref h1 :: .ref h14 :: .ref h15 :: .ref h16 :: .int 0 :: .ref h17 :: .int 0 :: .ref h18 :: .int 0 :: .int 0 :: .int 0 :: .ref h19 :: .ref h20 :: .ref h21 :: .ref h22 :: .int 0 :: .ref h23 :: .ref h24 :: []))), (h1, .inl (c 0, 8, .inl (upd (upd (upd (upd (fun _ => 0) (Int32.toNatClampNeg 0) (-1)) (Int32.toNatClampNeg 1) (-1)) (Int32.toNatClampNeg 2) (-1)) (Int32.toNatClampNeg 3) (-1)))), (h2, .inl (c 0, 202, .inl (fun _ => 0)))] := hD
  refine lv_iinc (v := 4) (lv' := [(2, .int 4), (0, .ref h0), (1, .int 1)]) hx hb dX11_spreads_15 hl (k := 0) rfl (by decide) (by decide) rfl (fun ls hl => ?_)
  refine lv_goto (tgt := 2) hx hb dX11_spreads_18 (by decide) ?_
  refine lv_iload_n hx hb dX11_spreads_2 rfl (lv_at hl 0 rfl) ?_
  refine lv_bipush (v := 8) hx hb dX11_spreads_3 (by decide) ?_
  refine F_icmp_ge hx hb 21 dX11_spreads_5 (by decide) (by decide) ?_
  refine lv_aload_n hx hb dX11_spreads_8 rfl (lv_at hl 1 rfl) ?_
  refine va_get (D := D) (ci := 10) (v := .ref h1) (C := RX11) (T := TX11) (N := 43) hx hb hts i_X11 hown hK hP 0 rfl rfl 25 (by decide) (hts _ kw_1228) (fun _ h9 => h9) rfl dX11_spreads_9 ?_
  refine lv_iload_n hx hb dX11_spreads_12 rfl (lv_at hl 0 rfl) ?_
  refine lv_iconst (v := (-1)) hx hb dX11_spreads_13 (by decide) ?_
  refine va_iast hx hb hK hP hD hS 1 0 rfl rfl (vpi (by decide)) dX11_spreads_14 (fun H locs hP hD hS => ?_)
  have hP : va_P D vwCl [(h0, .inr (10, (.ref h3 :: .int 0 :: .int 0 :: .ref h4 :: .ref h5 :: .ref h6 :: .ref h7 :: .int 0 :: .int 0 :: .ref h8 :: .ref h9 :: .int 0 :: .int 0 :: .int 0 :: .int 0 :: .int 0 :: .int 0 :: .int 0 :: .ref h10 :: .int 0 :: .ref h11 :: .int 0 :: .ref h12 :: .ref h2 :: .ref h13 :: .ref h1 :: .ref h14 :: .ref h15 :: .ref h16 :: .int 0 :: .ref h17 :: .int 0 :: .ref h18 :: .int 0 :: .int 0 :: .int 0 :: .ref h19 :: .ref h20 :: .ref h21 :: .ref h22 :: .int 0 :: .ref h23 :: .ref h24 :: []))), (h1, .inl (c 0, 8, .inl (upd (upd (upd (upd (upd (fun _ => 0) (Int32.toNatClampNeg 0) (-1)) (Int32.toNatClampNeg 1) (-1)) (Int32.toNatClampNeg 2) (-1)) (Int32.toNatClampNeg 3) (-1)) (Int32.toNatClampNeg 4) (-1)))), (h2, .inl (c 0, 202, .inl (fun _ => 0)))] H := hP
  have hD : va_D A [(h0, .inr (10, (.ref h3 :: .int 0 :: .int 0 :: .ref h4 :: .ref h5 :: .ref h6 :: .ref h7 :: .int 0 :: .int 0 :: .ref h8 :: .ref h9 :: .int 0 :: .int 0 :: .int 0 :: .int 0 :: .int 0 :: .int 0 :: .int 0 :: .ref h10 :: .int 0 :: .ref h11 :: .int 0 :: .ref h12 :: .ref h2 :: .ref h13 :: .ref h1 :: .ref h14 :: .ref h15 :: .ref h16 :: .int 0 :: .ref h17 :: .int 0 :: .ref h18 :: .int 0 :: .int 0 :: .int 0 :: .ref h19 :: .ref h20 :: .ref h21 :: .ref h22 :: .int 0 :: .ref h23 :: .ref h24 :: []))), (h1, .inl (c 0, 8, .inl (upd (upd (upd (upd (upd (fun _ => 0) (Int32.toNatClampNeg 0) (-1)) (Int32.toNatClampNeg 1) (-1)) (Int32.toNatClampNeg 2) (-1)) (Int32.toNatClampNeg 3) (-1)) (Int32.toNatClampNeg 4) (-1)))), (h2, .inl (c 0, 202, .inl (fun _ => 0)))] := hD
  refine lv_iinc (v := 5) (lv' := [(2, .int 5), (0, .ref h0), (1, .int 1)]) hx hb dX11_spreads_15 hl (k := 0) rfl (by decide) (by decide) rfl (fun ls hl => ?_)
  refine lv_goto (tgt := 2) hx hb dX11_spreads_18 (by decide) ?_
  refine lv_iload_n hx hb dX11_spreads_2 rfl (lv_at hl 0 rfl) ?_
  refine lv_bipush (v := 8) hx hb dX11_spreads_3 (by decide) ?_
  refine F_icmp_ge hx hb 21 dX11_spreads_5 (by decide) (by decide) ?_
  refine lv_aload_n hx hb dX11_spreads_8 rfl (lv_at hl 1 rfl) ?_
  refine va_get (D := D) (ci := 10) (v := .ref h1) (C := RX11) (T := TX11) (N := 43) hx hb hts i_X11 hown hK hP 0 rfl rfl 25 (by decide) (hts _ kw_1228) (fun _ h9 => h9) rfl dX11_spreads_9 ?_
  refine lv_iload_n hx hb dX11_spreads_12 rfl (lv_at hl 0 rfl) ?_
  refine lv_iconst (v := (-1)) hx hb dX11_spreads_13 (by decide) ?_
  refine va_iast hx hb hK hP hD hS 1 0 rfl rfl (vpi (by decide)) dX11_spreads_14 (fun H locs hP hD hS => ?_)
  have hP : va_P D vwCl [(h0, .inr (10, (.ref h3 :: .int 0 :: .int 0 :: .ref h4 :: .ref h5 :: .ref h6 :: .ref h7 :: .int 0 :: .int 0 :: .ref h8 :: .ref h9 :: .int 0 :: .int 0 :: .int 0 :: .int 0 :: .int 0 :: .int 0 :: .int 0 :: .ref h10 :: .int 0 :: .ref h11 :: .int 0 :: .ref h12 :: .ref h2 :: .ref h13 :: .ref h1 :: .ref h14 :: .ref h15 :: .ref h16 :: .int 0 :: .ref h17 :: .int 0 :: .ref h18 :: .int 0 :: .int 0 :: .int 0 :: .ref h19 :: .ref h20 :: .ref h21 :: .ref h22 :: .int 0 :: .ref h23 :: .ref h24 :: []))), (h1, .inl (c 0, 8, .inl (upd (upd (upd (upd (upd (upd (fun _ => 0) (Int32.toNatClampNeg 0) (-1)) (Int32.toNatClampNeg 1) (-1)) (Int32.toNatClampNeg 2) (-1)) (Int32.toNatClampNeg 3) (-1)) (Int32.toNatClampNeg 4) (-1)) (Int32.toNatClampNeg 5) (-1)))), (h2, .inl (c 0, 202, .inl (fun _ => 0)))] H := hP
  have hD : va_D A [(h0, .inr (10, (.ref h3 :: .int 0 :: .int 0 :: .ref h4 :: .ref h5 :: .ref h6 :: .ref h7 :: .int 0 :: .int 0 :: .ref h8 :: .ref h9 :: .int 0 :: .int 0 :: .int 0 :: .int 0 :: .int 0 :: .int 0 :: .int 0 :: .ref h10 :: .int 0 :: .ref h11 :: .int 0 :: .ref h12 :: .ref h2 :: .ref h13 :: .ref h1 :: .ref h14 :: .ref h15 :: .ref h16 :: .int 0 :: .ref h17 :: .int 0 :: .ref h18 :: .int 0 :: .int 0 :: .int 0 :: .ref h19 :: .ref h20 :: .ref h21 :: .ref h22 :: .int 0 :: .ref h23 :: .ref h24 :: []))), (h1, .inl (c 0, 8, .inl (upd (upd (upd (upd (upd (upd (fun _ => 0) (Int32.toNatClampNeg 0) (-1)) (Int32.toNatClampNeg 1) (-1)) (Int32.toNatClampNeg 2) (-1)) (Int32.toNatClampNeg 3) (-1)) (Int32.toNatClampNeg 4) (-1)) (Int32.toNatClampNeg 5) (-1)))), (h2, .inl (c 0, 202, .inl (fun _ => 0)))] := hD
  refine lv_iinc (v := 6) (lv' := [(2, .int 6), (0, .ref h0), (1, .int 1)]) hx hb dX11_spreads_15 hl (k := 0) rfl (by decide) (by decide) rfl (fun ls hl => ?_)
  refine lv_goto (tgt := 2) hx hb dX11_spreads_18 (by decide) ?_
  refine lv_iload_n hx hb dX11_spreads_2 rfl (lv_at hl 0 rfl) ?_
  refine lv_bipush (v := 8) hx hb dX11_spreads_3 (by decide) ?_
  refine F_icmp_ge hx hb 21 dX11_spreads_5 (by decide) (by decide) ?_
  refine lv_aload_n hx hb dX11_spreads_8 rfl (lv_at hl 1 rfl) ?_
  refine va_get (D := D) (ci := 10) (v := .ref h1) (C := RX11) (T := TX11) (N := 43) hx hb hts i_X11 hown hK hP 0 rfl rfl 25 (by decide) (hts _ kw_1228) (fun _ h9 => h9) rfl dX11_spreads_9 ?_
  refine lv_iload_n hx hb dX11_spreads_12 rfl (lv_at hl 0 rfl) ?_
  refine lv_iconst (v := (-1)) hx hb dX11_spreads_13 (by decide) ?_
  refine va_iast hx hb hK hP hD hS 1 0 rfl rfl (vpi (by decide)) dX11_spreads_14 (fun H locs hP hD hS => ?_)
  have hP : va_P D vwCl [(h0, .inr (10, (.ref h3 :: .int 0 :: .int 0 :: .ref h4 :: .ref h5 :: .ref h6 :: .ref h7 :: .int 0 :: .int 0 :: .ref h8 :: .ref h9 :: .int 0 :: .int 0 :: .int 0 :: .int 0 :: .int 0 :: .int 0 :: .int 0 :: .ref h10 :: .int 0 :: .ref h11 :: .int 0 :: .ref h12 :: .ref h2 :: .ref h13 :: .ref h1 :: .ref h14 :: .ref h15 :: .ref h16 :: .int 0 :: .ref h17 :: .int 0 :: .ref h18 :: .int 0 :: .int 0 :: .int 0 :: .ref h19 :: .ref h20 :: .ref h21 :: .ref h22 :: .int 0 :: .ref h23 :: .ref h24 :: []))), (h1, .inl (c 0, 8, .inl (upd (upd (upd (upd (upd (upd (upd (fun _ => 0) (Int32.toNatClampNeg 0) (-1)) (Int32.toNatClampNeg 1) (-1)) (Int32.toNatClampNeg 2) (-1)) (Int32.toNatClampNeg 3) (-1)) (Int32.toNatClampNeg 4) (-1)) (Int32.toNatClampNeg 5) (-1)) (Int32.toNatClampNeg 6) (-1)))), (h2, .inl (c 0, 202, .inl (fun _ => 0)))] H := hP
  have hD : va_D A [(h0, .inr (10, (.ref h3 :: .int 0 :: .int 0 :: .ref h4 :: .ref h5 :: .ref h6 :: .ref h7 :: .int 0 :: .int 0 :: .ref h8 :: .ref h9 :: .int 0 :: .int 0 :: .int 0 :: .int 0 :: .int 0 :: .int 0 :: .int 0 :: .ref h10 :: .int 0 :: .ref h11 :: .int 0 :: .ref h12 :: .ref h2 :: .ref h13 :: .ref h1 :: .ref h14 :: .ref h15 :: .ref h16 :: .int 0 :: .ref h17 :: .int 0 :: .ref h18 :: .int 0 :: .int 0 :: .int 0 :: .ref h19 :: .ref h20 :: .ref h21 :: .ref h22 :: .int 0 :: .ref h23 :: .ref h24 :: []))), (h1, .inl (c 0, 8, .inl (upd (upd (upd (upd (upd (upd (upd (fun _ => 0) (Int32.toNatClampNeg 0) (-1)) (Int32.toNatClampNeg 1) (-1)) (Int32.toNatClampNeg 2) (-1)) (Int32.toNatClampNeg 3) (-1)) (Int32.toNatClampNeg 4) (-1)) (Int32.toNatClampNeg 5) (-1)) (Int32.toNatClampNeg 6) (-1)))), (h2, .inl (c 0, 202, .inl (fun _ => 0)))] := hD
  refine lv_iinc (v := 7) (lv' := [(2, .int 7), (0, .ref h0), (1, .int 1)]) hx hb dX11_spreads_15 hl (k := 0) rfl (by decide) (by decide) rfl (fun ls hl => ?_)
  refine lv_goto (tgt := 2) hx hb dX11_spreads_18 (by decide) ?_
  refine lv_iload_n hx hb dX11_spreads_2 rfl (lv_at hl 0 rfl) ?_
  refine lv_bipush (v := 8) hx hb dX11_spreads_3 (by decide) ?_
  refine F_icmp_ge hx hb 21 dX11_spreads_5 (by decide) (by decide) ?_
  refine lv_aload_n hx hb dX11_spreads_8 rfl (lv_at hl 1 rfl) ?_
  refine va_get (D := D) (ci := 10) (v := .ref h1) (C := RX11) (T := TX11) (N := 43) hx hb hts i_X11 hown hK hP 0 rfl rfl 25 (by decide) (hts _ kw_1228) (fun _ h9 => h9) rfl dX11_spreads_9 ?_
  refine lv_iload_n hx hb dX11_spreads_12 rfl (lv_at hl 0 rfl) ?_
  refine lv_iconst (v := (-1)) hx hb dX11_spreads_13 (by decide) ?_
  refine va_iast hx hb hK hP hD hS 1 0 rfl rfl (vpi (by decide)) dX11_spreads_14 (fun H locs hP hD hS => ?_)
  have hP : va_P D vwCl [(h0, .inr (10, (.ref h3 :: .int 0 :: .int 0 :: .ref h4 :: .ref h5 :: .ref h6 :: .ref h7 :: .int 0 :: .int 0 :: .ref h8 :: .ref h9 :: .int 0 :: .int 0 :: .int 0 :: .int 0 :: .int 0 :: .int 0 :: .int 0 :: .ref h10 :: .int 0 :: .ref h11 :: .int 0 :: .ref h12 :: .ref h2 :: .ref h13 :: .ref h1 :: .ref h14 :: .ref h15 :: .ref h16 :: .int 0 :: .ref h17 :: .int 0 :: .ref h18 :: .int 0 :: .int 0 :: .int 0 :: .ref h19 :: .ref h20 :: .ref h21 :: .ref h22 :: .int 0 :: .ref h23 :: .ref h24 :: []))), (h1, .inl (c 0, 8, .inl (upd (upd (upd (upd (upd (upd (upd (upd (fun _ => 0) (Int32.toNatClampNeg 0) (-1)) (Int32.toNatClampNeg 1) (-1)) (Int32.toNatClampNeg 2) (-1)) (Int32.toNatClampNeg 3) (-1)) (Int32.toNatClampNeg 4) (-1)) (Int32.toNatClampNeg 5) (-1)) (Int32.toNatClampNeg 6) (-1)) (Int32.toNatClampNeg 7) (-1)))), (h2, .inl (c 0, 202, .inl (fun _ => 0)))] H := hP
  have hD : va_D A [(h0, .inr (10, (.ref h3 :: .int 0 :: .int 0 :: .ref h4 :: .ref h5 :: .ref h6 :: .ref h7 :: .int 0 :: .int 0 :: .ref h8 :: .ref h9 :: .int 0 :: .int 0 :: .int 0 :: .int 0 :: .int 0 :: .int 0 :: .int 0 :: .ref h10 :: .int 0 :: .ref h11 :: .int 0 :: .ref h12 :: .ref h2 :: .ref h13 :: .ref h1 :: .ref h14 :: .ref h15 :: .ref h16 :: .int 0 :: .ref h17 :: .int 0 :: .ref h18 :: .int 0 :: .int 0 :: .int 0 :: .ref h19 :: .ref h20 :: .ref h21 :: .ref h22 :: .int 0 :: .ref h23 :: .ref h24 :: []))), (h1, .inl (c 0, 8, .inl (upd (upd (upd (upd (upd (upd (upd (upd (fun _ => 0) (Int32.toNatClampNeg 0) (-1)) (Int32.toNatClampNeg 1) (-1)) (Int32.toNatClampNeg 2) (-1)) (Int32.toNatClampNeg 3) (-1)) (Int32.toNatClampNeg 4) (-1)) (Int32.toNatClampNeg 5) (-1)) (Int32.toNatClampNeg 6) (-1)) (Int32.toNatClampNeg 7) (-1)))), (h2, .inl (c 0, 202, .inl (fun _ => 0)))] := hD
  refine lv_iinc (v := 8) (lv' := [(2, .int 8), (0, .ref h0), (1, .int 1)]) hx hb dX11_spreads_15 hl (k := 0) rfl (by decide) (by decide) rfl (fun ls hl => ?_)
  refine lv_goto (tgt := 2) hx hb dX11_spreads_18 (by decide) ?_
  refine lv_iload_n hx hb dX11_spreads_2 rfl (lv_at hl 0 rfl) ?_
  refine lv_bipush (v := 8) hx hb dX11_spreads_3 (by decide) ?_
  refine T_icmp_ge (tgt := 21) hx hb dX11_spreads_5 (by decide) (by decide) ?_
  refine lv_aload_n hx hb dX11_spreads_21 rfl (lv_at hl 1 rfl) ?_
  refine va_get (D := D) (ci := 10) (v := .ref h1) (C := RX11) (T := TX11) (N := 43) hx hb hts i_X11 hown hK hP 0 rfl rfl 25 (by decide) (hts _ kw_1228) (fun _ h9 => h9) rfl dX11_spreads_22 ?_
  refine lv_iload_n hx hb dX11_spreads_25 rfl (lv_at hl 2 rfl) ?_
  refine lv_iconst (v := 0) hx hb dX11_spreads_26 (by decide) ?_
  refine va_iast hx hb hK hP hD hS 1 0 rfl rfl (vpi (by decide)) dX11_spreads_27 (fun H locs hP hD hS => ?_)
  have hP : va_P D vwCl [(h0, .inr (10, (.ref h3 :: .int 0 :: .int 0 :: .ref h4 :: .ref h5 :: .ref h6 :: .ref h7 :: .int 0 :: .int 0 :: .ref h8 :: .ref h9 :: .int 0 :: .int 0 :: .int 0 :: .int 0 :: .int 0 :: .int 0 :: .int 0 :: .ref h10 :: .int 0 :: .ref h11 :: .int 0 :: .ref h12 :: .ref h2 :: .ref h13 :: .ref h1 :: .ref h14 :: .ref h15 :: .ref h16 :: .int 0 :: .ref h17 :: .int 0 :: .ref h18 :: .int 0 :: .int 0 :: .int 0 :: .ref h19 :: .ref h20 :: .ref h21 :: .ref h22 :: .int 0 :: .ref h23 :: .ref h24 :: []))), (h1, .inl (c 0, 8, .inl (upd (upd (upd (upd (upd (upd (upd (upd (upd (fun _ => 0) (Int32.toNatClampNeg 0) (-1)) (Int32.toNatClampNeg 1) (-1)) (Int32.toNatClampNeg 2) (-1)) (Int32.toNatClampNeg 3) (-1)) (Int32.toNatClampNeg 4) (-1)) (Int32.toNatClampNeg 5) (-1)) (Int32.toNatClampNeg 6) (-1)) (Int32.toNatClampNeg 7) (-1)) (Int32.toNatClampNeg 1) 0))), (h2, .inl (c 0, 202, .inl (fun _ => 0)))] H := hP
  have hD : va_D A [(h0, .inr (10, (.ref h3 :: .int 0 :: .int 0 :: .ref h4 :: .ref h5 :: .ref h6 :: .ref h7 :: .int 0 :: .int 0 :: .ref h8 :: .ref h9 :: .int 0 :: .int 0 :: .int 0 :: .int 0 :: .int 0 :: .int 0 :: .int 0 :: .ref h10 :: .int 0 :: .ref h11 :: .int 0 :: .ref h12 :: .ref h2 :: .ref h13 :: .ref h1 :: .ref h14 :: .ref h15 :: .ref h16 :: .int 0 :: .ref h17 :: .int 0 :: .ref h18 :: .int 0 :: .int 0 :: .int 0 :: .ref h19 :: .ref h20 :: .ref h21 :: .ref h22 :: .int 0 :: .ref h23 :: .ref h24 :: []))), (h1, .inl (c 0, 8, .inl (upd (upd (upd (upd (upd (upd (upd (upd (upd (fun _ => 0) (Int32.toNatClampNeg 0) (-1)) (Int32.toNatClampNeg 1) (-1)) (Int32.toNatClampNeg 2) (-1)) (Int32.toNatClampNeg 3) (-1)) (Int32.toNatClampNeg 4) (-1)) (Int32.toNatClampNeg 5) (-1)) (Int32.toNatClampNeg 6) (-1)) (Int32.toNatClampNeg 7) (-1)) (Int32.toNatClampNeg 1) 0))), (h2, .inl (c 0, 202, .inl (fun _ => 0)))] := hD
  refine lv_iconst (v := 1) hx hb dX11_spreads_28 (by decide) ?_
  refine lv_istore_n (lv' := [(2, .int 1), (0, .ref h0), (1, .int 1)]) hx hb dX11_spreads_29 rfl hl (by decide) rfl (fun ls hl => ?_)
  refine lv_iload_n hx hb dX11_spreads_30 rfl (lv_at hl 0 rfl) ?_
  refine F_if_eq hx hb 145 dX11_spreads_31 (by decide) (by decide) ?_
  refine lv_iconst (v := 0) hx hb dX11_spreads_34 (by decide) ?_
  refine lv_istore_n (lv' := [(2, .int 0), (0, .ref h0), (1, .int 1)]) hx hb dX11_spreads_35 rfl hl (by decide) rfl (fun ls hl => ?_)
  refine lv_iconst (v := 0) hx hb dX11_spreads_36 (by decide) ?_
  refine lv_istore_n (lv' := [(3, .int 0), (2, .int 0), (0, .ref h0), (1, .int 1)]) hx hb dX11_spreads_37 rfl hl (by decide) rfl (fun ls hl => ?_)
  refine lv_iload_n hx hb dX11_spreads_38 rfl (lv_at hl 0 rfl) ?_
  refine lv_aload_n hx hb dX11_spreads_39 rfl (lv_at hl 2 rfl) ?_
  refine va_get (D := D) (ci := 10) (v := .ref h2) (C := RX11) (T := TX11) (N := 43) hx hb hts i_X11 hown hK hP 0 rfl rfl 23 (by decide) (hts _ kw_1226) (fun _ h9 => h9) rfl dX11_spreads_40 ?_
  refine lv_iconst (v := 0) hx hb dX11_spreads_43 (by decide) ?_
  refine va_iald hx hb hK hP 2 0 rfl rfl (vpi (by decide)) dX11_spreads_44 ?_
  refine tpi 0 (by first | rfl | decide) ?_
  refine T_icmp_ge (tgt := 142) hx hb dX11_spreads_45 (by decide) (by decide) ?_
  refine lv_goto (tgt := 30) hx hb dX11_spreads_142 (by decide) ?_
  refine lv_iload_n hx hb dX11_spreads_30 rfl (lv_at hl 1 rfl) ?_
  refine T_if_eq (tgt := 145) hx hb dX11_spreads_31 (by decide) (by decide) ?_
  exact retV hx hb hr hlocks hS (by decide) (by decide) dX11_spreads_145 (fun t ht => ⟨by rw [ht]; exact hP, hD⟩)
set_option maxHeartbeats 4000000 in
set_option maxRecDepth 100000 in
theorem m115_X11_place (l : Launch) (D : va_G) (c : Nat → ClassId) (h0 h1 h2 h3 h4 h5 h6 h7 h8 h9 h10 h11 h12 h13 h14 h15 h16 h17 h18 h19 h20 h21 h22 h23 h24 : Nat) (sz : Nat) : Met l yX11_place (Cond.code yX11_place cX11_place 5 (some .int) :: TB) ({ frames := 1, cells := 0, slots := 0, locals := 25 } : Room) (va_Pc [.ref h0, .int 1, .int 4] (PW D c [(h0, .inr (10, (.ref h3 :: .int 0 :: .int 0 :: .ref h4 :: .ref h5 :: .ref h6 :: .ref h7 :: .int 0 :: .int 0 :: .ref h8 :: .ref h9 :: .int 0 :: .int 0 :: .int 0 :: .int 0 :: .int 0 :: .int 0 :: .int 0 :: .ref h10 :: .int 0 :: .ref h11 :: .int 0 :: .ref h12 :: .ref h2 :: .ref h13 :: .ref h1 :: .ref h14 :: .ref h15 :: .ref h16 :: .int 0 :: .ref h17 :: .int 0 :: .ref h18 :: .int 0 :: .int 0 :: .int 0 :: .ref h19 :: .ref h20 :: .ref h21 :: .ref h22 :: .int 0 :: .ref h23 :: .ref h24 :: []))), (h1, .inl (c 0, 8, .inl (fun _ => 0))), (h2, .inl (c 0, 202, .inl (fun _ => 0)))] sz)) ((QI 2 (fun A t => va_P D vwCl [(h0, .inr (10, (.ref h3 :: .int 0 :: .int 0 :: .ref h4 :: .ref h5 :: .ref h6 :: .ref h7 :: .int 0 :: .int 0 :: .ref h8 :: .ref h9 :: .int 0 :: .int 0 :: .int 0 :: .int 0 :: .int 0 :: .int 0 :: .int 0 :: .ref h10 :: .int 0 :: .ref h11 :: .int 0 :: .ref h12 :: .ref h2 :: .ref h13 :: .ref h1 :: .ref h14 :: .ref h15 :: .ref h16 :: .int 0 :: .ref h17 :: .int 0 :: .ref h18 :: .int 0 :: .int 0 :: .int 0 :: .ref h19 :: .ref h20 :: .ref h21 :: .ref h22 :: .int 0 :: .ref h23 :: .ref h24 :: []))), (h1, .inl (c 0, 8, .inl (upd (upd (upd (upd (upd (upd (upd (upd (upd (fun _ => 0) (Int32.toNatClampNeg 0) (-1)) (Int32.toNatClampNeg 1) (-1)) (Int32.toNatClampNeg 2) (-1)) (Int32.toNatClampNeg 3) (-1)) (Int32.toNatClampNeg 4) (-1)) (Int32.toNatClampNeg 5) (-1)) (Int32.toNatClampNeg 6) (-1)) (Int32.toNatClampNeg 7) (-1)) (Int32.toNatClampNeg 1) 0))), (h2, .inl (c 0, 202, .inl (fun _ => 0)))] t.heap ∧ va_D A [(h0, .inr (10, (.ref h3 :: .int 0 :: .int 0 :: .ref h4 :: .ref h5 :: .ref h6 :: .ref h7 :: .int 0 :: .int 0 :: .ref h8 :: .ref h9 :: .int 0 :: .int 0 :: .int 0 :: .int 0 :: .int 0 :: .int 0 :: .int 0 :: .ref h10 :: .int 0 :: .ref h11 :: .int 0 :: .ref h12 :: .ref h2 :: .ref h13 :: .ref h1 :: .ref h14 :: .ref h15 :: .ref h16 :: .int 0 :: .ref h17 :: .int 0 :: .ref h18 :: .int 0 :: .int 0 :: .int 0 :: .ref h19 :: .ref h20 :: .ref h21 :: .ref h22 :: .int 0 :: .ref h23 :: .ref h24 :: []))), (h1, .inl (c 0, 8, .inl (upd (upd (upd (upd (upd (upd (upd (upd (upd (fun _ => 0) (Int32.toNatClampNeg 0) (-1)) (Int32.toNatClampNeg 1) (-1)) (Int32.toNatClampNeg 2) (-1)) (Int32.toNatClampNeg 3) (-1)) (Int32.toNatClampNeg 4) (-1)) (Int32.toNatClampNeg 5) (-1)) (Int32.toNatClampNeg 6) (-1)) (Int32.toNatClampNeg 7) (-1)) (Int32.toNatClampNeg 1) 0))), (h2, .inl (c 0, 202, .inl (fun _ => 0)))])) (va_A [(h0, .inr (10, (.ref h3 :: .int 0 :: .int 0 :: .ref h4 :: .ref h5 :: .ref h6 :: .ref h7 :: .int 0 :: .int 0 :: .ref h8 :: .ref h9 :: .int 0 :: .int 0 :: .int 0 :: .int 0 :: .int 0 :: .int 0 :: .int 0 :: .ref h10 :: .int 0 :: .ref h11 :: .int 0 :: .ref h12 :: .ref h2 :: .ref h13 :: .ref h1 :: .ref h14 :: .ref h15 :: .ref h16 :: .int 0 :: .ref h17 :: .int 0 :: .ref h18 :: .int 0 :: .int 0 :: .int 0 :: .ref h19 :: .ref h20 :: .ref h21 :: .ref h22 :: .int 0 :: .ref h23 :: .ref h24 :: []))), (h1, .inl (c 0, 8, .inl (fun _ => 0))), (h2, .inl (c 0, 202, .inl (fun _ => 0)))] sz)) 0 0 (va_A [(h0, .inr (10, (.ref h3 :: .int 0 :: .int 0 :: .ref h4 :: .ref h5 :: .ref h6 :: .ref h7 :: .int 0 :: .int 0 :: .ref h8 :: .ref h9 :: .int 0 :: .int 0 :: .int 0 :: .int 0 :: .int 0 :: .int 0 :: .int 0 :: .ref h10 :: .int 0 :: .ref h11 :: .int 0 :: .ref h12 :: .ref h2 :: .ref h13 :: .ref h1 :: .ref h14 :: .ref h15 :: .ref h16 :: .int 0 :: .ref h17 :: .int 0 :: .ref h18 :: .int 0 :: .int 0 :: .int 0 :: .ref h19 :: .ref h20 :: .ref h21 :: .ref h22 :: .int 0 :: .ref h23 :: .ref h24 :: []))), (h1, .inl (c 0, 8, .inl (fun _ => 0))), (h2, .inl (c 0, 202, .inl (fun _ => 0)))] sz) := by
  refine start (by decide +kernel) (Nat.le_of_ble_eq_true rfl) ?_
  intro p e s m below meth cd A ls hx hb hr hml hts hown hlocks hin hA hS hK hP hD hN hl
  have hown : s.vm.findClass RX11 = some m.cls := hown
  have hl : lv_has ls 5 [(0, .ref h0), (1, .int 1), (2, .int 4)] := hl
  have hP : va_P D vwCl [(h0, .inr (10, (.ref h3 :: .int 0 :: .int 0 :: .ref h4 :: .ref h5 :: .ref h6 :: .ref h7 :: .int 0 :: .int 0 :: .ref h8 :: .ref h9 :: .int 0 :: .int 0 :: .int 0 :: .int 0 :: .int 0 :: .int 0 :: .int 0 :: .ref h10 :: .int 0 :: .ref h11 :: .int 0 :: .ref h12 :: .ref h2 :: .ref h13 :: .ref h1 :: .ref h14 :: .ref h15 :: .ref h16 :: .int 0 :: .ref h17 :: .int 0 :: .ref h18 :: .int 0 :: .int 0 :: .int 0 :: .ref h19 :: .ref h20 :: .ref h21 :: .ref h22 :: .int 0 :: .ref h23 :: .ref h24 :: []))), (h1, .inl (c 0, 8, .inl (fun _ => 0))), (h2, .inl (c 0, 202, .inl (fun _ => 0)))] s.heap := hP
  refine lv_iload_n hx hb dX11_place_0 rfl (lv_at hl 1 rfl) ?_
  refine fin_i (run_S (n := 1) ⟨hx, hb, hml, hown, hts⟩ (m113_X11_isPlace l D c s.heap.size) (hP.sub [] rfl) (hD.sub [] (by decide) rfl) hK hN rfl rfl kw_1521 kw_1522 kw_122 kw_1523 (by decide +kernel) ⟨(Nat.le_of_ble_eq_true rfl), (Nat.le_of_ble_eq_true rfl)⟩ rfl hl.1 rfl (Nat.le_of_ble_eq_true rfl) dX11_place_1 ⟨(Nat.le_of_ble_eq_true rfl), (Nat.le_of_ble_eq_true rfl)⟩) hP hD hS hA [] rfl (fun H locs t hB hj hS => ?_)
  obtain ⟨hP1, hD1⟩ := hB
  obtain ⟨hP, hD⟩ := hj (wr := [(h0, .inr (10, (.ref h3 :: .int 0 :: .int 0 :: .ref h4 :: .ref h5 :: .ref h6 :: .ref h7 :: .int 0 :: .int 0 :: .ref h8 :: .ref h9 :: .int 0 :: .int 0 :: .int 0 :: .int 0 :: .int 0 :: .int 0 :: .int 0 :: .ref h10 :: .int 0 :: .ref h11 :: .int 0 :: .ref h12 :: .ref h2 :: .ref h13 :: .ref h1 :: .ref h14 :: .ref h15 :: .ref h16 :: .int 0 :: .ref h17 :: .int 0 :: .ref h18 :: .int 0 :: .int 0 :: .int 0 :: .ref h19 :: .ref h20 :: .ref h21 :: .ref h22 :: .int 0 :: .ref h23 :: .ref h24 :: []))), (h1, .inl (c 0, 8, .inl (fun _ => 0))), (h2, .inl (c 0, 202, .inl (fun _ => 0)))]) (w1 := []) [0, 1, 2] rfl (by decide) (by decide) hP1 hD1
  have hP : va_P D vwCl [(h0, .inr (10, (.ref h3 :: .int 0 :: .int 0 :: .ref h4 :: .ref h5 :: .ref h6 :: .ref h7 :: .int 0 :: .int 0 :: .ref h8 :: .ref h9 :: .int 0 :: .int 0 :: .int 0 :: .int 0 :: .int 0 :: .int 0 :: .int 0 :: .ref h10 :: .int 0 :: .ref h11 :: .int 0 :: .ref h12 :: .ref h2 :: .ref h13 :: .ref h1 :: .ref h14 :: .ref h15 :: .ref h16 :: .int 0 :: .ref h17 :: .int 0 :: .ref h18 :: .int 0 :: .int 0 :: .int 0 :: .ref h19 :: .ref h20 :: .ref h21 :: .ref h22 :: .int 0 :: .ref h23 :: .ref h24 :: []))), (h1, .inl (c 0, 8, .inl (fun _ => 0))), (h2, .inl (c 0, 202, .inl (fun _ => 0)))] H := hP
  have hD : va_D A [(h0, .inr (10, (.ref h3 :: .int 0 :: .int 0 :: .ref h4 :: .ref h5 :: .ref h6 :: .ref h7 :: .int 0 :: .int 0 :: .ref h8 :: .ref h9 :: .int 0 :: .int 0 :: .int 0 :: .int 0 :: .int 0 :: .int 0 :: .int 0 :: .ref h10 :: .int 0 :: .ref h11 :: .int 0 :: .ref h12 :: .ref h2 :: .ref h13 :: .ref h1 :: .ref h14 :: .ref h15 :: .ref h16 :: .int 0 :: .ref h17 :: .int 0 :: .ref h18 :: .int 0 :: .int 0 :: .int 0 :: .ref h19 :: .ref h20 :: .ref h21 :: .ref h22 :: .int 0 :: .ref h23 :: .ref h24 :: []))), (h1, .inl (c 0, 8, .inl (fun _ => 0))), (h2, .inl (c 0, 202, .inl (fun _ => 0)))] := hD
  refine F_if_eq hx hb 19 dX11_place_4 (by decide) (by decide) ?_
  refine lv_iload_n hx hb dX11_place_7 rfl (lv_at hl 2 rfl) ?_
  refine lv_i2l (v := 4) hx hb dX11_place_8 (by decide) ?_
  refine lv_lconst (v := 0) hx hb dX11_place_9 (by decide) ?_
  refine lv_ldc2 (v := 4) hx hb hown (hts _ kw_1524) dX11_place_10 ?_
  refine fin_i (run_S (n := 3) ⟨hx, hb, hml, hown, hts⟩ (m105_X11_in l D c H.size) (hP.sub [] rfl) (hD.sub [] (by decide) rfl) hK hN rfl rfl kw_1394 kw_1395 kw_122 kw_1396 (by decide +kernel) ⟨(Nat.le_of_ble_eq_true rfl), (Nat.le_of_ble_eq_true rfl)⟩ rfl hl.1 rfl (Nat.le_of_ble_eq_true rfl) dX11_place_13 ⟨(Nat.le_of_ble_eq_true rfl), (Nat.le_of_ble_eq_true rfl)⟩) hP hD hS hA [] rfl (fun H locs t hB hj hS => ?_)
  obtain ⟨hP1, hD1⟩ := hB
  obtain ⟨hP, hD⟩ := hj (wr := [(h0, .inr (10, (.ref h3 :: .int 0 :: .int 0 :: .ref h4 :: .ref h5 :: .ref h6 :: .ref h7 :: .int 0 :: .int 0 :: .ref h8 :: .ref h9 :: .int 0 :: .int 0 :: .int 0 :: .int 0 :: .int 0 :: .int 0 :: .int 0 :: .ref h10 :: .int 0 :: .ref h11 :: .int 0 :: .ref h12 :: .ref h2 :: .ref h13 :: .ref h1 :: .ref h14 :: .ref h15 :: .ref h16 :: .int 0 :: .ref h17 :: .int 0 :: .ref h18 :: .int 0 :: .int 0 :: .int 0 :: .ref h19 :: .ref h20 :: .ref h21 :: .ref h22 :: .int 0 :: .ref h23 :: .ref h24 :: []))), (h1, .inl (c 0, 8, .inl (fun _ => 0))), (h2, .inl (c 0, 202, .inl (fun _ => 0)))]) (w1 := []) [0, 1, 2] rfl (by decide) (by decide) hP1 hD1
  have hP : va_P D vwCl [(h0, .inr (10, (.ref h3 :: .int 0 :: .int 0 :: .ref h4 :: .ref h5 :: .ref h6 :: .ref h7 :: .int 0 :: .int 0 :: .ref h8 :: .ref h9 :: .int 0 :: .int 0 :: .int 0 :: .int 0 :: .int 0 :: .int 0 :: .int 0 :: .ref h10 :: .int 0 :: .ref h11 :: .int 0 :: .ref h12 :: .ref h2 :: .ref h13 :: .ref h1 :: .ref h14 :: .ref h15 :: .ref h16 :: .int 0 :: .ref h17 :: .int 0 :: .ref h18 :: .int 0 :: .int 0 :: .int 0 :: .ref h19 :: .ref h20 :: .ref h21 :: .ref h22 :: .int 0 :: .ref h23 :: .ref h24 :: []))), (h1, .inl (c 0, 8, .inl (fun _ => 0))), (h2, .inl (c 0, 202, .inl (fun _ => 0)))] H := hP
  have hD : va_D A [(h0, .inr (10, (.ref h3 :: .int 0 :: .int 0 :: .ref h4 :: .ref h5 :: .ref h6 :: .ref h7 :: .int 0 :: .int 0 :: .ref h8 :: .ref h9 :: .int 0 :: .int 0 :: .int 0 :: .int 0 :: .int 0 :: .int 0 :: .int 0 :: .ref h10 :: .int 0 :: .ref h11 :: .int 0 :: .ref h12 :: .ref h2 :: .ref h13 :: .ref h1 :: .ref h14 :: .ref h15 :: .ref h16 :: .int 0 :: .ref h17 :: .int 0 :: .ref h18 :: .int 0 :: .int 0 :: .int 0 :: .ref h19 :: .ref h20 :: .ref h21 :: .ref h22 :: .int 0 :: .ref h23 :: .ref h24 :: []))), (h1, .inl (c 0, 8, .inl (fun _ => 0))), (h2, .inl (c 0, 202, .inl (fun _ => 0)))] := hD
  refine T_if_ne (tgt := 22) hx hb dX11_place_16 (by decide) (by decide) ?_
  refine lv_iload_n hx hb dX11_place_22 rfl (lv_at hl 2 rfl) ?_
  refine lv_iconst (v := 2) hx hb dX11_place_23 (by decide) ?_
  refine T_icmp_ge (tgt := 40) hx hb dX11_place_24 (by decide) (by decide) ?_
  refine lv_iload_n hx hb dX11_place_40 rfl (lv_at hl 2 rfl) ?_
  refine lv_iconst (v := 2) hx hb dX11_place_41 (by decide) ?_
  refine T_icmp_ne (tgt := 51) hx hb dX11_place_42 (by decide) (by decide) ?_
  refine lv_iload_n hx hb dX11_place_51 rfl (lv_at hl 2 rfl) ?_
  refine lv_iconst (v := 3) hx hb dX11_place_52 (by decide) ?_
  refine T_icmp_ne (tgt := 75) hx hb dX11_place_53 (by decide) (by decide) ?_
  refine lv_aload_n hx hb dX11_place_75 rfl (lv_at hl 0 rfl) ?_
  refine lv_iload_n hx hb dX11_place_76 rfl (lv_at hl 1 rfl) ?_
  refine fin_v (run_V (n := 1) (ci := 10) ⟨hx, hb, hml, hown, hts⟩ (m114_X11_spreads l D c h0 h1 h2 h3 h4 h5 h6 h7 h8 h9 h10 h11 h12 h13 h14 h15 h16 h17 h18 h19 h20 h21 h22 h23 h24 H.size) (hP.sub [0, 1, 2] rfl) (hD.sub [0, 1, 2] (by decide) rfl) hK hN rfl rfl kw_1533 kw_1535 kw_75 kw_122 kw_1536 ⟨rfl, by decide +kernel⟩ ⟨(Nat.le_of_ble_eq_true rfl), (Nat.le_of_ble_eq_true rfl)⟩ rfl rfl rfl hl.1 rfl (Nat.le_of_ble_eq_true rfl) dX11_place_77 ⟨(Nat.le_of_ble_eq_true rfl), (Nat.le_of_ble_eq_true rfl)⟩) hP hD hS hA [0, 1, 2] rfl (fun H locs t hB hj hS => ?_)
  obtain ⟨hP1, hD1⟩ := hB
  obtain ⟨hP, hD⟩ := hj (wr := []) (w1 := [(h0, .inr (10, (.ref h3 :: .int 0 :: .int 0 :: .ref h4 :: .ref h5 :: .ref h6 :: .ref h7 :: .int 0 :: .int 0 :: .ref h8 :: .ref h9 :: .int 0 :: .int 0 :: .int 0 :: .int 0 :: .int 0 :: .int 0 :: .int 0 :: .ref h10 :: .int 0 :: .ref h11 :: .int 0 :: .ref h12 :: .ref h2 :: .ref h13 :: .ref h1 :: .ref h14 :: .ref h15 :: .ref h16 :: .int 0 :: .ref h17 :: .int 0 :: .ref h18 :: .int 0 :: .int 0 :: .int 0 :: .ref h19 :: .ref h20 :: .ref h21 :: .ref h22 :: .int 0 :: .ref h23 :: .ref h24 :: []))), (h1, .inl (c 0, 8, .inl (upd (upd (upd (upd (upd (upd (upd (upd (upd (fun _ => 0) (Int32.toNatClampNeg 0) (-1)) (Int32.toNatClampNeg 1) (-1)) (Int32.toNatClampNeg 2) (-1)) (Int32.toNatClampNeg 3) (-1)) (Int32.toNatClampNeg 4) (-1)) (Int32.toNatClampNeg 5) (-1)) (Int32.toNatClampNeg 6) (-1)) (Int32.toNatClampNeg 7) (-1)) (Int32.toNatClampNeg 1) 0))), (h2, .inl (c 0, 202, .inl (fun _ => 0)))]) [] rfl (by decide) (by decide) hP1 hD1
  have hP : va_P D vwCl [(h0, .inr (10, (.ref h3 :: .int 0 :: .int 0 :: .ref h4 :: .ref h5 :: .ref h6 :: .ref h7 :: .int 0 :: .int 0 :: .ref h8 :: .ref h9 :: .int 0 :: .int 0 :: .int 0 :: .int 0 :: .int 0 :: .int 0 :: .int 0 :: .ref h10 :: .int 0 :: .ref h11 :: .int 0 :: .ref h12 :: .ref h2 :: .ref h13 :: .ref h1 :: .ref h14 :: .ref h15 :: .ref h16 :: .int 0 :: .ref h17 :: .int 0 :: .ref h18 :: .int 0 :: .int 0 :: .int 0 :: .ref h19 :: .ref h20 :: .ref h21 :: .ref h22 :: .int 0 :: .ref h23 :: .ref h24 :: []))), (h1, .inl (c 0, 8, .inl (upd (upd (upd (upd (upd (upd (upd (upd (upd (fun _ => 0) (Int32.toNatClampNeg 0) (-1)) (Int32.toNatClampNeg 1) (-1)) (Int32.toNatClampNeg 2) (-1)) (Int32.toNatClampNeg 3) (-1)) (Int32.toNatClampNeg 4) (-1)) (Int32.toNatClampNeg 5) (-1)) (Int32.toNatClampNeg 6) (-1)) (Int32.toNatClampNeg 7) (-1)) (Int32.toNatClampNeg 1) 0))), (h2, .inl (c 0, 202, .inl (fun _ => 0)))] H := hP
  have hD : va_D A [(h0, .inr (10, (.ref h3 :: .int 0 :: .int 0 :: .ref h4 :: .ref h5 :: .ref h6 :: .ref h7 :: .int 0 :: .int 0 :: .ref h8 :: .ref h9 :: .int 0 :: .int 0 :: .int 0 :: .int 0 :: .int 0 :: .int 0 :: .int 0 :: .ref h10 :: .int 0 :: .ref h11 :: .int 0 :: .ref h12 :: .ref h2 :: .ref h13 :: .ref h1 :: .ref h14 :: .ref h15 :: .ref h16 :: .int 0 :: .ref h17 :: .int 0 :: .ref h18 :: .int 0 :: .int 0 :: .int 0 :: .ref h19 :: .ref h20 :: .ref h21 :: .ref h22 :: .int 0 :: .ref h23 :: .ref h24 :: []))), (h1, .inl (c 0, 8, .inl (upd (upd (upd (upd (upd (upd (upd (upd (upd (fun _ => 0) (Int32.toNatClampNeg 0) (-1)) (Int32.toNatClampNeg 1) (-1)) (Int32.toNatClampNeg 2) (-1)) (Int32.toNatClampNeg 3) (-1)) (Int32.toNatClampNeg 4) (-1)) (Int32.toNatClampNeg 5) (-1)) (Int32.toNatClampNeg 6) (-1)) (Int32.toNatClampNeg 7) (-1)) (Int32.toNatClampNeg 1) 0))), (h2, .inl (c 0, 202, .inl (fun _ => 0)))] := hD
  refine lv_iconst (v := 0) hx hb dX11_place_80 (by decide) ?_
  refine lv_istore_n (lv' := [(3, .int 0), (0, .ref h0), (1, .int 1), (2, .int 4)]) hx hb dX11_place_81 rfl hl (by decide) rfl (fun ls hl => ?_)
  refine lv_iconst (v := 0) hx hb dX11_place_82 (by decide) ?_
  refine lv_istore (lv' := [(4, .int 0), (3, .int 0), (0, .ref h0), (1, .int 1), (2, .int 4)]) hx hb dX11_place_83 hl (by decide) rfl (fun ls hl => ?_)
  refine lv_iload hx hb dX11_place_85 (lv_at hl 0 rfl) ?_
  refine lv_bipush (v := 8) hx hb dX11_place_87 (by decide) ?_
  refine F_icmp_ge hx hb 119 dX11_place_89 (by decide) (by decide) ?_
  refine lv_iload_n hx hb dX11_place_92 rfl (lv_at hl 1 rfl) ?_
  refine lv_aload_n hx hb dX11_place_93 rfl (lv_at hl 2 rfl) ?_
  refine va_get (D := D) (ci := 10) (v := .ref h1) (C := RX11) (T := TX11) (N := 43) hx hb hts i_X11 hown hK hP 0 rfl rfl 25 (by decide) (hts _ kw_1228) (fun _ h9 => h9) rfl dX11_place_94 ?_
  refine lv_iload hx hb dX11_place_97 (lv_at hl 0 rfl) ?_
  refine va_iald hx hb hK hP 1 0 rfl rfl (vpi (by decide)) dX11_place_99 ?_
  refine tpi (-1) (by first | rfl | decide) ?_
  refine T_if_lt (tgt := 110) hx hb dX11_place_100 (by decide) (by decide) ?_
  refine lv_iconst (v := 0) hx hb dX11_place_110 (by decide) ?_
  refine lv_ior hx hb dX11_place_111 ?_
  refine tpi 0 (by decide) ?_
  refine lv_istore_n (lv' := [(3, .int 0), (4, .int 0), (0, .ref h0), (1, .int 1), (2, .int 4)]) hx hb dX11_place_112 rfl hl (by decide) rfl (fun ls hl => ?_)
  refine lv_iinc (v := 1) (lv' := [(4, .int 1), (3, .int 0), (0, .ref h0), (1, .int 1), (2, .int 4)]) hx hb dX11_place_113 hl (k := 1) rfl (by decide) (by decide) rfl (fun ls hl => ?_)
  refine lv_goto (tgt := 85) hx hb dX11_place_116 (by decide) ?_
  refine lv_iload hx hb dX11_place_85 (lv_at hl 0 rfl) ?_
  refine lv_bipush (v := 8) hx hb dX11_place_87 (by decide) ?_
  refine F_icmp_ge hx hb 119 dX11_place_89 (by decide) (by decide) ?_
  refine lv_iload_n hx hb dX11_place_92 rfl (lv_at hl 1 rfl) ?_
  refine lv_aload_n hx hb dX11_place_93 rfl (lv_at hl 2 rfl) ?_
  refine va_get (D := D) (ci := 10) (v := .ref h1) (C := RX11) (T := TX11) (N := 43) hx hb hts i_X11 hown hK hP 0 rfl rfl 25 (by decide) (hts _ kw_1228) (fun _ h9 => h9) rfl dX11_place_94 ?_
  refine lv_iload hx hb dX11_place_97 (lv_at hl 0 rfl) ?_
  refine va_iald hx hb hK hP 1 0 rfl rfl (vpi (by decide)) dX11_place_99 ?_
  refine tpi 0 (by first | rfl | decide) ?_
  refine F_if_lt hx hb 110 dX11_place_100 (by decide) (by decide) ?_
  refine lv_iconst (v := 1) hx hb dX11_place_103 (by decide) ?_
  refine lv_iload hx hb dX11_place_104 (lv_at hl 0 rfl) ?_
  refine lv_ishl hx hb dX11_place_106 ?_
  refine tpi 2 (by decide) ?_
  refine lv_goto (tgt := 111) hx hb dX11_place_107 (by decide) ?_
  refine lv_ior hx hb dX11_place_111 ?_
  refine tpi 2 (by decide) ?_
  refine lv_istore_n (lv' := [(3, .int 2), (4, .int 1), (0, .ref h0), (1, .int 1), (2, .int 4)]) hx hb dX11_place_112 rfl hl (by decide) rfl (fun ls hl => ?_)
  refine lv_iinc (v := 2) (lv' := [(4, .int 2), (3, .int 2), (0, .ref h0), (1, .int 1), (2, .int 4)]) hx hb dX11_place_113 hl (k := 1) rfl (by decide) (by decide) rfl (fun ls hl => ?_)
  refine lv_goto (tgt := 85) hx hb dX11_place_116 (by decide) ?_
  refine lv_iload hx hb dX11_place_85 (lv_at hl 0 rfl) ?_
  refine lv_bipush (v := 8) hx hb dX11_place_87 (by decide) ?_
  refine F_icmp_ge hx hb 119 dX11_place_89 (by decide) (by decide) ?_
  refine lv_iload_n hx hb dX11_place_92 rfl (lv_at hl 1 rfl) ?_
  refine lv_aload_n hx hb dX11_place_93 rfl (lv_at hl 2 rfl) ?_
  refine va_get (D := D) (ci := 10) (v := .ref h1) (C := RX11) (T := TX11) (N := 43) hx hb hts i_X11 hown hK hP 0 rfl rfl 25 (by decide) (hts _ kw_1228) (fun _ h9 => h9) rfl dX11_place_94 ?_
  refine lv_iload hx hb dX11_place_97 (lv_at hl 0 rfl) ?_
  refine va_iald hx hb hK hP 1 0 rfl rfl (vpi (by decide)) dX11_place_99 ?_
  refine tpi (-1) (by first | rfl | decide) ?_
  refine T_if_lt (tgt := 110) hx hb dX11_place_100 (by decide) (by decide) ?_
  refine lv_iconst (v := 0) hx hb dX11_place_110 (by decide) ?_
  refine lv_ior hx hb dX11_place_111 ?_
  refine tpi 2 (by decide) ?_
  refine lv_istore_n (lv' := [(3, .int 2), (4, .int 2), (0, .ref h0), (1, .int 1), (2, .int 4)]) hx hb dX11_place_112 rfl hl (by decide) rfl (fun ls hl => ?_)
  refine lv_iinc (v := 3) (lv' := [(4, .int 3), (3, .int 2), (0, .ref h0), (1, .int 1), (2, .int 4)]) hx hb dX11_place_113 hl (k := 1) rfl (by decide) (by decide) rfl (fun ls hl => ?_)
  refine lv_goto (tgt := 85) hx hb dX11_place_116 (by decide) ?_
  refine lv_iload hx hb dX11_place_85 (lv_at hl 0 rfl) ?_
  refine lv_bipush (v := 8) hx hb dX11_place_87 (by decide) ?_
  refine F_icmp_ge hx hb 119 dX11_place_89 (by decide) (by decide) ?_
  refine lv_iload_n hx hb dX11_place_92 rfl (lv_at hl 1 rfl) ?_
  refine lv_aload_n hx hb dX11_place_93 rfl (lv_at hl 2 rfl) ?_
  refine va_get (D := D) (ci := 10) (v := .ref h1) (C := RX11) (T := TX11) (N := 43) hx hb hts i_X11 hown hK hP 0 rfl rfl 25 (by decide) (hts _ kw_1228) (fun _ h9 => h9) rfl dX11_place_94 ?_
  refine lv_iload hx hb dX11_place_97 (lv_at hl 0 rfl) ?_
  refine va_iald hx hb hK hP 1 0 rfl rfl (vpi (by decide)) dX11_place_99 ?_
  refine tpi (-1) (by first | rfl | decide) ?_
  refine T_if_lt (tgt := 110) hx hb dX11_place_100 (by decide) (by decide) ?_
  refine lv_iconst (v := 0) hx hb dX11_place_110 (by decide) ?_
  refine lv_ior hx hb dX11_place_111 ?_
  refine tpi 2 (by decide) ?_
  refine lv_istore_n (lv' := [(3, .int 2), (4, .int 3), (0, .ref h0), (1, .int 1), (2, .int 4)]) hx hb dX11_place_112 rfl hl (by decide) rfl (fun ls hl => ?_)
  refine lv_iinc (v := 4) (lv' := [(4, .int 4), (3, .int 2), (0, .ref h0), (1, .int 1), (2, .int 4)]) hx hb dX11_place_113 hl (k := 1) rfl (by decide) (by decide) rfl (fun ls hl => ?_)
  refine lv_goto (tgt := 85) hx hb dX11_place_116 (by decide) ?_
  refine lv_iload hx hb dX11_place_85 (lv_at hl 0 rfl) ?_
  refine lv_bipush (v := 8) hx hb dX11_place_87 (by decide) ?_
  refine F_icmp_ge hx hb 119 dX11_place_89 (by decide) (by decide) ?_
  refine lv_iload_n hx hb dX11_place_92 rfl (lv_at hl 1 rfl) ?_
  refine lv_aload_n hx hb dX11_place_93 rfl (lv_at hl 2 rfl) ?_
  refine va_get (D := D) (ci := 10) (v := .ref h1) (C := RX11) (T := TX11) (N := 43) hx hb hts i_X11 hown hK hP 0 rfl rfl 25 (by decide) (hts _ kw_1228) (fun _ h9 => h9) rfl dX11_place_94 ?_
  refine lv_iload hx hb dX11_place_97 (lv_at hl 0 rfl) ?_
  refine va_iald hx hb hK hP 1 0 rfl rfl (vpi (by decide)) dX11_place_99 ?_
  refine tpi (-1) (by first | rfl | decide) ?_
  refine T_if_lt (tgt := 110) hx hb dX11_place_100 (by decide) (by decide) ?_
  refine lv_iconst (v := 0) hx hb dX11_place_110 (by decide) ?_
  refine lv_ior hx hb dX11_place_111 ?_
  refine tpi 2 (by decide) ?_
  refine lv_istore_n (lv' := [(3, .int 2), (4, .int 4), (0, .ref h0), (1, .int 1), (2, .int 4)]) hx hb dX11_place_112 rfl hl (by decide) rfl (fun ls hl => ?_)
  refine lv_iinc (v := 5) (lv' := [(4, .int 5), (3, .int 2), (0, .ref h0), (1, .int 1), (2, .int 4)]) hx hb dX11_place_113 hl (k := 1) rfl (by decide) (by decide) rfl (fun ls hl => ?_)
  refine lv_goto (tgt := 85) hx hb dX11_place_116 (by decide) ?_
  refine lv_iload hx hb dX11_place_85 (lv_at hl 0 rfl) ?_
  refine lv_bipush (v := 8) hx hb dX11_place_87 (by decide) ?_
  refine F_icmp_ge hx hb 119 dX11_place_89 (by decide) (by decide) ?_
  refine lv_iload_n hx hb dX11_place_92 rfl (lv_at hl 1 rfl) ?_
  refine lv_aload_n hx hb dX11_place_93 rfl (lv_at hl 2 rfl) ?_
  refine va_get (D := D) (ci := 10) (v := .ref h1) (C := RX11) (T := TX11) (N := 43) hx hb hts i_X11 hown hK hP 0 rfl rfl 25 (by decide) (hts _ kw_1228) (fun _ h9 => h9) rfl dX11_place_94 ?_
  refine lv_iload hx hb dX11_place_97 (lv_at hl 0 rfl) ?_
  refine va_iald hx hb hK hP 1 0 rfl rfl (vpi (by decide)) dX11_place_99 ?_
  refine tpi (-1) (by first | rfl | decide) ?_
  refine T_if_lt (tgt := 110) hx hb dX11_place_100 (by decide) (by decide) ?_
  refine lv_iconst (v := 0) hx hb dX11_place_110 (by decide) ?_
  refine lv_ior hx hb dX11_place_111 ?_
  refine tpi 2 (by decide) ?_
  refine lv_istore_n (lv' := [(3, .int 2), (4, .int 5), (0, .ref h0), (1, .int 1), (2, .int 4)]) hx hb dX11_place_112 rfl hl (by decide) rfl (fun ls hl => ?_)
  refine lv_iinc (v := 6) (lv' := [(4, .int 6), (3, .int 2), (0, .ref h0), (1, .int 1), (2, .int 4)]) hx hb dX11_place_113 hl (k := 1) rfl (by decide) (by decide) rfl (fun ls hl => ?_)
  refine lv_goto (tgt := 85) hx hb dX11_place_116 (by decide) ?_
  refine lv_iload hx hb dX11_place_85 (lv_at hl 0 rfl) ?_
  refine lv_bipush (v := 8) hx hb dX11_place_87 (by decide) ?_
  refine F_icmp_ge hx hb 119 dX11_place_89 (by decide) (by decide) ?_
  refine lv_iload_n hx hb dX11_place_92 rfl (lv_at hl 1 rfl) ?_
  refine lv_aload_n hx hb dX11_place_93 rfl (lv_at hl 2 rfl) ?_
  refine va_get (D := D) (ci := 10) (v := .ref h1) (C := RX11) (T := TX11) (N := 43) hx hb hts i_X11 hown hK hP 0 rfl rfl 25 (by decide) (hts _ kw_1228) (fun _ h9 => h9) rfl dX11_place_94 ?_
  refine lv_iload hx hb dX11_place_97 (lv_at hl 0 rfl) ?_
  refine va_iald hx hb hK hP 1 0 rfl rfl (vpi (by decide)) dX11_place_99 ?_
  refine tpi (-1) (by first | rfl | decide) ?_
  refine T_if_lt (tgt := 110) hx hb dX11_place_100 (by decide) (by decide) ?_
  refine lv_iconst (v := 0) hx hb dX11_place_110 (by decide) ?_
  refine lv_ior hx hb dX11_place_111 ?_
  refine tpi 2 (by decide) ?_
  refine lv_istore_n (lv' := [(3, .int 2), (4, .int 6), (0, .ref h0), (1, .int 1), (2, .int 4)]) hx hb dX11_place_112 rfl hl (by decide) rfl (fun ls hl => ?_)
  refine lv_iinc (v := 7) (lv' := [(4, .int 7), (3, .int 2), (0, .ref h0), (1, .int 1), (2, .int 4)]) hx hb dX11_place_113 hl (k := 1) rfl (by decide) (by decide) rfl (fun ls hl => ?_)
  refine lv_goto (tgt := 85) hx hb dX11_place_116 (by decide) ?_
  refine lv_iload hx hb dX11_place_85 (lv_at hl 0 rfl) ?_
  refine lv_bipush (v := 8) hx hb dX11_place_87 (by decide) ?_
  refine F_icmp_ge hx hb 119 dX11_place_89 (by decide) (by decide) ?_
  refine lv_iload_n hx hb dX11_place_92 rfl (lv_at hl 1 rfl) ?_
  refine lv_aload_n hx hb dX11_place_93 rfl (lv_at hl 2 rfl) ?_
  refine va_get (D := D) (ci := 10) (v := .ref h1) (C := RX11) (T := TX11) (N := 43) hx hb hts i_X11 hown hK hP 0 rfl rfl 25 (by decide) (hts _ kw_1228) (fun _ h9 => h9) rfl dX11_place_94 ?_
  refine lv_iload hx hb dX11_place_97 (lv_at hl 0 rfl) ?_
  refine va_iald hx hb hK hP 1 0 rfl rfl (vpi (by decide)) dX11_place_99 ?_
  refine tpi (-1) (by first | rfl | decide) ?_
  refine T_if_lt (tgt := 110) hx hb dX11_place_100 (by decide) (by decide) ?_
  refine lv_iconst (v := 0) hx hb dX11_place_110 (by decide) ?_
  refine lv_ior hx hb dX11_place_111 ?_
  refine tpi 2 (by decide) ?_
  refine lv_istore_n (lv' := [(3, .int 2), (4, .int 7), (0, .ref h0), (1, .int 1), (2, .int 4)]) hx hb dX11_place_112 rfl hl (by decide) rfl (fun ls hl => ?_)
  refine lv_iinc (v := 8) (lv' := [(4, .int 8), (3, .int 2), (0, .ref h0), (1, .int 1), (2, .int 4)]) hx hb dX11_place_113 hl (k := 1) rfl (by decide) (by decide) rfl (fun ls hl => ?_)
  refine lv_goto (tgt := 85) hx hb dX11_place_116 (by decide) ?_
  refine lv_iload hx hb dX11_place_85 (lv_at hl 0 rfl) ?_
  refine lv_bipush (v := 8) hx hb dX11_place_87 (by decide) ?_
  refine T_icmp_ge (tgt := 119) hx hb dX11_place_89 (by decide) (by decide) ?_
  refine lv_iload_n hx hb dX11_place_119 rfl (lv_at hl 1 rfl) ?_
  exact retI hx hb hr hlocks rfl hS (by decide) (by decide) dX11_place_120 (fun t ht => ⟨by rw [ht]; exact hP, hD⟩)
set_option maxHeartbeats 4000000 in
set_option maxRecDepth 100000 in
theorem m116_X10_isPlace (l : Launch) (D : va_G) (c : Nat → ClassId) (sz : Nat) : Met l yX10_isPlace (Cond.code yX10_isPlace cX10_isPlace 1 (some .boolean) :: TB) ({ frames := 0, cells := 0, slots := 0, locals := 0 } : Room) (va_Pc [.int 2] (PW D c [] sz)) ((QI 1 (fun A t => va_P D vwCl [] t.heap ∧ va_D A [])) (va_A [] sz)) 0 0 (va_A [] sz) := by
  refine start (by decide +kernel) (Nat.le_of_ble_eq_true rfl) ?_
  intro p e s m below meth cd A ls hx hb hr hml hts hown hlocks hin hA hS hK hP hD hN hl
  have hown : s.vm.findClass RX10 = some m.cls := hown
  have hl : lv_has ls 1 [(0, .int 2)] := hl
  have hP : va_P D vwCl [] s.heap := hP
  refine lv_iload_n hx hb dX10_isPlace_0 rfl (lv_at hl 0 rfl) ?_
  refine F_if_lt hx hb 14 dX10_isPlace_1 (by decide) (by decide) ?_
  refine lv_iload_n hx hb dX10_isPlace_4 rfl (lv_at hl 0 rfl) ?_
  refine lv_bipush (v := 8) hx hb dX10_isPlace_5 (by decide) ?_
  refine F_icmp_ge hx hb 14 dX10_isPlace_7 (by decide) (by decide) ?_
  refine lv_iconst (v := 1) hx hb dX10_isPlace_10 (by decide) ?_
  refine lv_goto (tgt := 15) hx hb dX10_isPlace_11 (by decide) ?_
  exact retI hx hb hr hlocks (by decide) hS (by decide) (by decide) dX10_isPlace_15 (fun t ht => ⟨by rw [ht]; exact hP, hD⟩)
set_option maxHeartbeats 4000000 in
set_option maxRecDepth 100000 in
theorem m117_X4_away (l : Launch) (D : va_G) (c : Nat → ClassId) (h0 h1 h2 h3 h4 h5 h6 h7 : Nat) (sz : Nat) : Met l yX4_away (Cond.code yX4_away cX4_away 2 (some .int) :: TB) ({ frames := 0, cells := 0, slots := 0, locals := 0 } : Room) (va_Pc [.ref h0, .int 2] (PW D c [(h0, .inr (3, [.int 0, .int 0, .ref h3, .ref h4, .ref h5, .ref h6, .ref h7, .ref h1, .ref h2])), (h1, .inl (c 0, 8, .inl (fun _ => 0))), (h2, .inl (c 0, 8, .inl (fun _ => 0)))] sz)) ((QI 0 (fun A t => va_P D vwCl [(h0, .inr (3, [.int 0, .int 0, .ref h3, .ref h4, .ref h5, .ref h6, .ref h7, .ref h1, .ref h2])), (h1, .inl (c 0, 8, .inl (fun _ => 0))), (h2, .inl (c 0, 8, .inl (fun _ => 0)))] t.heap ∧ va_D A [(h0, .inr (3, [.int 0, .int 0, .ref h3, .ref h4, .ref h5, .ref h6, .ref h7, .ref h1, .ref h2])), (h1, .inl (c 0, 8, .inl (fun _ => 0))), (h2, .inl (c 0, 8, .inl (fun _ => 0)))])) (va_A [(h0, .inr (3, [.int 0, .int 0, .ref h3, .ref h4, .ref h5, .ref h6, .ref h7, .ref h1, .ref h2])), (h1, .inl (c 0, 8, .inl (fun _ => 0))), (h2, .inl (c 0, 8, .inl (fun _ => 0)))] sz)) 0 0 (va_A [(h0, .inr (3, [.int 0, .int 0, .ref h3, .ref h4, .ref h5, .ref h6, .ref h7, .ref h1, .ref h2])), (h1, .inl (c 0, 8, .inl (fun _ => 0))), (h2, .inl (c 0, 8, .inl (fun _ => 0)))] sz) := by
  refine start (by decide +kernel) (Nat.le_of_ble_eq_true rfl) ?_
  intro p e s m below meth cd A ls hx hb hr hml hts hown hlocks hin hA hS hK hP hD hN hl
  have hown : s.vm.findClass RX4 = some m.cls := hown
  have hl : lv_has ls 2 [(0, .ref h0), (1, .int 2)] := hl
  have hP : va_P D vwCl [(h0, .inr (3, [.int 0, .int 0, .ref h3, .ref h4, .ref h5, .ref h6, .ref h7, .ref h1, .ref h2])), (h1, .inl (c 0, 8, .inl (fun _ => 0))), (h2, .inl (c 0, 8, .inl (fun _ => 0)))] s.heap := hP
  refine lv_aload_n hx hb dX4_away_0 rfl (lv_at hl 0 rfl) ?_
  refine va_get (D := D) (ci := 3) (v := .ref h1) (C := RX4) (T := TX4) (N := 9) hx hb hts i_X4 hown hK hP 0 rfl rfl 7 (by decide) (hts _ kw_242) (fun _ h9 => h9) rfl dX4_away_1 ?_
  refine lv_iload_n hx hb dX4_away_4 rfl (lv_at hl 1 rfl) ?_
  refine va_iald hx hb hK hP 1 0 rfl rfl (vpi (by decide)) dX4_away_5 ?_
  refine tpi 0 (by first | rfl | decide) ?_
  refine lv_aload_n hx hb dX4_away_6 rfl (lv_at hl 0 rfl) ?_
  refine va_get (D := D) (ci := 3) (v := .int 0) (C := RX4) (T := TX4) (N := 9) hx hb hts i_X4 hown hK hP 0 rfl rfl 1 (by decide) (hts _ kw_218) (fun _ h9 => h9) rfl dX4_away_7 ?_
  refine lv_iconst (v := (-1)) hx hb dX4_away_10 (by decide) ?_
  refine lv_ixor hx hb dX4_away_11 ?_
  refine tpi (-1) (by decide) ?_
  refine lv_iand hx hb dX4_away_12 ?_
  refine tpi 0 (by decide) ?_
  refine lv_aload_n hx hb dX4_away_13 rfl (lv_at hl 0 rfl) ?_
  refine va_get (D := D) (ci := 3) (v := .ref h2) (C := RX4) (T := TX4) (N := 9) hx hb hts i_X4 hown hK hP 0 rfl rfl 8 (by decide) (hts _ kw_245) (fun _ h9 => h9) rfl dX4_away_14 ?_
  refine lv_iload_n hx hb dX4_away_17 rfl (lv_at hl 1 rfl) ?_
  refine va_iald hx hb hK hP 2 0 rfl rfl (vpi (by decide)) dX4_away_18 ?_
  refine tpi 0 (by first | rfl | decide) ?_
  refine lv_aload_n hx hb dX4_away_19 rfl (lv_at hl 0 rfl) ?_
  refine va_get (D := D) (ci := 3) (v := .int 0) (C := RX4) (T := TX4) (N := 9) hx hb hts i_X4 hown hK hP 0 rfl rfl 1 (by decide) (hts _ kw_218) (fun _ h9 => h9) rfl dX4_away_20 ?_
  refine lv_iand hx hb dX4_away_23 ?_
  refine tpi 0 (by decide) ?_
  refine lv_ior hx hb dX4_away_24 ?_
  refine tpi 0 (by decide) ?_
  exact retI hx hb hr hlocks rfl hS (by decide) (by decide) dX4_away_25 (fun t ht => ⟨by rw [ht]; exact hP, hD⟩)
set_option maxHeartbeats 4000000 in
set_option maxRecDepth 100000 in
theorem m118_X4_spread (l : Launch) (D : va_G) (c : Nat → ClassId) (h0 h1 h2 h3 h4 h5 h6 h7 : Nat) (sz : Nat) : Met l yX4_spread (Cond.code yX4_spread cX4_spread 4 (some .int) :: TB) ({ frames := 0, cells := 0, slots := 0, locals := 0 } : Room) (va_Pc [.ref h0, .int 4] (PW D c [(h0, .inr (3, [.int 0, .int 0, .ref h1, .ref h2, .ref h3, .ref h4, .ref h5, .ref h6, .ref h7]))] sz)) ((QI 4 (fun A t => va_P D vwCl [(h0, .inr (3, [.int 0, .int 0, .ref h1, .ref h2, .ref h3, .ref h4, .ref h5, .ref h6, .ref h7]))] t.heap ∧ va_D A [(h0, .inr (3, [.int 0, .int 0, .ref h1, .ref h2, .ref h3, .ref h4, .ref h5, .ref h6, .ref h7]))])) (va_A [(h0, .inr (3, [.int 0, .int 0, .ref h1, .ref h2, .ref h3, .ref h4, .ref h5, .ref h6, .ref h7]))] sz)) 0 0 (va_A [(h0, .inr (3, [.int 0, .int 0, .ref h1, .ref h2, .ref h3, .ref h4, .ref h5, .ref h6, .ref h7]))] sz) := by
  refine start (by decide +kernel) (Nat.le_of_ble_eq_true rfl) ?_
  intro p e s m below meth cd A ls hx hb hr hml hts hown hlocks hin hA hS hK hP hD hN hl
  have hown : s.vm.findClass RX4 = some m.cls := hown
  have hl : lv_has ls 4 [(0, .ref h0), (1, .int 4)] := hl
  have hP : va_P D vwCl [(h0, .inr (3, [.int 0, .int 0, .ref h1, .ref h2, .ref h3, .ref h4, .ref h5, .ref h6, .ref h7]))] s.heap := hP
  refine lv_iload_n hx hb dX4_spread_0 rfl (lv_at hl 1 rfl) ?_
  refine lv_istore_n (lv' := [(2, .int 4), (0, .ref h0), (1, .int 4)]) hx hb dX4_spread_1 rfl hl (by decide) rfl (fun ls hl => ?_)
  refine lv_iconst (v := 0) hx hb dX4_spread_2 (by decide) ?_
  refine lv_istore_n (lv' := [(3, .int 0), (2, .int 4), (0, .ref h0), (1, .int 4)]) hx hb dX4_spread_3 rfl hl (by decide) rfl (fun ls hl => ?_)
  refine lv_iload_n hx hb dX4_spread_4 rfl (lv_at hl 0 rfl) ?_
  refine lv_aload_n hx hb dX4_spread_5 rfl (lv_at hl 2 rfl) ?_
  refine va_get (D := D) (ci := 3) (v := .int 0) (C := RX4) (T := TX4) (N := 9) hx hb hts i_X4 hown hK hP 0 rfl rfl 0 (by decide) (hts _ kw_212) (fun _ h9 => h9) rfl dX4_spread_6 ?_
  refine T_icmp_ge (tgt := 40) hx hb dX4_spread_9 (by decide) (by decide) ?_
  refine lv_iload_n hx hb dX4_spread_40 rfl (lv_at hl 1 rfl) ?_
  exact retI hx hb hr hlocks rfl hS (by decide) (by decide) dX4_spread_41 (fun t ht => ⟨by rw [ht]; exact hP, hD⟩)
