set_option maxHeartbeats 4000000 in
set_option maxRecDepth 100000 in
theorem m361_X11_image (l : Launch) (D : va_G) (c : Nat → ClassId) (h0 h1 h2 h3 h4 h5 h6 h7 h8 h9 h10 h11 h12 h13 h14 h15 h16 h17 h18 h19 h20 h21 h22 h23 h24 : Nat) (sz : Nat) : Met l yX11_image (Cond.code yX11_image cX11_image 3 (some .int) :: TB) ({ frames := 1, cells := 0, slots := 0, locals := 25 } : Room) (va_Pc [.ref h0, .int 3] (PW D c [(h0, .inr (10, [.ref h4, .int 0, .int 0, .ref h5, .ref h6, .ref h7, .ref h8, .int 0, .int 0, .ref h9, .ref h10, .int 0, .int 0, .int 0, .int 0, .int 0, .int 0, .int 0, .ref h11, .int 0, .ref h12, .int 0, .ref h13, .ref h3, .ref h14, .ref h15, .ref h16, .ref h17, .ref h18, .int 0, .ref h19, .int 0, .ref h20, .int 0, .int 0, .int 0, .ref h21, .ref h22, .ref h23, .ref h24, .int 0, .ref h2, .ref h1])), (h1, .inl (c 3, 4, .inl (fun _ => 0))), (h2, .inl (c 0, 808, .inl (fun _ => 0))), (h3, .inl (c 0, 202, .inl (fun _ => 0)))] sz)) ((QI 0 (fun A t => ∃ (f_2201 : Nat → Int32) (f : Nat → Int32), va_P D vwCl [(h0, .inr (10, [.ref h4, .int 0, .int 0, .ref h5, .ref h6, .ref h7, .ref h8, .int 0, .int 0, .ref h9, .ref h10, .int 0, .int 0, .int 0, .int 0, .int 0, .int 0, .int 0, .ref h11, .int 0, .ref h12, .int 0, .ref h13, .ref h3, .ref h14, .ref h15, .ref h16, .ref h17, .ref h18, .int 0, .ref h19, .int 0, .ref h20, .int 0, .int 0, .int 0, .ref h21, .ref h22, .ref h23, .ref h24, .int 0, .ref h2, .ref h1])), (h1, .inl (c 3, 4, .inl f_2201)), (h2, .inl (c 0, 808, .inl f)), (h3, .inl (c 0, 202, .inl (fun _ => 0)))] t.heap ∧ va_D A [(h0, .inr (10, [.ref h4, .int 0, .int 0, .ref h5, .ref h6, .ref h7, .ref h8, .int 0, .int 0, .ref h9, .ref h10, .int 0, .int 0, .int 0, .int 0, .int 0, .int 0, .int 0, .ref h11, .int 0, .ref h12, .int 0, .ref h13, .ref h3, .ref h14, .ref h15, .ref h16, .ref h17, .ref h18, .int 0, .ref h19, .int 0, .ref h20, .int 0, .int 0, .int 0, .ref h21, .ref h22, .ref h23, .ref h24, .int 0, .ref h2, .ref h1])), (h1, .inl (c 3, 4, .inl f_2201)), (h2, .inl (c 0, 808, .inl f)), (h3, .inl (c 0, 202, .inl (fun _ => 0)))])) (va_A [(h0, .inr (10, [.ref h4, .int 0, .int 0, .ref h5, .ref h6, .ref h7, .ref h8, .int 0, .int 0, .ref h9, .ref h10, .int 0, .int 0, .int 0, .int 0, .int 0, .int 0, .int 0, .ref h11, .int 0, .ref h12, .int 0, .ref h13, .ref h3, .ref h14, .ref h15, .ref h16, .ref h17, .ref h18, .int 0, .ref h19, .int 0, .ref h20, .int 0, .int 0, .int 0, .ref h21, .ref h22, .ref h23, .ref h24, .int 0, .ref h2, .ref h1])), (h1, .inl (c 3, 4, .inl (fun _ => 0))), (h2, .inl (c 0, 808, .inl (fun _ => 0))), (h3, .inl (c 0, 202, .inl (fun _ => 0)))] sz)) 0 0 (va_A [(h0, .inr (10, [.ref h4, .int 0, .int 0, .ref h5, .ref h6, .ref h7, .ref h8, .int 0, .int 0, .ref h9, .ref h10, .int 0, .int 0, .int 0, .int 0, .int 0, .int 0, .int 0, .ref h11, .int 0, .ref h12, .int 0, .ref h13, .ref h3, .ref h14, .ref h15, .ref h16, .ref h17, .ref h18, .int 0, .ref h19, .int 0, .ref h20, .int 0, .int 0, .int 0, .ref h21, .ref h22, .ref h23, .ref h24, .int 0, .ref h2, .ref h1])), (h1, .inl (c 3, 4, .inl (fun _ => 0))), (h2, .inl (c 0, 808, .inl (fun _ => 0))), (h3, .inl (c 0, 202, .inl (fun _ => 0)))] sz) := by
  refine start (by decide +kernel) (by decide) ?_
  intro p e s m below meth cd A ls hx hb hr hml hts hown hlocks hin hA hS hK hP hD hN hl
  have hown : s.vm.findClass RX11 = some m.cls := hown
  have hl : lv_has ls 3 [(0, .ref h0), (1, .int 3)] := hl
  have hP : va_P D vwCl [(h0, .inr (10, [.ref h4, .int 0, .int 0, .ref h5, .ref h6, .ref h7, .ref h8, .int 0, .int 0, .ref h9, .ref h10, .int 0, .int 0, .int 0, .int 0, .int 0, .int 0, .int 0, .ref h11, .int 0, .ref h12, .int 0, .ref h13, .ref h3, .ref h14, .ref h15, .ref h16, .ref h17, .ref h18, .int 0, .ref h19, .int 0, .ref h20, .int 0, .int 0, .int 0, .ref h21, .ref h22, .ref h23, .ref h24, .int 0, .ref h2, .ref h1])), (h1, .inl (c 3, 4, .inl (fun _ => 0))), (h2, .inl (c 0, 808, .inl (fun _ => 0))), (h3, .inl (c 0, 202, .inl (fun _ => 0)))] s.heap := hP
  refine lv_iload_n hx hb dX11_image_0 rfl (lv_at hl 1 rfl) ?_
  refine lv_i2l (v := 3) hx hb dX11_image_1 (by decide) ?_
  refine lv_lconst (v := 0) hx hb dX11_image_2 (by decide) ?_
  refine lv_ldc2 (v := 3) hx hb hown (hts _ kw_1754) dX11_image_3 ?_
  refine fin_i (run_S ⟨hx, hb, hml, hown, hts⟩ (m360_X11_in l D c s.heap.size) (hP.sub [] rfl) (hD.sub [] (by decide) rfl) hK hN rfl rfl kw_1394 kw_1395 kw_122 kw_1396 (by decide +kernel) ⟨(Nat.le_of_ble_eq_true rfl), (Nat.le_of_ble_eq_true rfl)⟩ rfl hl.1 rfl (by decide) dX11_image_6 ⟨(Nat.le_of_ble_eq_true rfl), (Nat.le_of_ble_eq_true rfl)⟩) hP hD hS hA [] rfl (fun H locs t hB hj hS => ?_)
  obtain ⟨hP1, hD1⟩ := hB
  obtain ⟨hP, hD⟩ := hj (wr := [(h0, .inr (10, [.ref h4, .int 0, .int 0, .ref h5, .ref h6, .ref h7, .ref h8, .int 0, .int 0, .ref h9, .ref h10, .int 0, .int 0, .int 0, .int 0, .int 0, .int 0, .int 0, .ref h11, .int 0, .ref h12, .int 0, .ref h13, .ref h3, .ref h14, .ref h15, .ref h16, .ref h17, .ref h18, .int 0, .ref h19, .int 0, .ref h20, .int 0, .int 0, .int 0, .ref h21, .ref h22, .ref h23, .ref h24, .int 0, .ref h2, .ref h1])), (h1, .inl (c 3, 4, .inl (fun _ => 0))), (h2, .inl (c 0, 808, .inl (fun _ => 0))), (h3, .inl (c 0, 202, .inl (fun _ => 0)))]) (w1 := []) [0, 1, 2, 3] rfl (by decide) (by decide) hP1 hD1
  have hP : va_P D vwCl [(h0, .inr (10, [.ref h4, .int 0, .int 0, .ref h5, .ref h6, .ref h7, .ref h8, .int 0, .int 0, .ref h9, .ref h10, .int 0, .int 0, .int 0, .int 0, .int 0, .int 0, .int 0, .ref h11, .int 0, .ref h12, .int 0, .ref h13, .ref h3, .ref h14, .ref h15, .ref h16, .ref h17, .ref h18, .int 0, .ref h19, .int 0, .ref h20, .int 0, .int 0, .int 0, .ref h21, .ref h22, .ref h23, .ref h24, .int 0, .ref h2, .ref h1])), (h1, .inl (c 3, 4, .inl (fun _ => 0))), (h2, .inl (c 0, 808, .inl (fun _ => 0))), (h3, .inl (c 0, 202, .inl (fun _ => 0)))] H := hP
  have hD : va_D A [(h0, .inr (10, [.ref h4, .int 0, .int 0, .ref h5, .ref h6, .ref h7, .ref h8, .int 0, .int 0, .ref h9, .ref h10, .int 0, .int 0, .int 0, .int 0, .int 0, .int 0, .int 0, .ref h11, .int 0, .ref h12, .int 0, .ref h13, .ref h3, .ref h14, .ref h15, .ref h16, .ref h17, .ref h18, .int 0, .ref h19, .int 0, .ref h20, .int 0, .int 0, .int 0, .ref h21, .ref h22, .ref h23, .ref h24, .int 0, .ref h2, .ref h1])), (h1, .inl (c 3, 4, .inl (fun _ => 0))), (h2, .inl (c 0, 808, .inl (fun _ => 0))), (h3, .inl (c 0, 202, .inl (fun _ => 0)))] := hD
  refine T_if_ne (tgt := 14) hx hb dX11_image_9 (by decide) (by decide) ?_
  refine lv_aload_n hx hb dX11_image_14 rfl (lv_at hl 0 rfl) ?_
  refine va_get (D := D) (ci := 10) (v := .ref h1) (C := RX11) (T := TX11) (N := 43) hx hb hts i_X11 hown hK hP 0 rfl rfl 42 (by decide) (hts _ kw_1245) (fun _ h9 => h9) rfl dX11_image_15 ?_
  refine lv_iload_n hx hb dX11_image_18 rfl (lv_at hl 1 rfl) ?_
  refine lv_iconst (v := 1) hx hb dX11_image_19 (by decide) ?_
  refine va_zast hx hb hK hP hD hS 1 3 rfl rfl (vpi (by decide)) dX11_image_20 (fun H locs hP hD hS => ?_)
  obtain ⟨f_2201, hP, hD⟩ : ∃ f_2201 : Nat → Int32, va_P D vwCl [(h0, .inr (10, [.ref h4, .int 0, .int 0, .ref h5, .ref h6, .ref h7, .ref h8, .int 0, .int 0, .ref h9, .ref h10, .int 0, .int 0, .int 0, .int 0, .int 0, .int 0, .int 0, .ref h11, .int 0, .ref h12, .int 0, .ref h13, .ref h3, .ref h14, .ref h15, .ref h16, .ref h17, .ref h18, .int 0, .ref h19, .int 0, .ref h20, .int 0, .int 0, .int 0, .ref h21, .ref h22, .ref h23, .ref h24, .int 0, .ref h2, .ref h1])), (h1, .inl (c 3, 4, .inl f_2201)), (h2, .inl (c 0, 808, .inl (fun _ => 0))), (h3, .inl (c 0, 202, .inl (fun _ => 0)))] H ∧ va_D A [(h0, .inr (10, [.ref h4, .int 0, .int 0, .ref h5, .ref h6, .ref h7, .ref h8, .int 0, .int 0, .ref h9, .ref h10, .int 0, .int 0, .int 0, .int 0, .int 0, .int 0, .int 0, .ref h11, .int 0, .ref h12, .int 0, .ref h13, .ref h3, .ref h14, .ref h15, .ref h16, .ref h17, .ref h18, .int 0, .ref h19, .int 0, .ref h20, .int 0, .int 0, .int 0, .ref h21, .ref h22, .ref h23, .ref h24, .int 0, .ref h2, .ref h1])), (h1, .inl (c 3, 4, .inl f_2201)), (h2, .inl (c 0, 808, .inl (fun _ => 0))), (h3, .inl (c 0, 202, .inl (fun _ => 0)))] := ⟨_, hP, hD⟩
  refine lv_iconst (v := 0) hx hb dX11_image_21 (by decide) ?_
  refine lv_istore_n (lv' := [(2, .int 0), (0, .ref h0), (1, .int 3)]) hx hb dX11_image_22 rfl hl (by decide) rfl (fun ls hl => ?_)
  have loop : ∀ (n i : Nat), i + n = 202 → ∀ (x : Int32), x = nI i → ∀ (f : Nat → Int32) (H : Heap) (locs : List Loc), va_P D vwCl [(h0, .inr (10, [.ref h4, .int 0, .int 0, .ref h5, .ref h6, .ref h7, .ref h8, .int 0, .int 0, .ref h9, .ref h10, .int 0, .int 0, .int 0, .int 0, .int 0, .int 0, .int 0, .ref h11, .int 0, .ref h12, .int 0, .ref h13, .ref h3, .ref h14, .ref h15, .ref h16, .ref h17, .ref h18, .int 0, .ref h19, .int 0, .ref h20, .int 0, .int 0, .int 0, .ref h21, .ref h22, .ref h23, .ref h24, .int 0, .ref h2, .ref h1])), (h1, .inl (c 3, 4, .inl f_2201)), (h2, .inl (c 0, 808, .inl f)), (h3, .inl (c 0, 202, .inl (fun _ => 0)))] H → va_D A [(h0, .inr (10, [.ref h4, .int 0, .int 0, .ref h5, .ref h6, .ref h7, .ref h8, .int 0, .int 0, .ref h9, .ref h10, .int 0, .int 0, .int 0, .int 0, .int 0, .int 0, .int 0, .ref h11, .int 0, .ref h12, .int 0, .ref h13, .ref h3, .ref h14, .ref h15, .ref h16, .ref h17, .ref h18, .int 0, .ref h19, .int 0, .ref h20, .int 0, .int 0, .int 0, .ref h21, .ref h22, .ref h23, .ref h24, .int 0, .ref h2, .ref h1])), (h1, .inl (c 3, 4, .inl f_2201)), (h2, .inl (c 0, 808, .inl f)), (h3, .inl (c 0, 202, .inl (fun _ => 0)))] → va_S A s.heap H locs → ∀ (ls : Array Slot), lv_has ls 3 [(2, .int x), (0, .ref h0), (1, .int 3)] → W p l e ({ frames := 1, cells := 0, slots := 0, locals := 25 } : Room) s m [.ref h0, .int 3].toArray below meth cd H locs 0 0 (MQ below ((QI 0 (fun A t => ∃ (f_2201 : Nat → Int32) (f : Nat → Int32), va_P D vwCl [(h0, .inr (10, [.ref h4, .int 0, .int 0, .ref h5, .ref h6, .ref h7, .ref h8, .int 0, .int 0, .ref h9, .ref h10, .int 0, .int 0, .int 0, .int 0, .int 0, .int 0, .int 0, .ref h11, .int 0, .ref h12, .int 0, .ref h13, .ref h3, .ref h14, .ref h15, .ref h16, .ref h17, .ref h18, .int 0, .ref h19, .int 0, .ref h20, .int 0, .int 0, .int 0, .ref h21, .ref h22, .ref h23, .ref h24, .int 0, .ref h2, .ref h1])), (h1, .inl (c 3, 4, .inl f_2201)), (h2, .inl (c 0, 808, .inl f)), (h3, .inl (c 0, 202, .inl (fun _ => 0)))] t.heap ∧ va_D A [(h0, .inr (10, [.ref h4, .int 0, .int 0, .ref h5, .ref h6, .ref h7, .ref h8, .int 0, .int 0, .ref h9, .ref h10, .int 0, .int 0, .int 0, .int 0, .int 0, .int 0, .int 0, .ref h11, .int 0, .ref h12, .int 0, .ref h13, .ref h3, .ref h14, .ref h15, .ref h16, .ref h17, .ref h18, .int 0, .ref h19, .int 0, .ref h20, .int 0, .int 0, .int 0, .ref h21, .ref h22, .ref h23, .ref h24, .int 0, .ref h2, .ref h1])), (h1, .inl (c 3, 4, .inl f_2201)), (h2, .inl (c 0, 808, .inl f)), (h3, .inl (c 0, 202, .inl (fun _ => 0)))])) A) [.ref h0, .int 3].toArray s 0 0 A) (F0 m 23 ls []) := by
    intro n
    induction n with
    | zero =>
      intro i hi x ex f H locs hP hD hS ls hl
      have hxi : x.toInt = (i : Int) := by rw [ex]; exact nI_toInt (by omega)
      refine lv_iload_n hx hb dX11_image_23 rfl (lv_at hl 0 rfl) ?_
      refine lv_sipush (v := 202) hx hb dX11_image_24 (by decide) ?_
      refine T_icmp_ge (tgt := 54) hx hb dX11_image_27 (by decide) (le_of (X := 202) (Y := x.toInt) (by decide) rfl (by omega)) ?_
      refine lv_aload_n hx hb dX11_image_54 rfl (lv_at hl 1 rfl) ?_
      refine va_get (D := D) (ci := 10) (v := .ref h3) (C := RX11) (T := TX11) (N := 43) hx hb hts i_X11 hown hK hP 0 rfl rfl 23 (by decide) (hts _ kw_1226) (fun _ h9 => h9) rfl dX11_image_55 ?_
      refine lv_iconst (v := 4) hx hb dX11_image_58 (by decide) ?_
      refine va_iald hx hb hK hP 3 0 rfl rfl (vpi (by decide)) dX11_image_59 ?_
      refine tpi 0 (by first | rfl | decide) ?_
      exact retI hx hb hr hlocks rfl hS (by decide) (by decide) dX11_image_60 (fun t ht => ⟨f_2201, f, by rw [ht]; exact hP, hD⟩)
    | succ n ih =>
      intro i hi x ex f H locs hP hD hS ls hl
      have hlt : i < 202 := by omega
      have hxi : x.toInt = (i : Int) := by rw [ex]; exact nI_toInt (by omega)
      refine lv_iload_n hx hb dX11_image_23 rfl (lv_at hl 0 rfl) ?_
      refine lv_sipush (v := 202) hx hb dX11_image_24 (by decide) ?_
      refine F_icmp_ge hx hb 54 dX11_image_27 (by decide) (ne_of (X := 202) (Y := x.toInt) (by decide) rfl (by omega)) ?_
      refine lv_aload_n hx hb dX11_image_30 rfl (lv_at hl 1 rfl) ?_
      refine va_get (D := D) (ci := 10) (v := .ref h2) (C := RX11) (T := TX11) (N := 43) hx hb hts i_X11 hown hK hP 0 rfl rfl 41 (by decide) (hts _ kw_1244) (fun _ h9 => h9) rfl dX11_image_31 ?_
      refine lv_sipush (v := 202) hx hb dX11_image_34 (by decide) ?_
      refine lv_iload_n hx hb dX11_image_37 rfl (lv_at hl 2 rfl) ?_
      refine lv_imul hx hb dX11_image_38 ?_
      refine tpi 606 (by decide) ?_
      refine lv_iload_n hx hb dX11_image_39 rfl (lv_at hl 0 rfl) ?_
      refine lv_iadd hx hb dX11_image_40 ?_
      refine lv_topi (fun z_2202 ez_2202 => ?_)
      have hz_2202 : z_2202.toInt = 606 + x.toInt := by rw [ez_2202]; exact ad_int (A := 606) (B := x.toInt) (by decide) rfl (by omega) (by omega)
      refine lv_aload_n hx hb dX11_image_41 rfl (lv_at hl 1 rfl) ?_
      refine va_get (D := D) (ci := 10) (v := .ref h3) (C := RX11) (T := TX11) (N := 43) hx hb hts i_X11 hown hK hP 0 rfl rfl 23 (by decide) (hts _ kw_1226) (fun _ h9 => h9) rfl dX11_image_42 ?_
      refine lv_iload_n hx hb dX11_image_45 rfl (lv_at hl 0 rfl) ?_
      refine va_iald hx hb hK hP 3 0 rfl rfl (in_of (by omega) (by omega)) dX11_image_46 ?_
      refine tpi 0 (by first | rfl | decide) ?_
      refine va_iast hx hb hK hP hD hS 2 0 rfl rfl (in_of (by omega) (by omega)) dX11_image_47 (fun H locs hP hD hS => ?_)
      obtain ⟨f_2203, hP, hD⟩ : ∃ f_2203 : Nat → Int32, va_P D vwCl [(h0, .inr (10, [.ref h4, .int 0, .int 0, .ref h5, .ref h6, .ref h7, .ref h8, .int 0, .int 0, .ref h9, .ref h10, .int 0, .int 0, .int 0, .int 0, .int 0, .int 0, .int 0, .ref h11, .int 0, .ref h12, .int 0, .ref h13, .ref h3, .ref h14, .ref h15, .ref h16, .ref h17, .ref h18, .int 0, .ref h19, .int 0, .ref h20, .int 0, .int 0, .int 0, .ref h21, .ref h22, .ref h23, .ref h24, .int 0, .ref h2, .ref h1])), (h1, .inl (c 3, 4, .inl f_2201)), (h2, .inl (c 0, 808, .inl f_2203)), (h3, .inl (c 0, 202, .inl (fun _ => 0)))] H ∧ va_D A [(h0, .inr (10, [.ref h4, .int 0, .int 0, .ref h5, .ref h6, .ref h7, .ref h8, .int 0, .int 0, .ref h9, .ref h10, .int 0, .int 0, .int 0, .int 0, .int 0, .int 0, .int 0, .ref h11, .int 0, .ref h12, .int 0, .ref h13, .ref h3, .ref h14, .ref h15, .ref h16, .ref h17, .ref h18, .int 0, .ref h19, .int 0, .ref h20, .int 0, .int 0, .int 0, .ref h21, .ref h22, .ref h23, .ref h24, .int 0, .ref h2, .ref h1])), (h1, .inl (c 3, 4, .inl f_2201)), (h2, .inl (c 0, 808, .inl f_2203)), (h3, .inl (c 0, 202, .inl (fun _ => 0)))] := ⟨_, hP, hD⟩
      obtain ⟨x_2204, ex_2204⟩ : ∃ y : Int32, y = x + 1 := ⟨_, rfl⟩
      refine lv_iinc (v := x_2204) (lv' := [(2, .int x_2204), (0, .ref h0), (1, .int 3)]) hx hb dX11_image_48 hl (k := 0) rfl (by rw [ex_2204]; rfl) (by decide) rfl (fun ls hl => ?_)
      refine lv_goto (tgt := 23) hx hb dX11_image_51 (by decide) ?_
      exact ih (i + 1) (by omega) x_2204 (by rw [ex_2204, ex]; exact nI_1 i) f_2203 H locs hP hD hS ls (lv_sub hl [0, 1, 2] rfl)
  exact loop 202 0 rfl 0 nI_0.symm _ _ _ hP hD hS ls (lv_sub hl [0, 1, 2] rfl)
set_option maxHeartbeats 4000000 in
set_option maxRecDepth 100000 in
theorem m362_X10_image (l : Launch) (D : va_G) (c : Nat → ClassId) (h0 h1 h2 h3 h4 h5 h6 h7 h8 h9 : Nat) (sz : Nat) (v0 : Int32) (g0 : ¬ v0.toInt < 0) (g1 : ¬ v0.toInt < 4) : Met l yX10_image (Cond.code yX10_image cX10_image 2 (some .int) :: TB) ({ frames := 0, cells := 0, slots := 0, locals := 0 } : Room) (va_Pc [.ref h0, .int v0] (PW D c [(h0, .inr (9, [.ref h1, .ref h2, .ref h3, .ref h4, .ref h5, .ref h6, .ref h7, .ref h8, .ref h9, .int 0]))] sz)) ((QI (-1) (fun A t => va_P D vwCl [(h0, .inr (9, [.ref h1, .ref h2, .ref h3, .ref h4, .ref h5, .ref h6, .ref h7, .ref h8, .ref h9, .int 0]))] t.heap ∧ va_D A [(h0, .inr (9, [.ref h1, .ref h2, .ref h3, .ref h4, .ref h5, .ref h6, .ref h7, .ref h8, .ref h9, .int 0]))])) (va_A [(h0, .inr (9, [.ref h1, .ref h2, .ref h3, .ref h4, .ref h5, .ref h6, .ref h7, .ref h8, .ref h9, .int 0]))] sz)) 0 0 (va_A [(h0, .inr (9, [.ref h1, .ref h2, .ref h3, .ref h4, .ref h5, .ref h6, .ref h7, .ref h8, .ref h9, .int 0]))] sz) := by
  refine start (by decide +kernel) (by decide) ?_
  intro p e s m below meth cd A ls hx hb hr hml hts hown hlocks hin hA hS hK hP hD hN hl
  have hown : s.vm.findClass RX10 = some m.cls := hown
  have hl : lv_has ls 2 [(0, .ref h0), (1, .int v0)] := hl
  have hP : va_P D vwCl [(h0, .inr (9, [.ref h1, .ref h2, .ref h3, .ref h4, .ref h5, .ref h6, .ref h7, .ref h8, .ref h9, .int 0]))] s.heap := hP
  refine lv_iload_n hx hb dX10_image_0 rfl (lv_at hl 1 rfl) ?_
  refine F_if_lt hx hb 9 dX10_image_1 (by decide) (nl_of (X := v0.toInt) (Y := 0) rfl (by decide) (by omega)) ?_
  refine lv_iload_n hx hb dX10_image_4 rfl (lv_at hl 1 rfl) ?_
  refine lv_iconst (v := 4) hx hb dX10_image_5 (by decide) ?_
  refine F_icmp_lt hx hb 11 dX10_image_6 (by decide) (nl_of (X := v0.toInt) (Y := 4) rfl (by decide) (by omega)) ?_
  refine lv_iconst (v := (-1)) hx hb dX10_image_9 (by decide) ?_
  exact retI hx hb hr hlocks rfl hS (by decide) (by decide) dX10_image_10 (fun t ht => ⟨by rw [ht]; exact hP, hD⟩)
set_option maxHeartbeats 4000000 in
set_option maxRecDepth 100000 in
theorem m363_X11_in (l : Launch) (D : va_G) (c : Nat → ClassId) (sz : Nat) (v0 : Int32) (g0 : ¬ v0.toInt < 0) (g1 : ¬ v0.toInt < 4) : Met l yX11_in (Cond.code yX11_in cX11_in 6 (some .boolean) :: TB) ({ frames := 0, cells := 0, slots := 0, locals := 0 } : Room) (va_Pc [.long (Int32.toInt64 v0), .long 0, .long 3] (PW D c [] sz)) ((QI 0 (fun A t => va_P D vwCl [] t.heap ∧ va_D A [])) (va_A [] sz)) 0 0 (va_A [] sz) := by
  refine start (by decide +kernel) (by decide) ?_
  intro p e s m below meth cd A ls hx hb hr hml hts hown hlocks hin hA hS hK hP hD hN hl
  have hown : s.vm.findClass RX11 = some m.cls := hown
  have hl : lv_has ls 6 [(0, .long (Int32.toInt64 v0)), (2, .long 0), (4, .long 3)] := hl
  have hP : va_P D vwCl [] s.heap := hP
  refine lv_lload_n hx hb dX11_in_0 rfl (lv_at hl 0 rfl) ?_
  refine lv_lload_n hx hb dX11_in_1 rfl (lv_at hl 1 rfl) ?_
  refine F_lc_lt (tgt := 17) (X := v0.toInt) (Y := 0) hx hb dX11_in_2 dX11_in_3 (by decide) (Int32.toInt_toInt64 v0) (by decide) (by omega) ?_
  refine lv_lload_n hx hb dX11_in_6 rfl (lv_at hl 0 rfl) ?_
  refine lv_lload hx hb dX11_in_7 (lv_at hl 2 rfl) ?_
  refine T_lc_gt (tgt := 17) (X := v0.toInt) (Y := 3) hx hb dX11_in_9 dX11_in_10 (by decide) (Int32.toInt_toInt64 v0) (by decide) (by omega) ?_
  refine lv_iconst (v := 0) hx hb dX11_in_17 (by decide) ?_
  exact retI hx hb hr hlocks (by decide) hS (by decide) (by decide) dX11_in_18 (fun t ht => ⟨by rw [ht]; exact hP, hD⟩)
set_option maxHeartbeats 4000000 in
set_option maxRecDepth 100000 in
theorem m364_X11_image (l : Launch) (D : va_G) (c : Nat → ClassId) (h0 h1 h2 h3 h4 h5 h6 h7 h8 h9 h10 h11 h12 h13 h14 h15 h16 h17 h18 h19 h20 h21 h22 h23 h24 : Nat) (sz : Nat) (v0 : Int32) (g0 : ¬ v0.toInt < 0) (g1 : ¬ v0.toInt < 4) : Met l yX11_image (Cond.code yX11_image cX11_image 3 (some .int) :: TB) ({ frames := 1, cells := 0, slots := 0, locals := 25 } : Room) (va_Pc [.ref h0, .int v0] (PW D c [(h0, .inr (10, [.ref h1, .int 0, .int 0, .ref h2, .ref h3, .ref h4, .ref h5, .int 0, .int 0, .ref h6, .ref h7, .int 0, .int 0, .int 0, .int 0, .int 0, .int 0, .int 0, .ref h8, .int 0, .ref h9, .int 0, .ref h10, .ref h11, .ref h12, .ref h13, .ref h14, .ref h15, .ref h16, .int 0, .ref h17, .int 0, .ref h18, .int 0, .int 0, .int 0, .ref h19, .ref h20, .ref h21, .ref h22, .int 0, .ref h23, .ref h24]))] sz)) ((QI (-1) (fun A t => va_P D vwCl [(h0, .inr (10, [.ref h1, .int 0, .int 0, .ref h2, .ref h3, .ref h4, .ref h5, .int 0, .int 0, .ref h6, .ref h7, .int 0, .int 0, .int 0, .int 0, .int 0, .int 0, .int 0, .ref h8, .int 0, .ref h9, .int 0, .ref h10, .ref h11, .ref h12, .ref h13, .ref h14, .ref h15, .ref h16, .int 0, .ref h17, .int 0, .ref h18, .int 0, .int 0, .int 0, .ref h19, .ref h20, .ref h21, .ref h22, .int 0, .ref h23, .ref h24]))] t.heap ∧ va_D A [(h0, .inr (10, [.ref h1, .int 0, .int 0, .ref h2, .ref h3, .ref h4, .ref h5, .int 0, .int 0, .ref h6, .ref h7, .int 0, .int 0, .int 0, .int 0, .int 0, .int 0, .int 0, .ref h8, .int 0, .ref h9, .int 0, .ref h10, .ref h11, .ref h12, .ref h13, .ref h14, .ref h15, .ref h16, .int 0, .ref h17, .int 0, .ref h18, .int 0, .int 0, .int 0, .ref h19, .ref h20, .ref h21, .ref h22, .int 0, .ref h23, .ref h24]))])) (va_A [(h0, .inr (10, [.ref h1, .int 0, .int 0, .ref h2, .ref h3, .ref h4, .ref h5, .int 0, .int 0, .ref h6, .ref h7, .int 0, .int 0, .int 0, .int 0, .int 0, .int 0, .int 0, .ref h8, .int 0, .ref h9, .int 0, .ref h10, .ref h11, .ref h12, .ref h13, .ref h14, .ref h15, .ref h16, .int 0, .ref h17, .int 0, .ref h18, .int 0, .int 0, .int 0, .ref h19, .ref h20, .ref h21, .ref h22, .int 0, .ref h23, .ref h24]))] sz)) 0 0 (va_A [(h0, .inr (10, [.ref h1, .int 0, .int 0, .ref h2, .ref h3, .ref h4, .ref h5, .int 0, .int 0, .ref h6, .ref h7, .int 0, .int 0, .int 0, .int 0, .int 0, .int 0, .int 0, .ref h8, .int 0, .ref h9, .int 0, .ref h10, .ref h11, .ref h12, .ref h13, .ref h14, .ref h15, .ref h16, .int 0, .ref h17, .int 0, .ref h18, .int 0, .int 0, .int 0, .ref h19, .ref h20, .ref h21, .ref h22, .int 0, .ref h23, .ref h24]))] sz) := by
  refine start (by decide +kernel) (by decide) ?_
  intro p e s m below meth cd A ls hx hb hr hml hts hown hlocks hin hA hS hK hP hD hN hl
  have hown : s.vm.findClass RX11 = some m.cls := hown
  have hl : lv_has ls 3 [(0, .ref h0), (1, .int v0)] := hl
  have hP : va_P D vwCl [(h0, .inr (10, [.ref h1, .int 0, .int 0, .ref h2, .ref h3, .ref h4, .ref h5, .int 0, .int 0, .ref h6, .ref h7, .int 0, .int 0, .int 0, .int 0, .int 0, .int 0, .int 0, .ref h8, .int 0, .ref h9, .int 0, .ref h10, .ref h11, .ref h12, .ref h13, .ref h14, .ref h15, .ref h16, .int 0, .ref h17, .int 0, .ref h18, .int 0, .int 0, .int 0, .ref h19, .ref h20, .ref h21, .ref h22, .int 0, .ref h23, .ref h24]))] s.heap := hP
  refine lv_iload_n hx hb dX11_image_0 rfl (lv_at hl 1 rfl) ?_
  refine lv_i2l (v := Int32.toInt64 v0) hx hb dX11_image_1 rfl ?_
  refine lv_lconst (v := 0) hx hb dX11_image_2 (by decide) ?_
  refine lv_ldc2 (v := 3) hx hb hown (hts _ kw_1754) dX11_image_3 ?_
  refine fin_i (run_S ⟨hx, hb, hml, hown, hts⟩ (m363_X11_in l D c s.heap.size v0 (by omega) (by omega)) (hP.sub [] rfl) (hD.sub [] (by decide) rfl) hK hN rfl rfl kw_1394 kw_1395 kw_122 kw_1396 (by decide +kernel) ⟨(Nat.le_of_ble_eq_true rfl), (Nat.le_of_ble_eq_true rfl)⟩ rfl hl.1 rfl (by decide) dX11_image_6 ⟨(Nat.le_of_ble_eq_true rfl), (Nat.le_of_ble_eq_true rfl)⟩) hP hD hS hA [] rfl (fun H locs t hB hj hS => ?_)
  obtain ⟨hP1, hD1⟩ := hB
  obtain ⟨hP, hD⟩ := hj (wr := [(h0, .inr (10, [.ref h1, .int 0, .int 0, .ref h2, .ref h3, .ref h4, .ref h5, .int 0, .int 0, .ref h6, .ref h7, .int 0, .int 0, .int 0, .int 0, .int 0, .int 0, .int 0, .ref h8, .int 0, .ref h9, .int 0, .ref h10, .ref h11, .ref h12, .ref h13, .ref h14, .ref h15, .ref h16, .int 0, .ref h17, .int 0, .ref h18, .int 0, .int 0, .int 0, .ref h19, .ref h20, .ref h21, .ref h22, .int 0, .ref h23, .ref h24]))]) (w1 := []) [0] rfl (by decide) (by decide) hP1 hD1
  have hP : va_P D vwCl [(h0, .inr (10, [.ref h1, .int 0, .int 0, .ref h2, .ref h3, .ref h4, .ref h5, .int 0, .int 0, .ref h6, .ref h7, .int 0, .int 0, .int 0, .int 0, .int 0, .int 0, .int 0, .ref h8, .int 0, .ref h9, .int 0, .ref h10, .ref h11, .ref h12, .ref h13, .ref h14, .ref h15, .ref h16, .int 0, .ref h17, .int 0, .ref h18, .int 0, .int 0, .int 0, .ref h19, .ref h20, .ref h21, .ref h22, .int 0, .ref h23, .ref h24]))] H := hP
  have hD : va_D A [(h0, .inr (10, [.ref h1, .int 0, .int 0, .ref h2, .ref h3, .ref h4, .ref h5, .int 0, .int 0, .ref h6, .ref h7, .int 0, .int 0, .int 0, .int 0, .int 0, .int 0, .int 0, .ref h8, .int 0, .ref h9, .int 0, .ref h10, .ref h11, .ref h12, .ref h13, .ref h14, .ref h15, .ref h16, .int 0, .ref h17, .int 0, .ref h18, .int 0, .int 0, .int 0, .ref h19, .ref h20, .ref h21, .ref h22, .int 0, .ref h23, .ref h24]))] := hD
  refine F_if_ne hx hb 14 dX11_image_9 (by decide) (by decide) ?_
  refine lv_iconst (v := (-1)) hx hb dX11_image_12 (by decide) ?_
  exact retI hx hb hr hlocks rfl hS (by decide) (by decide) dX11_image_13 (fun t ht => ⟨by rw [ht]; exact hP, hD⟩)
set_option maxHeartbeats 4000000 in
set_option maxRecDepth 100000 in
theorem m365_X10_back (l : Launch) (D : va_G) (c : Nat → ClassId) (h0 h1 h2 h3 h4 h5 h6 h7 h8 h9 : Nat) (sz : Nat) (v0 : Int32) (g0 : v0.toInt < 0) : Met l yX10_back (Cond.code yX10_back cX10_back 2 (some .int) :: TB) ({ frames := 0, cells := 0, slots := 0, locals := 0 } : Room) (va_Pc [.ref h0, .int v0] (PW D c [(h0, .inr (9, [.ref h1, .ref h2, .ref h3, .ref h4, .ref h5, .ref h6, .ref h7, .ref h8, .ref h9, .int 0]))] sz)) ((QI (-1) (fun A t => va_P D vwCl [(h0, .inr (9, [.ref h1, .ref h2, .ref h3, .ref h4, .ref h5, .ref h6, .ref h7, .ref h8, .ref h9, .int 0]))] t.heap ∧ va_D A [(h0, .inr (9, [.ref h1, .ref h2, .ref h3, .ref h4, .ref h5, .ref h6, .ref h7, .ref h8, .ref h9, .int 0]))])) (va_A [(h0, .inr (9, [.ref h1, .ref h2, .ref h3, .ref h4, .ref h5, .ref h6, .ref h7, .ref h8, .ref h9, .int 0]))] sz)) 0 0 (va_A [(h0, .inr (9, [.ref h1, .ref h2, .ref h3, .ref h4, .ref h5, .ref h6, .ref h7, .ref h8, .ref h9, .int 0]))] sz) := by
  refine start (by decide +kernel) (by decide) ?_
  intro p e s m below meth cd A ls hx hb hr hml hts hown hlocks hin hA hS hK hP hD hN hl
  have hown : s.vm.findClass RX10 = some m.cls := hown
  have hl : lv_has ls 2 [(0, .ref h0), (1, .int v0)] := hl
  have hP : va_P D vwCl [(h0, .inr (9, [.ref h1, .ref h2, .ref h3, .ref h4, .ref h5, .ref h6, .ref h7, .ref h8, .ref h9, .int 0]))] s.heap := hP
  refine lv_iload_n hx hb dX10_back_0 rfl (lv_at hl 1 rfl) ?_
  refine T_if_lt (tgt := 18) hx hb dX10_back_1 (by decide) (lt_of (X := v0.toInt) (Y := 0) rfl (by decide) (by omega)) ?_
  refine lv_iconst (v := (-1)) hx hb dX10_back_18 (by decide) ?_
  exact retI hx hb hr hlocks rfl hS (by decide) (by decide) dX10_back_19 (fun t ht => ⟨by rw [ht]; exact hP, hD⟩)
set_option maxHeartbeats 4000000 in
set_option maxRecDepth 100000 in
theorem m366_X11_back (l : Launch) (D : va_G) (c : Nat → ClassId) (h0 h1 h2 h3 h4 h5 h6 h7 h8 h9 h10 h11 h12 h13 h14 h15 h16 h17 h18 h19 h20 h21 h22 h23 h24 : Nat) (sz : Nat) (v0 : Int32) (g0 : v0.toInt < 0) : Met l yX11_back (Cond.code yX11_back cX11_back 3 (some .int) :: TB) ({ frames := 1, cells := 0, slots := 0, locals := 25 } : Room) (va_Pc [.ref h0, .int v0] (PW D c [(h0, .inr (10, [.ref h1, .int 0, .int 0, .ref h2, .ref h3, .ref h4, .ref h5, .int 0, .int 0, .ref h6, .ref h7, .int 0, .int 0, .int 0, .int 0, .int 0, .int 0, .int 0, .ref h8, .int 0, .ref h9, .int 0, .ref h10, .ref h11, .ref h12, .ref h13, .ref h14, .ref h15, .ref h16, .int 0, .ref h17, .int 0, .ref h18, .int 0, .int 0, .int 0, .ref h19, .ref h20, .ref h21, .ref h22, .int 0, .ref h23, .ref h24]))] sz)) ((QI (-1) (fun A t => va_P D vwCl [(h0, .inr (10, [.ref h1, .int 0, .int 0, .ref h2, .ref h3, .ref h4, .ref h5, .int 0, .int 0, .ref h6, .ref h7, .int 0, .int 0, .int 0, .int 0, .int 0, .int 0, .int 0, .ref h8, .int 0, .ref h9, .int 0, .ref h10, .ref h11, .ref h12, .ref h13, .ref h14, .ref h15, .ref h16, .int 0, .ref h17, .int 0, .ref h18, .int 0, .int 0, .int 0, .ref h19, .ref h20, .ref h21, .ref h22, .int 0, .ref h23, .ref h24]))] t.heap ∧ va_D A [(h0, .inr (10, [.ref h1, .int 0, .int 0, .ref h2, .ref h3, .ref h4, .ref h5, .int 0, .int 0, .ref h6, .ref h7, .int 0, .int 0, .int 0, .int 0, .int 0, .int 0, .int 0, .ref h8, .int 0, .ref h9, .int 0, .ref h10, .ref h11, .ref h12, .ref h13, .ref h14, .ref h15, .ref h16, .int 0, .ref h17, .int 0, .ref h18, .int 0, .int 0, .int 0, .ref h19, .ref h20, .ref h21, .ref h22, .int 0, .ref h23, .ref h24]))])) (va_A [(h0, .inr (10, [.ref h1, .int 0, .int 0, .ref h2, .ref h3, .ref h4, .ref h5, .int 0, .int 0, .ref h6, .ref h7, .int 0, .int 0, .int 0, .int 0, .int 0, .int 0, .int 0, .ref h8, .int 0, .ref h9, .int 0, .ref h10, .ref h11, .ref h12, .ref h13, .ref h14, .ref h15, .ref h16, .int 0, .ref h17, .int 0, .ref h18, .int 0, .int 0, .int 0, .ref h19, .ref h20, .ref h21, .ref h22, .int 0, .ref h23, .ref h24]))] sz)) 0 0 (va_A [(h0, .inr (10, [.ref h1, .int 0, .int 0, .ref h2, .ref h3, .ref h4, .ref h5, .int 0, .int 0, .ref h6, .ref h7, .int 0, .int 0, .int 0, .int 0, .int 0, .int 0, .int 0, .ref h8, .int 0, .ref h9, .int 0, .ref h10, .ref h11, .ref h12, .ref h13, .ref h14, .ref h15, .ref h16, .int 0, .ref h17, .int 0, .ref h18, .int 0, .int 0, .int 0, .ref h19, .ref h20, .ref h21, .ref h22, .int 0, .ref h23, .ref h24]))] sz) := by
  refine start (by decide +kernel) (by decide) ?_
  intro p e s m below meth cd A ls hx hb hr hml hts hown hlocks hin hA hS hK hP hD hN hl
  have hown : s.vm.findClass RX11 = some m.cls := hown
  have hl : lv_has ls 3 [(0, .ref h0), (1, .int v0)] := hl
  have hP : va_P D vwCl [(h0, .inr (10, [.ref h1, .int 0, .int 0, .ref h2, .ref h3, .ref h4, .ref h5, .int 0, .int 0, .ref h6, .ref h7, .int 0, .int 0, .int 0, .int 0, .int 0, .int 0, .int 0, .ref h8, .int 0, .ref h9, .int 0, .ref h10, .ref h11, .ref h12, .ref h13, .ref h14, .ref h15, .ref h16, .int 0, .ref h17, .int 0, .ref h18, .int 0, .int 0, .int 0, .ref h19, .ref h20, .ref h21, .ref h22, .int 0, .ref h23, .ref h24]))] s.heap := hP
  refine lv_iload_n hx hb dX11_back_0 rfl (lv_at hl 1 rfl) ?_
  refine lv_i2l (v := Int32.toInt64 v0) hx hb dX11_back_1 rfl ?_
  refine lv_lconst (v := 0) hx hb dX11_back_2 (by decide) ?_
  refine lv_ldc2 (v := 3) hx hb hown (hts _ kw_1754) dX11_back_3 ?_
  refine fin_i (run_S ⟨hx, hb, hml, hown, hts⟩ (m348_X11_in l D c s.heap.size v0 (by omega)) (hP.sub [] rfl) (hD.sub [] (by decide) rfl) hK hN rfl rfl kw_1394 kw_1395 kw_122 kw_1396 (by decide +kernel) ⟨(Nat.le_of_ble_eq_true rfl), (Nat.le_of_ble_eq_true rfl)⟩ rfl hl.1 rfl (by decide) dX11_back_6 ⟨(Nat.le_of_ble_eq_true rfl), (Nat.le_of_ble_eq_true rfl)⟩) hP hD hS hA [] rfl (fun H locs t hB hj hS => ?_)
  obtain ⟨hP1, hD1⟩ := hB
  obtain ⟨hP, hD⟩ := hj (wr := [(h0, .inr (10, [.ref h1, .int 0, .int 0, .ref h2, .ref h3, .ref h4, .ref h5, .int 0, .int 0, .ref h6, .ref h7, .int 0, .int 0, .int 0, .int 0, .int 0, .int 0, .int 0, .ref h8, .int 0, .ref h9, .int 0, .ref h10, .ref h11, .ref h12, .ref h13, .ref h14, .ref h15, .ref h16, .int 0, .ref h17, .int 0, .ref h18, .int 0, .int 0, .int 0, .ref h19, .ref h20, .ref h21, .ref h22, .int 0, .ref h23, .ref h24]))]) (w1 := []) [0] rfl (by decide) (by decide) hP1 hD1
  have hP : va_P D vwCl [(h0, .inr (10, [.ref h1, .int 0, .int 0, .ref h2, .ref h3, .ref h4, .ref h5, .int 0, .int 0, .ref h6, .ref h7, .int 0, .int 0, .int 0, .int 0, .int 0, .int 0, .int 0, .ref h8, .int 0, .ref h9, .int 0, .ref h10, .ref h11, .ref h12, .ref h13, .ref h14, .ref h15, .ref h16, .int 0, .ref h17, .int 0, .ref h18, .int 0, .int 0, .int 0, .ref h19, .ref h20, .ref h21, .ref h22, .int 0, .ref h23, .ref h24]))] H := hP
  have hD : va_D A [(h0, .inr (10, [.ref h1, .int 0, .int 0, .ref h2, .ref h3, .ref h4, .ref h5, .int 0, .int 0, .ref h6, .ref h7, .int 0, .int 0, .int 0, .int 0, .int 0, .int 0, .int 0, .ref h8, .int 0, .ref h9, .int 0, .ref h10, .ref h11, .ref h12, .ref h13, .ref h14, .ref h15, .ref h16, .int 0, .ref h17, .int 0, .ref h18, .int 0, .int 0, .int 0, .ref h19, .ref h20, .ref h21, .ref h22, .int 0, .ref h23, .ref h24]))] := hD
  refine T_if_eq (tgt := 21) hx hb dX11_back_9 (by decide) (by decide) ?_
  refine lv_iconst (v := (-1)) hx hb dX11_back_21 (by decide) ?_
  exact retI hx hb hr hlocks rfl hS (by decide) (by decide) dX11_back_22 (fun t ht => ⟨by rw [ht]; exact hP, hD⟩)
set_option maxHeartbeats 4000000 in
set_option maxRecDepth 100000 in
theorem m367_X10_back (l : Launch) (D : va_G) (c : Nat → ClassId) (h0 h1 h2 h3 h4 h5 h6 h7 h8 h9 : Nat) (sz : Nat) (v0 : Int32) (g0 : ¬ v0.toInt < 0) (g1 : v0.toInt < 4) : Met l yX10_back (Cond.code yX10_back cX10_back 2 (some .int) :: TB) ({ frames := 0, cells := 0, slots := 0, locals := 0 } : Room) (va_Pc [.ref h0, .int v0] (PW D c [(h0, .inr (9, [.ref h2, .ref h3, .ref h4, .ref h5, .ref h6, .ref h1, .ref h7, .ref h8, .ref h9, .int 0])), (h1, .inl (c 5, 4, .inr (.inr (.inr (.inr (fun _ => none))))))] sz)) ((QI (-1) (fun A t => va_P D vwCl [(h0, .inr (9, [.ref h2, .ref h3, .ref h4, .ref h5, .ref h6, .ref h1, .ref h7, .ref h8, .ref h9, .int 0])), (h1, .inl (c 5, 4, .inr (.inr (.inr (.inr (fun _ => none))))))] t.heap ∧ va_D A [(h0, .inr (9, [.ref h2, .ref h3, .ref h4, .ref h5, .ref h6, .ref h1, .ref h7, .ref h8, .ref h9, .int 0])), (h1, .inl (c 5, 4, .inr (.inr (.inr (.inr (fun _ => none))))))])) (va_A [(h0, .inr (9, [.ref h2, .ref h3, .ref h4, .ref h5, .ref h6, .ref h1, .ref h7, .ref h8, .ref h9, .int 0])), (h1, .inl (c 5, 4, .inr (.inr (.inr (.inr (fun _ => none))))))] sz)) 0 0 (va_A [(h0, .inr (9, [.ref h2, .ref h3, .ref h4, .ref h5, .ref h6, .ref h1, .ref h7, .ref h8, .ref h9, .int 0])), (h1, .inl (c 5, 4, .inr (.inr (.inr (.inr (fun _ => none))))))] sz) := by
  refine start (by decide +kernel) (by decide) ?_
  intro p e s m below meth cd A ls hx hb hr hml hts hown hlocks hin hA hS hK hP hD hN hl
  have hown : s.vm.findClass RX10 = some m.cls := hown
  have hl : lv_has ls 2 [(0, .ref h0), (1, .int v0)] := hl
  have hP : va_P D vwCl [(h0, .inr (9, [.ref h2, .ref h3, .ref h4, .ref h5, .ref h6, .ref h1, .ref h7, .ref h8, .ref h9, .int 0])), (h1, .inl (c 5, 4, .inr (.inr (.inr (.inr (fun _ => none))))))] s.heap := hP
  refine lv_iload_n hx hb dX10_back_0 rfl (lv_at hl 1 rfl) ?_
  refine F_if_lt hx hb 18 dX10_back_1 (by decide) (nl_of (X := v0.toInt) (Y := 0) rfl (by decide) (by omega)) ?_
  refine lv_iload_n hx hb dX10_back_4 rfl (lv_at hl 1 rfl) ?_
  refine lv_iconst (v := 4) hx hb dX10_back_5 (by decide) ?_
  refine F_icmp_ge hx hb 18 dX10_back_6 (by decide) (ne_of (X := 4) (Y := v0.toInt) (by decide) rfl (by omega)) ?_
  refine lv_aload_n hx hb dX10_back_9 rfl (lv_at hl 0 rfl) ?_
  refine va_get (D := D) (ci := 9) (v := .ref h1) (C := RX10) (T := TX10) (N := 10) hx hb hts i_X10 hown hK hP 0 rfl rfl 5 (by decide) (hts _ kw_475) (fun _ h9 => h9) rfl dX10_back_10 ?_
  refine lv_iload_n hx hb dX10_back_13 rfl (lv_at hl 1 rfl) ?_
  refine va_aldq hx hb hK hP 1 5 rfl rfl (in_of (by omega) (by omega)) dX10_back_14 ?_
  refine tpv (.null) rfl ?_
  refine lv_ifnonnullN hx hb dX10_back_15 ?_
  refine lv_iconst (v := (-1)) hx hb dX10_back_18 (by decide) ?_
  exact retI hx hb hr hlocks rfl hS (by decide) (by decide) dX10_back_19 (fun t ht => ⟨by rw [ht]; exact hP, hD⟩)
set_option maxHeartbeats 4000000 in
set_option maxRecDepth 100000 in
theorem m368_X11_in (l : Launch) (D : va_G) (c : Nat → ClassId) (sz : Nat) (v0 : Int32) (g0 : ¬ v0.toInt < 0) (g1 : v0.toInt < 4) : Met l yX11_in (Cond.code yX11_in cX11_in 6 (some .boolean) :: TB) ({ frames := 0, cells := 0, slots := 0, locals := 0 } : Room) (va_Pc [.long (Int32.toInt64 v0), .long 0, .long 3] (PW D c [] sz)) ((QI 1 (fun A t => va_P D vwCl [] t.heap ∧ va_D A [])) (va_A [] sz)) 0 0 (va_A [] sz) := by
  refine start (by decide +kernel) (by decide) ?_
  intro p e s m below meth cd A ls hx hb hr hml hts hown hlocks hin hA hS hK hP hD hN hl
  have hown : s.vm.findClass RX11 = some m.cls := hown
  have hl : lv_has ls 6 [(0, .long (Int32.toInt64 v0)), (2, .long 0), (4, .long 3)] := hl
  have hP : va_P D vwCl [] s.heap := hP
  refine lv_lload_n hx hb dX11_in_0 rfl (lv_at hl 0 rfl) ?_
  refine lv_lload_n hx hb dX11_in_1 rfl (lv_at hl 1 rfl) ?_
  refine F_lc_lt (tgt := 17) (X := v0.toInt) (Y := 0) hx hb dX11_in_2 dX11_in_3 (by decide) (Int32.toInt_toInt64 v0) (by decide) (by omega) ?_
  refine lv_lload_n hx hb dX11_in_6 rfl (lv_at hl 0 rfl) ?_
  refine lv_lload hx hb dX11_in_7 (lv_at hl 2 rfl) ?_
  refine F_lc_gt (tgt := 17) (X := v0.toInt) (Y := 3) hx hb dX11_in_9 dX11_in_10 (by decide) (Int32.toInt_toInt64 v0) (by decide) (by omega) ?_
  refine lv_iconst (v := 1) hx hb dX11_in_13 (by decide) ?_
  refine lv_goto (tgt := 18) hx hb dX11_in_14 (by decide) ?_
  exact retI hx hb hr hlocks (by decide) hS (by decide) (by decide) dX11_in_18 (fun t ht => ⟨by rw [ht]; exact hP, hD⟩)
set_option maxHeartbeats 4000000 in
set_option maxRecDepth 100000 in
theorem m369_X11_back (l : Launch) (D : va_G) (c : Nat → ClassId) (h0 h1 h2 h3 h4 h5 h6 h7 h8 h9 h10 h11 h12 h13 h14 h15 h16 h17 h18 h19 h20 h21 h22 h23 h24 : Nat) (sz : Nat) (v0 : Int32) (g0 : ¬ v0.toInt < 0) (g1 : v0.toInt < 4) : Met l yX11_back (Cond.code yX11_back cX11_back 3 (some .int) :: TB) ({ frames := 1, cells := 0, slots := 0, locals := 25 } : Room) (va_Pc [.ref h0, .int v0] (PW D c [(h0, .inr (10, [.ref h2, .int 0, .int 0, .ref h3, .ref h4, .ref h5, .ref h6, .int 0, .int 0, .ref h7, .ref h8, .int 0, .int 0, .int 0, .int 0, .int 0, .int 0, .int 0, .ref h9, .int 0, .ref h10, .int 0, .ref h11, .ref h12, .ref h13, .ref h14, .ref h15, .ref h16, .ref h17, .int 0, .ref h18, .int 0, .ref h19, .int 0, .int 0, .int 0, .ref h20, .ref h21, .ref h22, .ref h23, .int 0, .ref h24, .ref h1])), (h1, .inl (c 3, 4, .inl (fun _ => 0)))] sz)) ((QI (-1) (fun A t => va_P D vwCl [(h0, .inr (10, [.ref h2, .int 0, .int 0, .ref h3, .ref h4, .ref h5, .ref h6, .int 0, .int 0, .ref h7, .ref h8, .int 0, .int 0, .int 0, .int 0, .int 0, .int 0, .int 0, .ref h9, .int 0, .ref h10, .int 0, .ref h11, .ref h12, .ref h13, .ref h14, .ref h15, .ref h16, .ref h17, .int 0, .ref h18, .int 0, .ref h19, .int 0, .int 0, .int 0, .ref h20, .ref h21, .ref h22, .ref h23, .int 0, .ref h24, .ref h1])), (h1, .inl (c 3, 4, .inl (fun _ => 0)))] t.heap ∧ va_D A [(h0, .inr (10, [.ref h2, .int 0, .int 0, .ref h3, .ref h4, .ref h5, .ref h6, .int 0, .int 0, .ref h7, .ref h8, .int 0, .int 0, .int 0, .int 0, .int 0, .int 0, .int 0, .ref h9, .int 0, .ref h10, .int 0, .ref h11, .ref h12, .ref h13, .ref h14, .ref h15, .ref h16, .ref h17, .int 0, .ref h18, .int 0, .ref h19, .int 0, .int 0, .int 0, .ref h20, .ref h21, .ref h22, .ref h23, .int 0, .ref h24, .ref h1])), (h1, .inl (c 3, 4, .inl (fun _ => 0)))])) (va_A [(h0, .inr (10, [.ref h2, .int 0, .int 0, .ref h3, .ref h4, .ref h5, .ref h6, .int 0, .int 0, .ref h7, .ref h8, .int 0, .int 0, .int 0, .int 0, .int 0, .int 0, .int 0, .ref h9, .int 0, .ref h10, .int 0, .ref h11, .ref h12, .ref h13, .ref h14, .ref h15, .ref h16, .ref h17, .int 0, .ref h18, .int 0, .ref h19, .int 0, .int 0, .int 0, .ref h20, .ref h21, .ref h22, .ref h23, .int 0, .ref h24, .ref h1])), (h1, .inl (c 3, 4, .inl (fun _ => 0)))] sz)) 0 0 (va_A [(h0, .inr (10, [.ref h2, .int 0, .int 0, .ref h3, .ref h4, .ref h5, .ref h6, .int 0, .int 0, .ref h7, .ref h8, .int 0, .int 0, .int 0, .int 0, .int 0, .int 0, .int 0, .ref h9, .int 0, .ref h10, .int 0, .ref h11, .ref h12, .ref h13, .ref h14, .ref h15, .ref h16, .ref h17, .int 0, .ref h18, .int 0, .ref h19, .int 0, .int 0, .int 0, .ref h20, .ref h21, .ref h22, .ref h23, .int 0, .ref h24, .ref h1])), (h1, .inl (c 3, 4, .inl (fun _ => 0)))] sz) := by
  refine start (by decide +kernel) (by decide) ?_
  intro p e s m below meth cd A ls hx hb hr hml hts hown hlocks hin hA hS hK hP hD hN hl
  have hown : s.vm.findClass RX11 = some m.cls := hown
  have hl : lv_has ls 3 [(0, .ref h0), (1, .int v0)] := hl
  have hP : va_P D vwCl [(h0, .inr (10, [.ref h2, .int 0, .int 0, .ref h3, .ref h4, .ref h5, .ref h6, .int 0, .int 0, .ref h7, .ref h8, .int 0, .int 0, .int 0, .int 0, .int 0, .int 0, .int 0, .ref h9, .int 0, .ref h10, .int 0, .ref h11, .ref h12, .ref h13, .ref h14, .ref h15, .ref h16, .ref h17, .int 0, .ref h18, .int 0, .ref h19, .int 0, .int 0, .int 0, .ref h20, .ref h21, .ref h22, .ref h23, .int 0, .ref h24, .ref h1])), (h1, .inl (c 3, 4, .inl (fun _ => 0)))] s.heap := hP
  refine lv_iload_n hx hb dX11_back_0 rfl (lv_at hl 1 rfl) ?_
  refine lv_i2l (v := Int32.toInt64 v0) hx hb dX11_back_1 rfl ?_
  refine lv_lconst (v := 0) hx hb dX11_back_2 (by decide) ?_
  refine lv_ldc2 (v := 3) hx hb hown (hts _ kw_1754) dX11_back_3 ?_
  refine fin_i (run_S ⟨hx, hb, hml, hown, hts⟩ (m368_X11_in l D c s.heap.size v0 (by omega) (by omega)) (hP.sub [] rfl) (hD.sub [] (by decide) rfl) hK hN rfl rfl kw_1394 kw_1395 kw_122 kw_1396 (by decide +kernel) ⟨(Nat.le_of_ble_eq_true rfl), (Nat.le_of_ble_eq_true rfl)⟩ rfl hl.1 rfl (by decide) dX11_back_6 ⟨(Nat.le_of_ble_eq_true rfl), (Nat.le_of_ble_eq_true rfl)⟩) hP hD hS hA [] rfl (fun H locs t hB hj hS => ?_)
  obtain ⟨hP1, hD1⟩ := hB
  obtain ⟨hP, hD⟩ := hj (wr := [(h0, .inr (10, [.ref h2, .int 0, .int 0, .ref h3, .ref h4, .ref h5, .ref h6, .int 0, .int 0, .ref h7, .ref h8, .int 0, .int 0, .int 0, .int 0, .int 0, .int 0, .int 0, .ref h9, .int 0, .ref h10, .int 0, .ref h11, .ref h12, .ref h13, .ref h14, .ref h15, .ref h16, .ref h17, .int 0, .ref h18, .int 0, .ref h19, .int 0, .int 0, .int 0, .ref h20, .ref h21, .ref h22, .ref h23, .int 0, .ref h24, .ref h1])), (h1, .inl (c 3, 4, .inl (fun _ => 0)))]) (w1 := []) [0, 1] rfl (by decide) (by decide) hP1 hD1
  have hP : va_P D vwCl [(h0, .inr (10, [.ref h2, .int 0, .int 0, .ref h3, .ref h4, .ref h5, .ref h6, .int 0, .int 0, .ref h7, .ref h8, .int 0, .int 0, .int 0, .int 0, .int 0, .int 0, .int 0, .ref h9, .int 0, .ref h10, .int 0, .ref h11, .ref h12, .ref h13, .ref h14, .ref h15, .ref h16, .ref h17, .int 0, .ref h18, .int 0, .ref h19, .int 0, .int 0, .int 0, .ref h20, .ref h21, .ref h22, .ref h23, .int 0, .ref h24, .ref h1])), (h1, .inl (c 3, 4, .inl (fun _ => 0)))] H := hP
  have hD : va_D A [(h0, .inr (10, [.ref h2, .int 0, .int 0, .ref h3, .ref h4, .ref h5, .ref h6, .int 0, .int 0, .ref h7, .ref h8, .int 0, .int 0, .int 0, .int 0, .int 0, .int 0, .int 0, .ref h9, .int 0, .ref h10, .int 0, .ref h11, .ref h12, .ref h13, .ref h14, .ref h15, .ref h16, .ref h17, .int 0, .ref h18, .int 0, .ref h19, .int 0, .int 0, .int 0, .ref h20, .ref h21, .ref h22, .ref h23, .int 0, .ref h24, .ref h1])), (h1, .inl (c 3, 4, .inl (fun _ => 0)))] := hD
  refine F_if_eq hx hb 21 dX11_back_9 (by decide) (by decide) ?_
  refine lv_aload_n hx hb dX11_back_12 rfl (lv_at hl 0 rfl) ?_
  refine va_get (D := D) (ci := 10) (v := .ref h1) (C := RX11) (T := TX11) (N := 43) hx hb hts i_X11 hown hK hP 0 rfl rfl 42 (by decide) (hts _ kw_1245) (fun _ h9 => h9) rfl dX11_back_13 ?_
  refine lv_iload_n hx hb dX11_back_16 rfl (lv_at hl 1 rfl) ?_
  refine va_zald hx hb hK hP 1 3 rfl rfl (in_of (by omega) (by omega)) dX11_back_17 ?_
  refine tpi 0 (by first | rfl | decide) ?_
  refine F_if_ne hx hb 23 dX11_back_18 (by decide) (by decide) ?_
  refine lv_iconst (v := (-1)) hx hb dX11_back_21 (by decide) ?_
  exact retI hx hb hr hlocks rfl hS (by decide) (by decide) dX11_back_22 (fun t ht => ⟨by rw [ht]; exact hP, hD⟩)
set_option maxHeartbeats 4000000 in
set_option maxRecDepth 100000 in
theorem m370_X10_back (l : Launch) (D : va_G) (c : Nat → ClassId) (h0 h1 h2 h3 h4 h5 h6 h7 h8 h9 : Nat) (sz : Nat) (v0 : Int32) (g0 : ¬ v0.toInt < 0) (g1 : ¬ v0.toInt < 4) : Met l yX10_back (Cond.code yX10_back cX10_back 2 (some .int) :: TB) ({ frames := 0, cells := 0, slots := 0, locals := 0 } : Room) (va_Pc [.ref h0, .int v0] (PW D c [(h0, .inr (9, [.ref h1, .ref h2, .ref h3, .ref h4, .ref h5, .ref h6, .ref h7, .ref h8, .ref h9, .int 0]))] sz)) ((QI (-1) (fun A t => va_P D vwCl [(h0, .inr (9, [.ref h1, .ref h2, .ref h3, .ref h4, .ref h5, .ref h6, .ref h7, .ref h8, .ref h9, .int 0]))] t.heap ∧ va_D A [(h0, .inr (9, [.ref h1, .ref h2, .ref h3, .ref h4, .ref h5, .ref h6, .ref h7, .ref h8, .ref h9, .int 0]))])) (va_A [(h0, .inr (9, [.ref h1, .ref h2, .ref h3, .ref h4, .ref h5, .ref h6, .ref h7, .ref h8, .ref h9, .int 0]))] sz)) 0 0 (va_A [(h0, .inr (9, [.ref h1, .ref h2, .ref h3, .ref h4, .ref h5, .ref h6, .ref h7, .ref h8, .ref h9, .int 0]))] sz) := by
  refine start (by decide +kernel) (by decide) ?_
  intro p e s m below meth cd A ls hx hb hr hml hts hown hlocks hin hA hS hK hP hD hN hl
  have hown : s.vm.findClass RX10 = some m.cls := hown
  have hl : lv_has ls 2 [(0, .ref h0), (1, .int v0)] := hl
  have hP : va_P D vwCl [(h0, .inr (9, [.ref h1, .ref h2, .ref h3, .ref h4, .ref h5, .ref h6, .ref h7, .ref h8, .ref h9, .int 0]))] s.heap := hP
  refine lv_iload_n hx hb dX10_back_0 rfl (lv_at hl 1 rfl) ?_
  refine F_if_lt hx hb 18 dX10_back_1 (by decide) (nl_of (X := v0.toInt) (Y := 0) rfl (by decide) (by omega)) ?_
  refine lv_iload_n hx hb dX10_back_4 rfl (lv_at hl 1 rfl) ?_
  refine lv_iconst (v := 4) hx hb dX10_back_5 (by decide) ?_
  refine T_icmp_ge (tgt := 18) hx hb dX10_back_6 (by decide) (le_of (X := 4) (Y := v0.toInt) (by decide) rfl (by omega)) ?_
  refine lv_iconst (v := (-1)) hx hb dX10_back_18 (by decide) ?_
  exact retI hx hb hr hlocks rfl hS (by decide) (by decide) dX10_back_19 (fun t ht => ⟨by rw [ht]; exact hP, hD⟩)
set_option maxHeartbeats 4000000 in
set_option maxRecDepth 100000 in
theorem m371_X11_back (l : Launch) (D : va_G) (c : Nat → ClassId) (h0 h1 h2 h3 h4 h5 h6 h7 h8 h9 h10 h11 h12 h13 h14 h15 h16 h17 h18 h19 h20 h21 h22 h23 h24 : Nat) (sz : Nat) (v0 : Int32) (g0 : ¬ v0.toInt < 0) (g1 : ¬ v0.toInt < 4) : Met l yX11_back (Cond.code yX11_back cX11_back 3 (some .int) :: TB) ({ frames := 1, cells := 0, slots := 0, locals := 25 } : Room) (va_Pc [.ref h0, .int v0] (PW D c [(h0, .inr (10, [.ref h1, .int 0, .int 0, .ref h2, .ref h3, .ref h4, .ref h5, .int 0, .int 0, .ref h6, .ref h7, .int 0, .int 0, .int 0, .int 0, .int 0, .int 0, .int 0, .ref h8, .int 0, .ref h9, .int 0, .ref h10, .ref h11, .ref h12, .ref h13, .ref h14, .ref h15, .ref h16, .int 0, .ref h17, .int 0, .ref h18, .int 0, .int 0, .int 0, .ref h19, .ref h20, .ref h21, .ref h22, .int 0, .ref h23, .ref h24]))] sz)) ((QI (-1) (fun A t => va_P D vwCl [(h0, .inr (10, [.ref h1, .int 0, .int 0, .ref h2, .ref h3, .ref h4, .ref h5, .int 0, .int 0, .ref h6, .ref h7, .int 0, .int 0, .int 0, .int 0, .int 0, .int 0, .int 0, .ref h8, .int 0, .ref h9, .int 0, .ref h10, .ref h11, .ref h12, .ref h13, .ref h14, .ref h15, .ref h16, .int 0, .ref h17, .int 0, .ref h18, .int 0, .int 0, .int 0, .ref h19, .ref h20, .ref h21, .ref h22, .int 0, .ref h23, .ref h24]))] t.heap ∧ va_D A [(h0, .inr (10, [.ref h1, .int 0, .int 0, .ref h2, .ref h3, .ref h4, .ref h5, .int 0, .int 0, .ref h6, .ref h7, .int 0, .int 0, .int 0, .int 0, .int 0, .int 0, .int 0, .ref h8, .int 0, .ref h9, .int 0, .ref h10, .ref h11, .ref h12, .ref h13, .ref h14, .ref h15, .ref h16, .int 0, .ref h17, .int 0, .ref h18, .int 0, .int 0, .int 0, .ref h19, .ref h20, .ref h21, .ref h22, .int 0, .ref h23, .ref h24]))])) (va_A [(h0, .inr (10, [.ref h1, .int 0, .int 0, .ref h2, .ref h3, .ref h4, .ref h5, .int 0, .int 0, .ref h6, .ref h7, .int 0, .int 0, .int 0, .int 0, .int 0, .int 0, .int 0, .ref h8, .int 0, .ref h9, .int 0, .ref h10, .ref h11, .ref h12, .ref h13, .ref h14, .ref h15, .ref h16, .int 0, .ref h17, .int 0, .ref h18, .int 0, .int 0, .int 0, .ref h19, .ref h20, .ref h21, .ref h22, .int 0, .ref h23, .ref h24]))] sz)) 0 0 (va_A [(h0, .inr (10, [.ref h1, .int 0, .int 0, .ref h2, .ref h3, .ref h4, .ref h5, .int 0, .int 0, .ref h6, .ref h7, .int 0, .int 0, .int 0, .int 0, .int 0, .int 0, .int 0, .ref h8, .int 0, .ref h9, .int 0, .ref h10, .ref h11, .ref h12, .ref h13, .ref h14, .ref h15, .ref h16, .int 0, .ref h17, .int 0, .ref h18, .int 0, .int 0, .int 0, .ref h19, .ref h20, .ref h21, .ref h22, .int 0, .ref h23, .ref h24]))] sz) := by
  refine start (by decide +kernel) (by decide) ?_
  intro p e s m below meth cd A ls hx hb hr hml hts hown hlocks hin hA hS hK hP hD hN hl
  have hown : s.vm.findClass RX11 = some m.cls := hown
  have hl : lv_has ls 3 [(0, .ref h0), (1, .int v0)] := hl
  have hP : va_P D vwCl [(h0, .inr (10, [.ref h1, .int 0, .int 0, .ref h2, .ref h3, .ref h4, .ref h5, .int 0, .int 0, .ref h6, .ref h7, .int 0, .int 0, .int 0, .int 0, .int 0, .int 0, .int 0, .ref h8, .int 0, .ref h9, .int 0, .ref h10, .ref h11, .ref h12, .ref h13, .ref h14, .ref h15, .ref h16, .int 0, .ref h17, .int 0, .ref h18, .int 0, .int 0, .int 0, .ref h19, .ref h20, .ref h21, .ref h22, .int 0, .ref h23, .ref h24]))] s.heap := hP
  refine lv_iload_n hx hb dX11_back_0 rfl (lv_at hl 1 rfl) ?_
  refine lv_i2l (v := Int32.toInt64 v0) hx hb dX11_back_1 rfl ?_
  refine lv_lconst (v := 0) hx hb dX11_back_2 (by decide) ?_
  refine lv_ldc2 (v := 3) hx hb hown (hts _ kw_1754) dX11_back_3 ?_
  refine fin_i (run_S ⟨hx, hb, hml, hown, hts⟩ (m363_X11_in l D c s.heap.size v0 (by omega) (by omega)) (hP.sub [] rfl) (hD.sub [] (by decide) rfl) hK hN rfl rfl kw_1394 kw_1395 kw_122 kw_1396 (by decide +kernel) ⟨(Nat.le_of_ble_eq_true rfl), (Nat.le_of_ble_eq_true rfl)⟩ rfl hl.1 rfl (by decide) dX11_back_6 ⟨(Nat.le_of_ble_eq_true rfl), (Nat.le_of_ble_eq_true rfl)⟩) hP hD hS hA [] rfl (fun H locs t hB hj hS => ?_)
  obtain ⟨hP1, hD1⟩ := hB
  obtain ⟨hP, hD⟩ := hj (wr := [(h0, .inr (10, [.ref h1, .int 0, .int 0, .ref h2, .ref h3, .ref h4, .ref h5, .int 0, .int 0, .ref h6, .ref h7, .int 0, .int 0, .int 0, .int 0, .int 0, .int 0, .int 0, .ref h8, .int 0, .ref h9, .int 0, .ref h10, .ref h11, .ref h12, .ref h13, .ref h14, .ref h15, .ref h16, .int 0, .ref h17, .int 0, .ref h18, .int 0, .int 0, .int 0, .ref h19, .ref h20, .ref h21, .ref h22, .int 0, .ref h23, .ref h24]))]) (w1 := []) [0] rfl (by decide) (by decide) hP1 hD1
  have hP : va_P D vwCl [(h0, .inr (10, [.ref h1, .int 0, .int 0, .ref h2, .ref h3, .ref h4, .ref h5, .int 0, .int 0, .ref h6, .ref h7, .int 0, .int 0, .int 0, .int 0, .int 0, .int 0, .int 0, .ref h8, .int 0, .ref h9, .int 0, .ref h10, .ref h11, .ref h12, .ref h13, .ref h14, .ref h15, .ref h16, .int 0, .ref h17, .int 0, .ref h18, .int 0, .int 0, .int 0, .ref h19, .ref h20, .ref h21, .ref h22, .int 0, .ref h23, .ref h24]))] H := hP
  have hD : va_D A [(h0, .inr (10, [.ref h1, .int 0, .int 0, .ref h2, .ref h3, .ref h4, .ref h5, .int 0, .int 0, .ref h6, .ref h7, .int 0, .int 0, .int 0, .int 0, .int 0, .int 0, .int 0, .ref h8, .int 0, .ref h9, .int 0, .ref h10, .ref h11, .ref h12, .ref h13, .ref h14, .ref h15, .ref h16, .int 0, .ref h17, .int 0, .ref h18, .int 0, .int 0, .int 0, .ref h19, .ref h20, .ref h21, .ref h22, .int 0, .ref h23, .ref h24]))] := hD
  refine T_if_eq (tgt := 21) hx hb dX11_back_9 (by decide) (by decide) ?_
  refine lv_iconst (v := (-1)) hx hb dX11_back_21 (by decide) ?_
  exact retI hx hb hr hlocks rfl hS (by decide) (by decide) dX11_back_22 (fun t ht => ⟨by rw [ht]; exact hP, hD⟩)
