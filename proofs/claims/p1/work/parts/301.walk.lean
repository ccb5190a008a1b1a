set_option maxHeartbeats 4000000 in
set_option maxRecDepth 100000 in
theorem m11_X9_put (l : Launch) (D : va_G) (c : Nat → ClassId) (h0 h1 : Nat) (sz : Nat) (v0 : Int32) (f0 : Nat → Int32) : Met l yX9_put (Cond.code yX9_put cX9_put 3 none :: TB) ({ frames := 0, cells := 0, slots := 0, locals := 0 } : Room) (va_Pc [.ref h0, .int v0] (PW D c [(h0, .inr (8, [.ref h1, .int 4, .int 0, .int 0, .int 0, .int 0])), (h1, .inl (c 0, 400, .inl f0))] sz)) ((QV (fun A t => ∃ (f_397 : Nat → Int32), va_P D vwCl [(h0, .inr (8, [.ref h1, .int 8, .int 0, .int 0, .int 0, .int 0])), (h1, .inl (c 0, 400, .inl f_397))] t.heap ∧ va_D A [(h0, .inr (8, [.ref h1, .int 8, .int 0, .int 0, .int 0, .int 0])), (h1, .inl (c 0, 400, .inl f_397))])) (va_A [(h0, .inr (8, [.ref h1, .int 4, .int 0, .int 0, .int 0, .int 0])), (h1, .inl (c 0, 400, .inl f0))] sz)) 0 0 (va_A [(h0, .inr (8, [.ref h1, .int 4, .int 0, .int 0, .int 0, .int 0])), (h1, .inl (c 0, 400, .inl f0))] sz) := by
  refine start (by decide +kernel) (Nat.le_of_ble_eq_true rfl) ?_
  intro p e s m below meth cd A ls hx hb hr hml hts hown hlocks hin hA hS hK hP hD hN hl
  have hown : s.vm.findClass RX9 = some m.cls := hown
  have hl : lv_has ls 3 [(0, .ref h0), (1, .int v0)] := hl
  have hP : va_P D vwCl [(h0, .inr (8, [.ref h1, .int 4, .int 0, .int 0, .int 0, .int 0])), (h1, .inl (c 0, 400, .inl f0))] s.heap := hP
  refine lv_bipush (v := 24) hx hb dX9_put_0 (by decide) ?_
  refine lv_istore_n (lv' := [(2, .int 24), (0, .ref h0), (1, .int v0)]) hx hb dX9_put_2 rfl hl (by decide) rfl (fun ls hl => ?_)
  refine lv_iload_n hx hb dX9_put_3 rfl (lv_at hl 0 rfl) ?_
  refine F_if_lt hx hb 49 dX9_put_4 (by decide) (by decide) ?_
  refine lv_aload_n hx hb dX9_put_7 rfl (lv_at hl 1 rfl) ?_
  refine va_get (D := D) (ci := 8) (v := .int 4) (C := RX9) (T := TX9) (N := 6) hx hb hts i_X9 hown hK hP 0 rfl rfl 1 (by decide) (hts _ kw_149) (fun _ h9 => h9) rfl dX9_put_8 ?_
  refine lv_sipush (v := 400) hx hb dX9_put_11 (by decide) ?_
  refine F_icmp_ge hx hb 49 dX9_put_14 (by decide) (by decide) ?_
  refine lv_aload_n hx hb dX9_put_17 rfl (lv_at hl 1 rfl) ?_
  refine va_get (D := D) (ci := 8) (v := .ref h1) (C := RX9) (T := TX9) (N := 6) hx hb hts i_X9 hown hK hP 0 rfl rfl 0 (by decide) (hts _ kw_147) (fun _ h9 => h9) rfl dX9_put_18 ?_
  refine lv_aload_n hx hb dX9_put_21 rfl (lv_at hl 1 rfl) ?_
  refine va_get (D := D) (ci := 8) (v := .int 4) (C := RX9) (T := TX9) (N := 6) hx hb hts i_X9 hown hK hP 0 rfl rfl 1 (by decide) (hts _ kw_149) (fun _ h9 => h9) rfl dX9_put_22 ?_
  refine lv_iload_n hx hb dX9_put_25 rfl (lv_at hl 2 rfl) ?_
  refine lv_iload_n hx hb dX9_put_26 rfl (lv_at hl 0 rfl) ?_
  refine lv_ishr hx hb dX9_put_27 ?_
  refine lv_topi (fun z_386 ez_386 => ?_)
  refine lv_sipush (v := 255) hx hb dX9_put_28 (by decide) ?_
  refine lv_iand hx hb dX9_put_31 ?_
  refine lv_topi (fun z_387 ez_387 => ?_)
  refine va_iast hx hb hK hP hD hS 1 0 rfl rfl (vpi (by decide)) dX9_put_32 (fun H locs hP hD hS => ?_)
  obtain ⟨f_388, hP, hD⟩ : ∃ f_388 : Nat → Int32, va_P D vwCl [(h0, .inr (8, [.ref h1, .int 4, .int 0, .int 0, .int 0, .int 0])), (h1, .inl (c 0, 400, .inl f_388))] H ∧ va_D A [(h0, .inr (8, [.ref h1, .int 4, .int 0, .int 0, .int 0, .int 0])), (h1, .inl (c 0, 400, .inl f_388))] := ⟨upd f0 (Int32.toNatClampNeg 4) z_387, hP, hD⟩
  refine lv_aload_n hx hb dX9_put_33 rfl (lv_at hl 1 rfl) ?_
  refine lv_dup hx hb dX9_put_34 rfl ?_
  refine va_get (D := D) (ci := 8) (v := .int 4) (C := RX9) (T := TX9) (N := 6) hx hb hts i_X9 hown hK hP 0 rfl rfl 1 (by decide) (hts _ kw_149) (fun _ h9 => h9) rfl dX9_put_35 ?_
  refine lv_iconst (v := 1) hx hb dX9_put_38 (by decide) ?_
  refine lv_iadd hx hb dX9_put_39 ?_
  refine tpi 5 (by decide) ?_
  refine va_put (D := D) (ci := 8) (v := .int 5) (ty := .int) (C := RX9) (T := TX9) (N := 6) hx hb hts i_X9 tyX9 tyX9_ok nmX9 hown hK hP hD hS 0 rfl rfl 1 (by decide) (hts _ kw_149) (fun _ h9 => h9) rfl (tyX9_ok 1 (by decide)) rfl rfl (Nat.le_of_ble_eq_true rfl) dX9_put_40 (fun H locs hP hD hS => ?_)
  have hP : va_P D vwCl [(h0, .inr (8, [.ref h1, .int 5, .int 0, .int 0, .int 0, .int 0])), (h1, .inl (c 0, 400, .inl f_388))] H := hP
  have hD : va_D A [(h0, .inr (8, [.ref h1, .int 5, .int 0, .int 0, .int 0, .int 0])), (h1, .inl (c 0, 400, .inl f_388))] := hD
  refine lv_iinc (v := 16) (lv' := [(2, .int 16), (0, .ref h0), (1, .int v0)]) hx hb dX9_put_43 hl (k := 0) rfl (by decide) (by decide) rfl (fun ls hl => ?_)
  refine lv_goto (tgt := 3) hx hb dX9_put_46 (by decide) ?_
  refine lv_iload_n hx hb dX9_put_3 rfl (lv_at hl 0 rfl) ?_
  refine F_if_lt hx hb 49 dX9_put_4 (by decide) (by decide) ?_
  refine lv_aload_n hx hb dX9_put_7 rfl (lv_at hl 1 rfl) ?_
  refine va_get (D := D) (ci := 8) (v := .int 5) (C := RX9) (T := TX9) (N := 6) hx hb hts i_X9 hown hK hP 0 rfl rfl 1 (by decide) (hts _ kw_149) (fun _ h9 => h9) rfl dX9_put_8 ?_
  refine lv_sipush (v := 400) hx hb dX9_put_11 (by decide) ?_
  refine F_icmp_ge hx hb 49 dX9_put_14 (by decide) (by decide) ?_
  refine lv_aload_n hx hb dX9_put_17 rfl (lv_at hl 1 rfl) ?_
  refine va_get (D := D) (ci := 8) (v := .ref h1) (C := RX9) (T := TX9) (N := 6) hx hb hts i_X9 hown hK hP 0 rfl rfl 0 (by decide) (hts _ kw_147) (fun _ h9 => h9) rfl dX9_put_18 ?_
  refine lv_aload_n hx hb dX9_put_21 rfl (lv_at hl 1 rfl) ?_
  refine va_get (D := D) (ci := 8) (v := .int 5) (C := RX9) (T := TX9) (N := 6) hx hb hts i_X9 hown hK hP 0 rfl rfl 1 (by decide) (hts _ kw_149) (fun _ h9 => h9) rfl dX9_put_22 ?_
  refine lv_iload_n hx hb dX9_put_25 rfl (lv_at hl 2 rfl) ?_
  refine lv_iload_n hx hb dX9_put_26 rfl (lv_at hl 0 rfl) ?_
  refine lv_ishr hx hb dX9_put_27 ?_
  refine lv_topi (fun z_389 ez_389 => ?_)
  refine lv_sipush (v := 255) hx hb dX9_put_28 (by decide) ?_
  refine lv_iand hx hb dX9_put_31 ?_
  refine lv_topi (fun z_390 ez_390 => ?_)
  refine va_iast hx hb hK hP hD hS 1 0 rfl rfl (vpi (by decide)) dX9_put_32 (fun H locs hP hD hS => ?_)
  obtain ⟨f_391, hP, hD⟩ : ∃ f_391 : Nat → Int32, va_P D vwCl [(h0, .inr (8, [.ref h1, .int 5, .int 0, .int 0, .int 0, .int 0])), (h1, .inl (c 0, 400, .inl f_391))] H ∧ va_D A [(h0, .inr (8, [.ref h1, .int 5, .int 0, .int 0, .int 0, .int 0])), (h1, .inl (c 0, 400, .inl f_391))] := ⟨upd f_388 (Int32.toNatClampNeg 5) z_390, hP, hD⟩
  refine lv_aload_n hx hb dX9_put_33 rfl (lv_at hl 1 rfl) ?_
  refine lv_dup hx hb dX9_put_34 rfl ?_
  refine va_get (D := D) (ci := 8) (v := .int 5) (C := RX9) (T := TX9) (N := 6) hx hb hts i_X9 hown hK hP 0 rfl rfl 1 (by decide) (hts _ kw_149) (fun _ h9 => h9) rfl dX9_put_35 ?_
  refine lv_iconst (v := 1) hx hb dX9_put_38 (by decide) ?_
  refine lv_iadd hx hb dX9_put_39 ?_
  refine tpi 6 (by decide) ?_
  refine va_put (D := D) (ci := 8) (v := .int 6) (ty := .int) (C := RX9) (T := TX9) (N := 6) hx hb hts i_X9 tyX9 tyX9_ok nmX9 hown hK hP hD hS 0 rfl rfl 1 (by decide) (hts _ kw_149) (fun _ h9 => h9) rfl (tyX9_ok 1 (by decide)) rfl rfl (Nat.le_of_ble_eq_true rfl) dX9_put_40 (fun H locs hP hD hS => ?_)
  have hP : va_P D vwCl [(h0, .inr (8, [.ref h1, .int 6, .int 0, .int 0, .int 0, .int 0])), (h1, .inl (c 0, 400, .inl f_391))] H := hP
  have hD : va_D A [(h0, .inr (8, [.ref h1, .int 6, .int 0, .int 0, .int 0, .int 0])), (h1, .inl (c 0, 400, .inl f_391))] := hD
  refine lv_iinc (v := 8) (lv' := [(2, .int 8), (0, .ref h0), (1, .int v0)]) hx hb dX9_put_43 hl (k := 0) rfl (by decide) (by decide) rfl (fun ls hl => ?_)
  refine lv_goto (tgt := 3) hx hb dX9_put_46 (by decide) ?_
  refine lv_iload_n hx hb dX9_put_3 rfl (lv_at hl 0 rfl) ?_
  refine F_if_lt hx hb 49 dX9_put_4 (by decide) (by decide) ?_
  refine lv_aload_n hx hb dX9_put_7 rfl (lv_at hl 1 rfl) ?_
  refine va_get (D := D) (ci := 8) (v := .int 6) (C := RX9) (T := TX9) (N := 6) hx hb hts i_X9 hown hK hP 0 rfl rfl 1 (by decide) (hts _ kw_149) (fun _ h9 => h9) rfl dX9_put_8 ?_
  refine lv_sipush (v := 400) hx hb dX9_put_11 (by decide) ?_
  refine F_icmp_ge hx hb 49 dX9_put_14 (by decide) (by decide) ?_
  refine lv_aload_n hx hb dX9_put_17 rfl (lv_at hl 1 rfl) ?_
  refine va_get (D := D) (ci := 8) (v := .ref h1) (C := RX9) (T := TX9) (N := 6) hx hb hts i_X9 hown hK hP 0 rfl rfl 0 (by decide) (hts _ kw_147) (fun _ h9 => h9) rfl dX9_put_18 ?_
  refine lv_aload_n hx hb dX9_put_21 rfl (lv_at hl 1 rfl) ?_
  refine va_get (D := D) (ci := 8) (v := .int 6) (C := RX9) (T := TX9) (N := 6) hx hb hts i_X9 hown hK hP 0 rfl rfl 1 (by decide) (hts _ kw_149) (fun _ h9 => h9) rfl dX9_put_22 ?_
  refine lv_iload_n hx hb dX9_put_25 rfl (lv_at hl 2 rfl) ?_
  refine lv_iload_n hx hb dX9_put_26 rfl (lv_at hl 0 rfl) ?_
  refine lv_ishr hx hb dX9_put_27 ?_
  refine lv_topi (fun z_392 ez_392 => ?_)
  refine lv_sipush (v := 255) hx hb dX9_put_28 (by decide) ?_
  refine lv_iand hx hb dX9_put_31 ?_
  refine lv_topi (fun z_393 ez_393 => ?_)
  refine va_iast hx hb hK hP hD hS 1 0 rfl rfl (vpi (by decide)) dX9_put_32 (fun H locs hP hD hS => ?_)
  obtain ⟨f_394, hP, hD⟩ : ∃ f_394 : Nat → Int32, va_P D vwCl [(h0, .inr (8, [.ref h1, .int 6, .int 0, .int 0, .int 0, .int 0])), (h1, .inl (c 0, 400, .inl f_394))] H ∧ va_D A [(h0, .inr (8, [.ref h1, .int 6, .int 0, .int 0, .int 0, .int 0])), (h1, .inl (c 0, 400, .inl f_394))] := ⟨upd f_391 (Int32.toNatClampNeg 6) z_393, hP, hD⟩
  refine lv_aload_n hx hb dX9_put_33 rfl (lv_at hl 1 rfl) ?_
  refine lv_dup hx hb dX9_put_34 rfl ?_
  refine va_get (D := D) (ci := 8) (v := .int 6) (C := RX9) (T := TX9) (N := 6) hx hb hts i_X9 hown hK hP 0 rfl rfl 1 (by decide) (hts _ kw_149) (fun _ h9 => h9) rfl dX9_put_35 ?_
  refine lv_iconst (v := 1) hx hb dX9_put_38 (by decide) ?_
  refine lv_iadd hx hb dX9_put_39 ?_
  refine tpi 7 (by decide) ?_
  refine va_put (D := D) (ci := 8) (v := .int 7) (ty := .int) (C := RX9) (T := TX9) (N := 6) hx hb hts i_X9 tyX9 tyX9_ok nmX9 hown hK hP hD hS 0 rfl rfl 1 (by decide) (hts _ kw_149) (fun _ h9 => h9) rfl (tyX9_ok 1 (by decide)) rfl rfl (Nat.le_of_ble_eq_true rfl) dX9_put_40 (fun H locs hP hD hS => ?_)
  have hP : va_P D vwCl [(h0, .inr (8, [.ref h1, .int 7, .int 0, .int 0, .int 0, .int 0])), (h1, .inl (c 0, 400, .inl f_394))] H := hP
  have hD : va_D A [(h0, .inr (8, [.ref h1, .int 7, .int 0, .int 0, .int 0, .int 0])), (h1, .inl (c 0, 400, .inl f_394))] := hD
  refine lv_iinc (v := 0) (lv' := [(2, .int 0), (0, .ref h0), (1, .int v0)]) hx hb dX9_put_43 hl (k := 0) rfl (by decide) (by decide) rfl (fun ls hl => ?_)
  refine lv_goto (tgt := 3) hx hb dX9_put_46 (by decide) ?_
  refine lv_iload_n hx hb dX9_put_3 rfl (lv_at hl 0 rfl) ?_
  refine F_if_lt hx hb 49 dX9_put_4 (by decide) (by decide) ?_
  refine lv_aload_n hx hb dX9_put_7 rfl (lv_at hl 1 rfl) ?_
  refine va_get (D := D) (ci := 8) (v := .int 7) (C := RX9) (T := TX9) (N := 6) hx hb hts i_X9 hown hK hP 0 rfl rfl 1 (by decide) (hts _ kw_149) (fun _ h9 => h9) rfl dX9_put_8 ?_
  refine lv_sipush (v := 400) hx hb dX9_put_11 (by decide) ?_
  refine F_icmp_ge hx hb 49 dX9_put_14 (by decide) (by decide) ?_
  refine lv_aload_n hx hb dX9_put_17 rfl (lv_at hl 1 rfl) ?_
  refine va_get (D := D) (ci := 8) (v := .ref h1) (C := RX9) (T := TX9) (N := 6) hx hb hts i_X9 hown hK hP 0 rfl rfl 0 (by decide) (hts _ kw_147) (fun _ h9 => h9) rfl dX9_put_18 ?_
  refine lv_aload_n hx hb dX9_put_21 rfl (lv_at hl 1 rfl) ?_
  refine va_get (D := D) (ci := 8) (v := .int 7) (C := RX9) (T := TX9) (N := 6) hx hb hts i_X9 hown hK hP 0 rfl rfl 1 (by decide) (hts _ kw_149) (fun _ h9 => h9) rfl dX9_put_22 ?_
  refine lv_iload_n hx hb dX9_put_25 rfl (lv_at hl 2 rfl) ?_
  refine lv_iload_n hx hb dX9_put_26 rfl (lv_at hl 0 rfl) ?_
  refine lv_ishr hx hb dX9_put_27 ?_
  refine lv_topi (fun z_395 ez_395 => ?_)
  refine lv_sipush (v := 255) hx hb dX9_put_28 (by decide) ?_
  refine lv_iand hx hb dX9_put_31 ?_
  refine lv_topi (fun z_396 ez_396 => ?_)
  refine va_iast hx hb hK hP hD hS 1 0 rfl rfl (vpi (by decide)) dX9_put_32 (fun H locs hP hD hS => ?_)
  obtain ⟨f_397, hP, hD⟩ : ∃ f_397 : Nat → Int32, va_P D vwCl [(h0, .inr (8, [.ref h1, .int 7, .int 0, .int 0, .int 0, .int 0])), (h1, .inl (c 0, 400, .inl f_397))] H ∧ va_D A [(h0, .inr (8, [.ref h1, .int 7, .int 0, .int 0, .int 0, .int 0])), (h1, .inl (c 0, 400, .inl f_397))] := ⟨upd f_394 (Int32.toNatClampNeg 7) z_396, hP, hD⟩
  refine lv_aload_n hx hb dX9_put_33 rfl (lv_at hl 1 rfl) ?_
  refine lv_dup hx hb dX9_put_34 rfl ?_
  refine va_get (D := D) (ci := 8) (v := .int 7) (C := RX9) (T := TX9) (N := 6) hx hb hts i_X9 hown hK hP 0 rfl rfl 1 (by decide) (hts _ kw_149) (fun _ h9 => h9) rfl dX9_put_35 ?_
  refine lv_iconst (v := 1) hx hb dX9_put_38 (by decide) ?_
  refine lv_iadd hx hb dX9_put_39 ?_
  refine tpi 8 (by decide) ?_
  refine va_put (D := D) (ci := 8) (v := .int 8) (ty := .int) (C := RX9) (T := TX9) (N := 6) hx hb hts i_X9 tyX9 tyX9_ok nmX9 hown hK hP hD hS 0 rfl rfl 1 (by decide) (hts _ kw_149) (fun _ h9 => h9) rfl (tyX9_ok 1 (by decide)) rfl rfl (Nat.le_of_ble_eq_true rfl) dX9_put_40 (fun H locs hP hD hS => ?_)
  have hP : va_P D vwCl [(h0, .inr (8, [.ref h1, .int 8, .int 0, .int 0, .int 0, .int 0])), (h1, .inl (c 0, 400, .inl f_397))] H := hP
  have hD : va_D A [(h0, .inr (8, [.ref h1, .int 8, .int 0, .int 0, .int 0, .int 0])), (h1, .inl (c 0, 400, .inl f_397))] := hD
  refine lv_iinc (v := (-8)) (lv' := [(2, .int (-8)), (0, .ref h0), (1, .int v0)]) hx hb dX9_put_43 hl (k := 0) rfl (by decide) (by decide) rfl (fun ls hl => ?_)
  refine lv_goto (tgt := 3) hx hb dX9_put_46 (by decide) ?_
  refine lv_iload_n hx hb dX9_put_3 rfl (lv_at hl 0 rfl) ?_
  refine T_if_lt (tgt := 49) hx hb dX9_put_4 (by decide) (by decide) ?_
  exact retV hx hb hr hlocks hS (by decide) (by decide) dX9_put_49 (fun t ht => ⟨f_397, by rw [ht]; exact hP, hD⟩)
set_option maxHeartbeats 4000000 in
set_option maxRecDepth 100000 in
theorem m12_X9_put (l : Launch) (D : va_G) (c : Nat → ClassId) (h0 h1 : Nat) (sz : Nat) (v0 : Int32) (f0 : Nat → Int32) : Met l yX9_put (Cond.code yX9_put cX9_put 3 none :: TB) ({ frames := 0, cells := 0, slots := 0, locals := 0 } : Room) (va_Pc [.ref h0, .int v0] (PW D c [(h0, .inr (8, [.ref h1, .int 8, .int 0, .int 0, .int 0, .int 0])), (h1, .inl (c 0, 400, .inl f0))] sz)) ((QV (fun A t => ∃ (f_422 : Nat → Int32), va_P D vwCl [(h0, .inr (8, [.ref h1, .int 12, .int 0, .int 0, .int 0, .int 0])), (h1, .inl (c 0, 400, .inl f_422))] t.heap ∧ va_D A [(h0, .inr (8, [.ref h1, .int 12, .int 0, .int 0, .int 0, .int 0])), (h1, .inl (c 0, 400, .inl f_422))])) (va_A [(h0, .inr (8, [.ref h1, .int 8, .int 0, .int 0, .int 0, .int 0])), (h1, .inl (c 0, 400, .inl f0))] sz)) 0 0 (va_A [(h0, .inr (8, [.ref h1, .int 8, .int 0, .int 0, .int 0, .int 0])), (h1, .inl (c 0, 400, .inl f0))] sz) := by
  refine start (by decide +kernel) (Nat.le_of_ble_eq_true rfl) ?_
  intro p e s m below meth cd A ls hx hb hr hml hts hown hlocks hin hA hS hK hP hD hN hl
  have hown : s.vm.findClass RX9 = some m.cls := hown
  have hl : lv_has ls 3 [(0, .ref h0), (1, .int v0)] := hl
  have hP : va_P D vwCl [(h0, .inr (8, [.ref h1, .int 8, .int 0, .int 0, .int 0, .int 0])), (h1, .inl (c 0, 400, .inl f0))] s.heap := hP
  refine lv_bipush (v := 24) hx hb dX9_put_0 (by decide) ?_
  refine lv_istore_n (lv' := [(2, .int 24), (0, .ref h0), (1, .int v0)]) hx hb dX9_put_2 rfl hl (by decide) rfl (fun ls hl => ?_)
  refine lv_iload_n hx hb dX9_put_3 rfl (lv_at hl 0 rfl) ?_
  refine F_if_lt hx hb 49 dX9_put_4 (by decide) (by decide) ?_
  refine lv_aload_n hx hb dX9_put_7 rfl (lv_at hl 1 rfl) ?_
  refine va_get (D := D) (ci := 8) (v := .int 8) (C := RX9) (T := TX9) (N := 6) hx hb hts i_X9 hown hK hP 0 rfl rfl 1 (by decide) (hts _ kw_149) (fun _ h9 => h9) rfl dX9_put_8 ?_
  refine lv_sipush (v := 400) hx hb dX9_put_11 (by decide) ?_
  refine F_icmp_ge hx hb 49 dX9_put_14 (by decide) (by decide) ?_
  refine lv_aload_n hx hb dX9_put_17 rfl (lv_at hl 1 rfl) ?_
  refine va_get (D := D) (ci := 8) (v := .ref h1) (C := RX9) (T := TX9) (N := 6) hx hb hts i_X9 hown hK hP 0 rfl rfl 0 (by decide) (hts _ kw_147) (fun _ h9 => h9) rfl dX9_put_18 ?_
  refine lv_aload_n hx hb dX9_put_21 rfl (lv_at hl 1 rfl) ?_
  refine va_get (D := D) (ci := 8) (v := .int 8) (C := RX9) (T := TX9) (N := 6) hx hb hts i_X9 hown hK hP 0 rfl rfl 1 (by decide) (hts _ kw_149) (fun _ h9 => h9) rfl dX9_put_22 ?_
  refine lv_iload_n hx hb dX9_put_25 rfl (lv_at hl 2 rfl) ?_
  refine lv_iload_n hx hb dX9_put_26 rfl (lv_at hl 0 rfl) ?_
  refine lv_ishr hx hb dX9_put_27 ?_
  refine lv_topi (fun z_411 ez_411 => ?_)
  refine lv_sipush (v := 255) hx hb dX9_put_28 (by decide) ?_
  refine lv_iand hx hb dX9_put_31 ?_
  refine lv_topi (fun z_412 ez_412 => ?_)
  refine va_iast hx hb hK hP hD hS 1 0 rfl rfl (vpi (by decide)) dX9_put_32 (fun H locs hP hD hS => ?_)
  obtain ⟨f_413, hP, hD⟩ : ∃ f_413 : Nat → Int32, va_P D vwCl [(h0, .inr (8, [.ref h1, .int 8, .int 0, .int 0, .int 0, .int 0])), (h1, .inl (c 0, 400, .inl f_413))] H ∧ va_D A [(h0, .inr (8, [.ref h1, .int 8, .int 0, .int 0, .int 0, .int 0])), (h1, .inl (c 0, 400, .inl f_413))] := ⟨upd f0 (Int32.toNatClampNeg 8) z_412, hP, hD⟩
  refine lv_aload_n hx hb dX9_put_33 rfl (lv_at hl 1 rfl) ?_
  refine lv_dup hx hb dX9_put_34 rfl ?_
  refine va_get (D := D) (ci := 8) (v := .int 8) (C := RX9) (T := TX9) (N := 6) hx hb hts i_X9 hown hK hP 0 rfl rfl 1 (by decide) (hts _ kw_149) (fun _ h9 => h9) rfl dX9_put_35 ?_
  refine lv_iconst (v := 1) hx hb dX9_put_38 (by decide) ?_
  refine lv_iadd hx hb dX9_put_39 ?_
  refine tpi 9 (by decide) ?_
  refine va_put (D := D) (ci := 8) (v := .int 9) (ty := .int) (C := RX9) (T := TX9) (N := 6) hx hb hts i_X9 tyX9 tyX9_ok nmX9 hown hK hP hD hS 0 rfl rfl 1 (by decide) (hts _ kw_149) (fun _ h9 => h9) rfl (tyX9_ok 1 (by decide)) rfl rfl (Nat.le_of_ble_eq_true rfl) dX9_put_40 (fun H locs hP hD hS => ?_)
  have hP : va_P D vwCl [(h0, .inr (8, [.ref h1, .int 9, .int 0, .int 0, .int 0, .int 0])), (h1, .inl (c 0, 400, .inl f_413))] H := hP
  have hD : va_D A [(h0, .inr (8, [.ref h1, .int 9, .int 0, .int 0, .int 0, .int 0])), (h1, .inl (c 0, 400, .inl f_413))] := hD
  refine lv_iinc (v := 16) (lv' := [(2, .int 16), (0, .ref h0), (1, .int v0)]) hx hb dX9_put_43 hl (k := 0) rfl (by decide) (by decide) rfl (fun ls hl => ?_)
  refine lv_goto (tgt := 3) hx hb dX9_put_46 (by decide) ?_
  refine lv_iload_n hx hb dX9_put_3 rfl (lv_at hl 0 rfl) ?_
  refine F_if_lt hx hb 49 dX9_put_4 (by decide) (by decide) ?_
  refine lv_aload_n hx hb dX9_put_7 rfl (lv_at hl 1 rfl) ?_
  refine va_get (D := D) (ci := 8) (v := .int 9) (C := RX9) (T := TX9) (N := 6) hx hb hts i_X9 hown hK hP 0 rfl rfl 1 (by decide) (hts _ kw_149) (fun _ h9 => h9) rfl dX9_put_8 ?_
  refine lv_sipush (v := 400) hx hb dX9_put_11 (by decide) ?_
  refine F_icmp_ge hx hb 49 dX9_put_14 (by decide) (by decide) ?_
  refine lv_aload_n hx hb dX9_put_17 rfl (lv_at hl 1 rfl) ?_
  refine va_get (D := D) (ci := 8) (v := .ref h1) (C := RX9) (T := TX9) (N := 6) hx hb hts i_X9 hown hK hP 0 rfl rfl 0 (by decide) (hts _ kw_147) (fun _ h9 => h9) rfl dX9_put_18 ?_
  refine lv_aload_n hx hb dX9_put_21 rfl (lv_at hl 1 rfl) ?_
  refine va_get (D := D) (ci := 8) (v := .int 9) (C := RX9) (T := TX9) (N := 6) hx hb hts i_X9 hown hK hP 0 rfl rfl 1 (by decide) (hts _ kw_149) (fun _ h9 => h9) rfl dX9_put_22 ?_
  refine lv_iload_n hx hb dX9_put_25 rfl (lv_at hl 2 rfl) ?_
  refine lv_iload_n hx hb dX9_put_26 rfl (lv_at hl 0 rfl) ?_
  refine lv_ishr hx hb dX9_put_27 ?_
  refine lv_topi (fun z_414 ez_414 => ?_)
  refine lv_sipush (v := 255) hx hb dX9_put_28 (by decide) ?_
  refine lv_iand hx hb dX9_put_31 ?_
  refine lv_topi (fun z_415 ez_415 => ?_)
  refine va_iast hx hb hK hP hD hS 1 0 rfl rfl (vpi (by decide)) dX9_put_32 (fun H locs hP hD hS => ?_)
  obtain ⟨f_416, hP, hD⟩ : ∃ f_416 : Nat → Int32, va_P D vwCl [(h0, .inr (8, [.ref h1, .int 9, .int 0, .int 0, .int 0, .int 0])), (h1, .inl (c 0, 400, .inl f_416))] H ∧ va_D A [(h0, .inr (8, [.ref h1, .int 9, .int 0, .int 0, .int 0, .int 0])), (h1, .inl (c 0, 400, .inl f_416))] := ⟨upd f_413 (Int32.toNatClampNeg 9) z_415, hP, hD⟩
  refine lv_aload_n hx hb dX9_put_33 rfl (lv_at hl 1 rfl) ?_
  refine lv_dup hx hb dX9_put_34 rfl ?_
  refine va_get (D := D) (ci := 8) (v := .int 9) (C := RX9) (T := TX9) (N := 6) hx hb hts i_X9 hown hK hP 0 rfl rfl 1 (by decide) (hts _ kw_149) (fun _ h9 => h9) rfl dX9_put_35 ?_
  refine lv_iconst (v := 1) hx hb dX9_put_38 (by decide) ?_
  refine lv_iadd hx hb dX9_put_39 ?_
  refine tpi 10 (by decide) ?_
  refine va_put (D := D) (ci := 8) (v := .int 10) (ty := .int) (C := RX9) (T := TX9) (N := 6) hx hb hts i_X9 tyX9 tyX9_ok nmX9 hown hK hP hD hS 0 rfl rfl 1 (by decide) (hts _ kw_149) (fun _ h9 => h9) rfl (tyX9_ok 1 (by decide)) rfl rfl (Nat.le_of_ble_eq_true rfl) dX9_put_40 (fun H locs hP hD hS => ?_)
  have hP : va_P D vwCl [(h0, .inr (8, [.ref h1, .int 10, .int 0, .int 0, .int 0, .int 0])), (h1, .inl (c 0, 400, .inl f_416))] H := hP
  have hD : va_D A [(h0, .inr (8, [.ref h1, .int 10, .int 0, .int 0, .int 0, .int 0])), (h1, .inl (c 0, 400, .inl f_416))] := hD
  refine lv_iinc (v := 8) (lv' := [(2, .int 8), (0, .ref h0), (1, .int v0)]) hx hb dX9_put_43 hl (k := 0) rfl (by decide) (by decide) rfl (fun ls hl => ?_)
  refine lv_goto (tgt := 3) hx hb dX9_put_46 (by decide) ?_
  refine lv_iload_n hx hb dX9_put_3 rfl (lv_at hl 0 rfl) ?_
  refine F_if_lt hx hb 49 dX9_put_4 (by decide) (by decide) ?_
  refine lv_aload_n hx hb dX9_put_7 rfl (lv_at hl 1 rfl) ?_
  refine va_get (D := D) (ci := 8) (v := .int 10) (C := RX9) (T := TX9) (N := 6) hx hb hts i_X9 hown hK hP 0 rfl rfl 1 (by decide) (hts _ kw_149) (fun _ h9 => h9) rfl dX9_put_8 ?_
  refine lv_sipush (v := 400) hx hb dX9_put_11 (by decide) ?_
  refine F_icmp_ge hx hb 49 dX9_put_14 (by decide) (by decide) ?_
  refine lv_aload_n hx hb dX9_put_17 rfl (lv_at hl 1 rfl) ?_
  refine va_get (D := D) (ci := 8) (v := .ref h1) (C := RX9) (T := TX9) (N := 6) hx hb hts i_X9 hown hK hP 0 rfl rfl 0 (by decide) (hts _ kw_147) (fun _ h9 => h9) rfl dX9_put_18 ?_
  refine lv_aload_n hx hb dX9_put_21 rfl (lv_at hl 1 rfl) ?_
  refine va_get (D := D) (ci := 8) (v := .int 10) (C := RX9) (T := TX9) (N := 6) hx hb hts i_X9 hown hK hP 0 rfl rfl 1 (by decide) (hts _ kw_149) (fun _ h9 => h9) rfl dX9_put_22 ?_
  refine lv_iload_n hx hb dX9_put_25 rfl (lv_at hl 2 rfl) ?_
  refine lv_iload_n hx hb dX9_put_26 rfl (lv_at hl 0 rfl) ?_
  refine lv_ishr hx hb dX9_put_27 ?_
  refine lv_topi (fun z_417 ez_417 => ?_)
  refine lv_sipush (v := 255) hx hb dX9_put_28 (by decide) ?_
  refine lv_iand hx hb dX9_put_31 ?_
  refine lv_topi (fun z_418 ez_418 => ?_)
  refine va_iast hx hb hK hP hD hS 1 0 rfl rfl (vpi (by decide)) dX9_put_32 (fun H locs hP hD hS => ?_)
  obtain ⟨f_419, hP, hD⟩ : ∃ f_419 : Nat → Int32, va_P D vwCl [(h0, .inr (8, [.ref h1, .int 10, .int 0, .int 0, .int 0, .int 0])), (h1, .inl (c 0, 400, .inl f_419))] H ∧ va_D A [(h0, .inr (8, [.ref h1, .int 10, .int 0, .int 0, .int 0, .int 0])), (h1, .inl (c 0, 400, .inl f_419))] := ⟨upd f_416 (Int32.toNatClampNeg 10) z_418, hP, hD⟩
  refine lv_aload_n hx hb dX9_put_33 rfl (lv_at hl 1 rfl) ?_
  refine lv_dup hx hb dX9_put_34 rfl ?_
  refine va_get (D := D) (ci := 8) (v := .int 10) (C := RX9) (T := TX9) (N := 6) hx hb hts i_X9 hown hK hP 0 rfl rfl 1 (by decide) (hts _ kw_149) (fun _ h9 => h9) rfl dX9_put_35 ?_
  refine lv_iconst (v := 1) hx hb dX9_put_38 (by decide) ?_
  refine lv_iadd hx hb dX9_put_39 ?_
  refine tpi 11 (by decide) ?_
  refine va_put (D := D) (ci := 8) (v := .int 11) (ty := .int) (C := RX9) (T := TX9) (N := 6) hx hb hts i_X9 tyX9 tyX9_ok nmX9 hown hK hP hD hS 0 rfl rfl 1 (by decide) (hts _ kw_149) (fun _ h9 => h9) rfl (tyX9_ok 1 (by decide)) rfl rfl (Nat.le_of_ble_eq_true rfl) dX9_put_40 (fun H locs hP hD hS => ?_)
  have hP : va_P D vwCl [(h0, .inr (8, [.ref h1, .int 11, .int 0, .int 0, .int 0, .int 0])), (h1, .inl (c 0, 400, .inl f_419))] H := hP
  have hD : va_D A [(h0, .inr (8, [.ref h1, .int 11, .int 0, .int 0, .int 0, .int 0])), (h1, .inl (c 0, 400, .inl f_419))] := hD
  refine lv_iinc (v := 0) (lv' := [(2, .int 0), (0, .ref h0), (1, .int v0)]) hx hb dX9_put_43 hl (k := 0) rfl (by decide) (by decide) rfl (fun ls hl => ?_)
  refine lv_goto (tgt := 3) hx hb dX9_put_46 (by decide) ?_
  refine lv_iload_n hx hb dX9_put_3 rfl (lv_at hl 0 rfl) ?_
  refine F_if_lt hx hb 49 dX9_put_4 (by decide) (by decide) ?_
  refine lv_aload_n hx hb dX9_put_7 rfl (lv_at hl 1 rfl) ?_
  refine va_get (D := D) (ci := 8) (v := .int 11) (C := RX9) (T := TX9) (N := 6) hx hb hts i_X9 hown hK hP 0 rfl rfl 1 (by decide) (hts _ kw_149) (fun _ h9 => h9) rfl dX9_put_8 ?_
  refine lv_sipush (v := 400) hx hb dX9_put_11 (by decide) ?_
  refine F_icmp_ge hx hb 49 dX9_put_14 (by decide) (by decide) ?_
  refine lv_aload_n hx hb dX9_put_17 rfl (lv_at hl 1 rfl) ?_
  refine va_get (D := D) (ci := 8) (v := .ref h1) (C := RX9) (T := TX9) (N := 6) hx hb hts i_X9 hown hK hP 0 rfl rfl 0 (by decide) (hts _ kw_147) (fun _ h9 => h9) rfl dX9_put_18 ?_
  refine lv_aload_n hx hb dX9_put_21 rfl (lv_at hl 1 rfl) ?_
  refine va_get (D := D) (ci := 8) (v := .int 11) (C := RX9) (T := TX9) (N := 6) hx hb hts i_X9 hown hK hP 0 rfl rfl 1 (by decide) (hts _ kw_149) (fun _ h9 => h9) rfl dX9_put_22 ?_
  refine lv_iload_n hx hb dX9_put_25 rfl (lv_at hl 2 rfl) ?_
  refine lv_iload_n hx hb dX9_put_26 rfl (lv_at hl 0 rfl) ?_
  refine lv_ishr hx hb dX9_put_27 ?_
  refine lv_topi (fun z_420 ez_420 => ?_)
  refine lv_sipush (v := 255) hx hb dX9_put_28 (by decide) ?_
  refine lv_iand hx hb dX9_put_31 ?_
  refine lv_topi (fun z_421 ez_421 => ?_)
  refine va_iast hx hb hK hP hD hS 1 0 rfl rfl (vpi (by decide)) dX9_put_32 (fun H locs hP hD hS => ?_)
  obtain ⟨f_422, hP, hD⟩ : ∃ f_422 : Nat → Int32, va_P D vwCl [(h0, .inr (8, [.ref h1, .int 11, .int 0, .int 0, .int 0, .int 0])), (h1, .inl (c 0, 400, .inl f_422))] H ∧ va_D A [(h0, .inr (8, [.ref h1, .int 11, .int 0, .int 0, .int 0, .int 0])), (h1, .inl (c 0, 400, .inl f_422))] := ⟨upd f_419 (Int32.toNatClampNeg 11) z_421, hP, hD⟩
  refine lv_aload_n hx hb dX9_put_33 rfl (lv_at hl 1 rfl) ?_
  refine lv_dup hx hb dX9_put_34 rfl ?_
  refine va_get (D := D) (ci := 8) (v := .int 11) (C := RX9) (T := TX9) (N := 6) hx hb hts i_X9 hown hK hP 0 rfl rfl 1 (by decide) (hts _ kw_149) (fun _ h9 => h9) rfl dX9_put_35 ?_
  refine lv_iconst (v := 1) hx hb dX9_put_38 (by decide) ?_
  refine lv_iadd hx hb dX9_put_39 ?_
  refine tpi 12 (by decide) ?_
  refine va_put (D := D) (ci := 8) (v := .int 12) (ty := .int) (C := RX9) (T := TX9) (N := 6) hx hb hts i_X9 tyX9 tyX9_ok nmX9 hown hK hP hD hS 0 rfl rfl 1 (by decide) (hts _ kw_149) (fun _ h9 => h9) rfl (tyX9_ok 1 (by decide)) rfl rfl (Nat.le_of_ble_eq_true rfl) dX9_put_40 (fun H locs hP hD hS => ?_)
  have hP : va_P D vwCl [(h0, .inr (8, [.ref h1, .int 12, .int 0, .int 0, .int 0, .int 0])), (h1, .inl (c 0, 400, .inl f_422))] H := hP
  have hD : va_D A [(h0, .inr (8, [.ref h1, .int 12, .int 0, .int 0, .int 0, .int 0])), (h1, .inl (c 0, 400, .inl f_422))] := hD
  refine lv_iinc (v := (-8)) (lv' := [(2, .int (-8)), (0, .ref h0), (1, .int v0)]) hx hb dX9_put_43 hl (k := 0) rfl (by decide) (by decide) rfl (fun ls hl => ?_)
  refine lv_goto (tgt := 3) hx hb dX9_put_46 (by decide) ?_
  refine lv_iload_n hx hb dX9_put_3 rfl (lv_at hl 0 rfl) ?_
  refine T_if_lt (tgt := 49) hx hb dX9_put_4 (by decide) (by decide) ?_
  exact retV hx hb hr hlocks hS (by decide) (by decide) dX9_put_49 (fun t ht => ⟨f_422, by rw [ht]; exact hP, hD⟩)
set_option maxHeartbeats 4000000 in
set_option maxRecDepth 100000 in
theorem m13_X9_put (l : Launch) (D : va_G) (c : Nat → ClassId) (h0 h1 : Nat) (sz : Nat) (v0 : Int32) (f0 : Nat → Int32) : Met l yX9_put (Cond.code yX9_put cX9_put 3 none :: TB) ({ frames := 0, cells := 0, slots := 0, locals := 0 } : Room) (va_Pc [.ref h0, .int v0] (PW D c [(h0, .inr (8, [.ref h1, .int 12, .int 0, .int 0, .int 0, .int 0])), (h1, .inl (c 0, 400, .inl f0))] sz)) ((QV (fun A t => ∃ (f_447 : Nat → Int32), va_P D vwCl [(h0, .inr (8, [.ref h1, .int 16, .int 0, .int 0, .int 0, .int 0])), (h1, .inl (c 0, 400, .inl f_447))] t.heap ∧ va_D A [(h0, .inr (8, [.ref h1, .int 16, .int 0, .int 0, .int 0, .int 0])), (h1, .inl (c 0, 400, .inl f_447))])) (va_A [(h0, .inr (8, [.ref h1, .int 12, .int 0, .int 0, .int 0, .int 0])), (h1, .inl (c 0, 400, .inl f0))] sz)) 0 0 (va_A [(h0, .inr (8, [.ref h1, .int 12, .int 0, .int 0, .int 0, .int 0])), (h1, .inl (c 0, 400, .inl f0))] sz) := by
  refine start (by decide +kernel) (Nat.le_of_ble_eq_true rfl) ?_
  intro p e s m below meth cd A ls hx hb hr hml hts hown hlocks hin hA hS hK hP hD hN hl
  have hown : s.vm.findClass RX9 = some m.cls := hown
  have hl : lv_has ls 3 [(0, .ref h0), (1, .int v0)] := hl
  have hP : va_P D vwCl [(h0, .inr (8, [.ref h1, .int 12, .int 0, .int 0, .int 0, .int 0])), (h1, .inl (c 0, 400, .inl f0))] s.heap := hP
  refine lv_bipush (v := 24) hx hb dX9_put_0 (by decide) ?_
  refine lv_istore_n (lv' := [(2, .int 24), (0, .ref h0), (1, .int v0)]) hx hb dX9_put_2 rfl hl (by decide) rfl (fun ls hl => ?_)
  refine lv_iload_n hx hb dX9_put_3 rfl (lv_at hl 0 rfl) ?_
  refine F_if_lt hx hb 49 dX9_put_4 (by decide) (by decide) ?_
  refine lv_aload_n hx hb dX9_put_7 rfl (lv_at hl 1 rfl) ?_
  refine va_get (D := D) (ci := 8) (v := .int 12) (C := RX9) (T := TX9) (N := 6) hx hb hts i_X9 hown hK hP 0 rfl rfl 1 (by decide) (hts _ kw_149) (fun _ h9 => h9) rfl dX9_put_8 ?_
  refine lv_sipush (v := 400) hx hb dX9_put_11 (by decide) ?_
  refine F_icmp_ge hx hb 49 dX9_put_14 (by decide) (by decide) ?_
  refine lv_aload_n hx hb dX9_put_17 rfl (lv_at hl 1 rfl) ?_
  refine va_get (D := D) (ci := 8) (v := .ref h1) (C := RX9) (T := TX9) (N := 6) hx hb hts i_X9 hown hK hP 0 rfl rfl 0 (by decide) (hts _ kw_147) (fun _ h9 => h9) rfl dX9_put_18 ?_
  refine lv_aload_n hx hb dX9_put_21 rfl (lv_at hl 1 rfl) ?_
  refine va_get (D := D) (ci := 8) (v := .int 12) (C := RX9) (T := TX9) (N := 6) hx hb hts i_X9 hown hK hP 0 rfl rfl 1 (by decide) (hts _ kw_149) (fun _ h9 => h9) rfl dX9_put_22 ?_
  refine lv_iload_n hx hb dX9_put_25 rfl (lv_at hl 2 rfl) ?_
  refine lv_iload_n hx hb dX9_put_26 rfl (lv_at hl 0 rfl) ?_
  refine lv_ishr hx hb dX9_put_27 ?_
  refine lv_topi (fun z_436 ez_436 => ?_)
  refine lv_sipush (v := 255) hx hb dX9_put_28 (by decide) ?_
  refine lv_iand hx hb dX9_put_31 ?_
  refine lv_topi (fun z_437 ez_437 => ?_)
  refine va_iast hx hb hK hP hD hS 1 0 rfl rfl (vpi (by decide)) dX9_put_32 (fun H locs hP hD hS => ?_)
  obtain ⟨f_438, hP, hD⟩ : ∃ f_438 : Nat → Int32, va_P D vwCl [(h0, .inr (8, [.ref h1, .int 12, .int 0, .int 0, .int 0, .int 0])), (h1, .inl (c 0, 400, .inl f_438))] H ∧ va_D A [(h0, .inr (8, [.ref h1, .int 12, .int 0, .int 0, .int 0, .int 0])), (h1, .inl (c 0, 400, .inl f_438))] := ⟨upd f0 (Int32.toNatClampNeg 12) z_437, hP, hD⟩
  refine lv_aload_n hx hb dX9_put_33 rfl (lv_at hl 1 rfl) ?_
  refine lv_dup hx hb dX9_put_34 rfl ?_
  refine va_get (D := D) (ci := 8) (v := .int 12) (C := RX9) (T := TX9) (N := 6) hx hb hts i_X9 hown hK hP 0 rfl rfl 1 (by decide) (hts _ kw_149) (fun _ h9 => h9) rfl dX9_put_35 ?_
  refine lv_iconst (v := 1) hx hb dX9_put_38 (by decide) ?_
  refine lv_iadd hx hb dX9_put_39 ?_
  refine tpi 13 (by decide) ?_
  refine va_put (D := D) (ci := 8) (v := .int 13) (ty := .int) (C := RX9) (T := TX9) (N := 6) hx hb hts i_X9 tyX9 tyX9_ok nmX9 hown hK hP hD hS 0 rfl rfl 1 (by decide) (hts _ kw_149) (fun _ h9 => h9) rfl (tyX9_ok 1 (by decide)) rfl rfl (Nat.le_of_ble_eq_true rfl) dX9_put_40 (fun H locs hP hD hS => ?_)
  have hP : va_P D vwCl [(h0, .inr (8, [.ref h1, .int 13, .int 0, .int 0, .int 0, .int 0])), (h1, .inl (c 0, 400, .inl f_438))] H := hP
  have hD : va_D A [(h0, .inr (8, [.ref h1, .int 13, .int 0, .int 0, .int 0, .int 0])), (h1, .inl (c 0, 400, .inl f_438))] := hD
  refine lv_iinc (v := 16) (lv' := [(2, .int 16), (0, .ref h0), (1, .int v0)]) hx hb dX9_put_43 hl (k := 0) rfl (by decide) (by decide) rfl (fun ls hl => ?_)
  refine lv_goto (tgt := 3) hx hb dX9_put_46 (by decide) ?_
  refine lv_iload_n hx hb dX9_put_3 rfl (lv_at hl 0 rfl) ?_
  refine F_if_lt hx hb 49 dX9_put_4 (by decide) (by decide) ?_
  refine lv_aload_n hx hb dX9_put_7 rfl (lv_at hl 1 rfl) ?_
  refine va_get (D := D) (ci := 8) (v := .int 13) (C := RX9) (T := TX9) (N := 6) hx hb hts i_X9 hown hK hP 0 rfl rfl 1 (by decide) (hts _ kw_149) (fun _ h9 => h9) rfl dX9_put_8 ?_
  refine lv_sipush (v := 400) hx hb dX9_put_11 (by decide) ?_
  refine F_icmp_ge hx hb 49 dX9_put_14 (by decide) (by decide) ?_
  refine lv_aload_n hx hb dX9_put_17 rfl (lv_at hl 1 rfl) ?_
  refine va_get (D := D) (ci := 8) (v := .ref h1) (C := RX9) (T := TX9) (N := 6) hx hb hts i_X9 hown hK hP 0 rfl rfl 0 (by decide) (hts _ kw_147) (fun _ h9 => h9) rfl dX9_put_18 ?_
  refine lv_aload_n hx hb dX9_put_21 rfl (lv_at hl 1 rfl) ?_
  refine va_get (D := D) (ci := 8) (v := .int 13) (C := RX9) (T := TX9) (N := 6) hx hb hts i_X9 hown hK hP 0 rfl rfl 1 (by decide) (hts _ kw_149) (fun _ h9 => h9) rfl dX9_put_22 ?_
  refine lv_iload_n hx hb dX9_put_25 rfl (lv_at hl 2 rfl) ?_
  refine lv_iload_n hx hb dX9_put_26 rfl (lv_at hl 0 rfl) ?_
  refine lv_ishr hx hb dX9_put_27 ?_
  refine lv_topi (fun z_439 ez_439 => ?_)
  refine lv_sipush (v := 255) hx hb dX9_put_28 (by decide) ?_
  refine lv_iand hx hb dX9_put_31 ?_
  refine lv_topi (fun z_440 ez_440 => ?_)
  refine va_iast hx hb hK hP hD hS 1 0 rfl rfl (vpi (by decide)) dX9_put_32 (fun H locs hP hD hS => ?_)
  obtain ⟨f_441, hP, hD⟩ : ∃ f_441 : Nat → Int32, va_P D vwCl [(h0, .inr (8, [.ref h1, .int 13, .int 0, .int 0, .int 0, .int 0])), (h1, .inl (c 0, 400, .inl f_441))] H ∧ va_D A [(h0, .inr (8, [.ref h1, .int 13, .int 0, .int 0, .int 0, .int 0])), (h1, .inl (c 0, 400, .inl f_441))] := ⟨upd f_438 (Int32.toNatClampNeg 13) z_440, hP, hD⟩
  refine lv_aload_n hx hb dX9_put_33 rfl (lv_at hl 1 rfl) ?_
  refine lv_dup hx hb dX9_put_34 rfl ?_
  refine va_get (D := D) (ci := 8) (v := .int 13) (C := RX9) (T := TX9) (N := 6) hx hb hts i_X9 hown hK hP 0 rfl rfl 1 (by decide) (hts _ kw_149) (fun _ h9 => h9) rfl dX9_put_35 ?_
  refine lv_iconst (v := 1) hx hb dX9_put_38 (by decide) ?_
  refine lv_iadd hx hb dX9_put_39 ?_
  refine tpi 14 (by decide) ?_
  refine va_put (D := D) (ci := 8) (v := .int 14) (ty := .int) (C := RX9) (T := TX9) (N := 6) hx hb hts i_X9 tyX9 tyX9_ok nmX9 hown hK hP hD hS 0 rfl rfl 1 (by decide) (hts _ kw_149) (fun _ h9 => h9) rfl (tyX9_ok 1 (by decide)) rfl rfl (Nat.le_of_ble_eq_true rfl) dX9_put_40 (fun H locs hP hD hS => ?_)
  have hP : va_P D vwCl [(h0, .inr (8, [.ref h1, .int 14, .int 0, .int 0, .int 0, .int 0])), (h1, .inl (c 0, 400, .inl f_441))] H := hP
  have hD : va_D A [(h0, .inr (8, [.ref h1, .int 14, .int 0, .int 0, .int 0, .int 0])), (h1, .inl (c 0, 400, .inl f_441))] := hD
  refine lv_iinc (v := 8) (lv' := [(2, .int 8), (0, .ref h0), (1, .int v0)]) hx hb dX9_put_43 hl (k := 0) rfl (by decide) (by decide) rfl (fun ls hl => ?_)
  refine lv_goto (tgt := 3) hx hb dX9_put_46 (by decide) ?_
  refine lv_iload_n hx hb dX9_put_3 rfl (lv_at hl 0 rfl) ?_
  refine F_if_lt hx hb 49 dX9_put_4 (by decide) (by decide) ?_
  refine lv_aload_n hx hb dX9_put_7 rfl (lv_at hl 1 rfl) ?_
  refine va_get (D := D) (ci := 8) (v := .int 14) (C := RX9) (T := TX9) (N := 6) hx hb hts i_X9 hown hK hP 0 rfl rfl 1 (by decide) (hts _ kw_149) (fun _ h9 => h9) rfl dX9_put_8 ?_
  refine lv_sipush (v := 400) hx hb dX9_put_11 (by decide) ?_
  refine F_icmp_ge hx hb 49 dX9_put_14 (by decide) (by decide) ?_
  refine lv_aload_n hx hb dX9_put_17 rfl (lv_at hl 1 rfl) ?_
  refine va_get (D := D) (ci := 8) (v := .ref h1) (C := RX9) (T := TX9) (N := 6) hx hb hts i_X9 hown hK hP 0 rfl rfl 0 (by decide) (hts _ kw_147) (fun _ h9 => h9) rfl dX9_put_18 ?_
  refine lv_aload_n hx hb dX9_put_21 rfl (lv_at hl 1 rfl) ?_
  refine va_get (D := D) (ci := 8) (v := .int 14) (C := RX9) (T := TX9) (N := 6) hx hb hts i_X9 hown hK hP 0 rfl rfl 1 (by decide) (hts _ kw_149) (fun _ h9 => h9) rfl dX9_put_22 ?_
  refine lv_iload_n hx hb dX9_put_25 rfl (lv_at hl 2 rfl) ?_
  refine lv_iload_n hx hb dX9_put_26 rfl (lv_at hl 0 rfl) ?_
  refine lv_ishr hx hb dX9_put_27 ?_
  refine lv_topi (fun z_442 ez_442 => ?_)
  refine lv_sipush (v := 255) hx hb dX9_put_28 (by decide) ?_
  refine lv_iand hx hb dX9_put_31 ?_
  refine lv_topi (fun z_443 ez_443 => ?_)
  refine va_iast hx hb hK hP hD hS 1 0 rfl rfl (vpi (by decide)) dX9_put_32 (fun H locs hP hD hS => ?_)
  obtain ⟨f_444, hP, hD⟩ : ∃ f_444 : Nat → Int32, va_P D vwCl [(h0, .inr (8, [.ref h1, .int 14, .int 0, .int 0, .int 0, .int 0])), (h1, .inl (c 0, 400, .inl f_444))] H ∧ va_D A [(h0, .inr (8, [.ref h1, .int 14, .int 0, .int 0, .int 0, .int 0])), (h1, .inl (c 0, 400, .inl f_444))] := ⟨upd f_441 (Int32.toNatClampNeg 14) z_443, hP, hD⟩
  refine lv_aload_n hx hb dX9_put_33 rfl (lv_at hl 1 rfl) ?_
  refine lv_dup hx hb dX9_put_34 rfl ?_
  refine va_get (D := D) (ci := 8) (v := .int 14) (C := RX9) (T := TX9) (N := 6) hx hb hts i_X9 hown hK hP 0 rfl rfl 1 (by decide) (hts _ kw_149) (fun _ h9 => h9) rfl dX9_put_35 ?_
  refine lv_iconst (v := 1) hx hb dX9_put_38 (by decide) ?_
  refine lv_iadd hx hb dX9_put_39 ?_
  refine tpi 15 (by decide) ?_
  refine va_put (D := D) (ci := 8) (v := .int 15) (ty := .int) (C := RX9) (T := TX9) (N := 6) hx hb hts i_X9 tyX9 tyX9_ok nmX9 hown hK hP hD hS 0 rfl rfl 1 (by decide) (hts _ kw_149) (fun _ h9 => h9) rfl (tyX9_ok 1 (by decide)) rfl rfl (Nat.le_of_ble_eq_true rfl) dX9_put_40 (fun H locs hP hD hS => ?_)
  have hP : va_P D vwCl [(h0, .inr (8, [.ref h1, .int 15, .int 0, .int 0, .int 0, .int 0])), (h1, .inl (c 0, 400, .inl f_444))] H := hP
  have hD : va_D A [(h0, .inr (8, [.ref h1, .int 15, .int 0, .int 0, .int 0, .int 0])), (h1, .inl (c 0, 400, .inl f_444))] := hD
  refine lv_iinc (v := 0) (lv' := [(2, .int 0), (0, .ref h0), (1, .int v0)]) hx hb dX9_put_43 hl (k := 0) rfl (by decide) (by decide) rfl (fun ls hl => ?_)
  refine lv_goto (tgt := 3) hx hb dX9_put_46 (by decide) ?_
  refine lv_iload_n hx hb dX9_put_3 rfl (lv_at hl 0 rfl) ?_
  refine F_if_lt hx hb 49 dX9_put_4 (by decide) (by decide) ?_
  refine lv_aload_n hx hb dX9_put_7 rfl (lv_at hl 1 rfl) ?_
  refine va_get (D := D) (ci := 8) (v := .int 15) (C := RX9) (T := TX9) (N := 6) hx hb hts i_X9 hown hK hP 0 rfl rfl 1 (by decide) (hts _ kw_149) (fun _ h9 => h9) rfl dX9_put_8 ?_
  refine lv_sipush (v := 400) hx hb dX9_put_11 (by decide) ?_
  refine F_icmp_ge hx hb 49 dX9_put_14 (by decide) (by decide) ?_
  refine lv_aload_n hx hb dX9_put_17 rfl (lv_at hl 1 rfl) ?_
  refine va_get (D := D) (ci := 8) (v := .ref h1) (C := RX9) (T := TX9) (N := 6) hx hb hts i_X9 hown hK hP 0 rfl rfl 0 (by decide) (hts _ kw_147) (fun _ h9 => h9) rfl dX9_put_18 ?_
  refine lv_aload_n hx hb dX9_put_21 rfl (lv_at hl 1 rfl) ?_
  refine va_get (D := D) (ci := 8) (v := .int 15) (C := RX9) (T := TX9) (N := 6) hx hb hts i_X9 hown hK hP 0 rfl rfl 1 (by decide) (hts _ kw_149) (fun _ h9 => h9) rfl dX9_put_22 ?_
  refine lv_iload_n hx hb dX9_put_25 rfl (lv_at hl 2 rfl) ?_
  refine lv_iload_n hx hb dX9_put_26 rfl (lv_at hl 0 rfl) ?_
  refine lv_ishr hx hb dX9_put_27 ?_
  refine lv_topi (fun z_445 ez_445 => ?_)
  refine lv_sipush (v := 255) hx hb dX9_put_28 (by decide) ?_
  refine lv_iand hx hb dX9_put_31 ?_
  refine lv_topi (fun z_446 ez_446 => ?_)
  refine va_iast hx hb hK hP hD hS 1 0 rfl rfl (vpi (by decide)) dX9_put_32 (fun H locs hP hD hS => ?_)
  obtain ⟨f_447, hP, hD⟩ : ∃ f_447 : Nat → Int32, va_P D vwCl [(h0, .inr (8, [.ref h1, .int 15, .int 0, .int 0, .int 0, .int 0])), (h1, .inl (c 0, 400, .inl f_447))] H ∧ va_D A [(h0, .inr (8, [.ref h1, .int 15, .int 0, .int 0, .int 0, .int 0])), (h1, .inl (c 0, 400, .inl f_447))] := ⟨upd f_444 (Int32.toNatClampNeg 15) z_446, hP, hD⟩
  refine lv_aload_n hx hb dX9_put_33 rfl (lv_at hl 1 rfl) ?_
  refine lv_dup hx hb dX9_put_34 rfl ?_
  refine va_get (D := D) (ci := 8) (v := .int 15) (C := RX9) (T := TX9) (N := 6) hx hb hts i_X9 hown hK hP 0 rfl rfl 1 (by decide) (hts _ kw_149) (fun _ h9 => h9) rfl dX9_put_35 ?_
  refine lv_iconst (v := 1) hx hb dX9_put_38 (by decide) ?_
  refine lv_iadd hx hb dX9_put_39 ?_
  refine tpi 16 (by decide) ?_
  refine va_put (D := D) (ci := 8) (v := .int 16) (ty := .int) (C := RX9) (T := TX9) (N := 6) hx hb hts i_X9 tyX9 tyX9_ok nmX9 hown hK hP hD hS 0 rfl rfl 1 (by decide) (hts _ kw_149) (fun _ h9 => h9) rfl (tyX9_ok 1 (by decide)) rfl rfl (Nat.le_of_ble_eq_true rfl) dX9_put_40 (fun H locs hP hD hS => ?_)
  have hP : va_P D vwCl [(h0, .inr (8, [.ref h1, .int 16, .int 0, .int 0, .int 0, .int 0])), (h1, .inl (c 0, 400, .inl f_447))] H := hP
  have hD : va_D A [(h0, .inr (8, [.ref h1, .int 16, .int 0, .int 0, .int 0, .int 0])), (h1, .inl (c 0, 400, .inl f_447))] := hD
  refine lv_iinc (v := (-8)) (lv' := [(2, .int (-8)), (0, .ref h0), (1, .int v0)]) hx hb dX9_put_43 hl (k := 0) rfl (by decide) (by decide) rfl (fun ls hl => ?_)
  refine lv_goto (tgt := 3) hx hb dX9_put_46 (by decide) ?_
  refine lv_iload_n hx hb dX9_put_3 rfl (lv_at hl 0 rfl) ?_
  refine T_if_lt (tgt := 49) hx hb dX9_put_4 (by decide) (by decide) ?_
  exact retV hx hb hr hlocks hS (by decide) (by decide) dX9_put_49 (fun t ht => ⟨f_447, by rw [ht]; exact hP, hD⟩)
set_option maxHeartbeats 4000000 in
set_option maxRecDepth 100000 in
theorem m14_X9_put (l : Launch) (D : va_G) (c : Nat → ClassId) (h0 h1 : Nat) (sz : Nat) (v0 : Int32) (f0 : Nat → Int32) : Met l yX9_put (Cond.code yX9_put cX9_put 3 none :: TB) ({ frames := 0, cells := 0, slots := 0, locals := 0 } : Room) (va_Pc [.ref h0, .int v0] (PW D c [(h0, .inr (8, [.ref h1, .int 16, .int 0, .int 0, .int 0, .int 0])), (h1, .inl (c 0, 400, .inl f0))] sz)) ((QV (fun A t => ∃ (f_472 : Nat → Int32), va_P D vwCl [(h0, .inr (8, [.ref h1, .int 20, .int 0, .int 0, .int 0, .int 0])), (h1, .inl (c 0, 400, .inl f_472))] t.heap ∧ va_D A [(h0, .inr (8, [.ref h1, .int 20, .int 0, .int 0, .int 0, .int 0])), (h1, .inl (c 0, 400, .inl f_472))])) (va_A [(h0, .inr (8, [.ref h1, .int 16, .int 0, .int 0, .int 0, .int 0])), (h1, .inl (c 0, 400, .inl f0))] sz)) 0 0 (va_A [(h0, .inr (8, [.ref h1, .int 16, .int 0, .int 0, .int 0, .int 0])), (h1, .inl (c 0, 400, .inl f0))] sz) := by
  refine start (by decide +kernel) (Nat.le_of_ble_eq_true rfl) ?_
  intro p e s m below meth cd A ls hx hb hr hml hts hown hlocks hin hA hS hK hP hD hN hl
  have hown : s.vm.findClass RX9 = some m.cls := hown
  have hl : lv_has ls 3 [(0, .ref h0), (1, .int v0)] := hl
  have hP : va_P D vwCl [(h0, .inr (8, [.ref h1, .int 16, .int 0, .int 0, .int 0, .int 0])), (h1, .inl (c 0, 400, .inl f0))] s.heap := hP
  refine lv_bipush (v := 24) hx hb dX9_put_0 (by decide) ?_
  refine lv_istore_n (lv' := [(2, .int 24), (0, .ref h0), (1, .int v0)]) hx hb dX9_put_2 rfl hl (by decide) rfl (fun ls hl => ?_)
  refine lv_iload_n hx hb dX9_put_3 rfl (lv_at hl 0 rfl) ?_
  refine F_if_lt hx hb 49 dX9_put_4 (by decide) (by decide) ?_
  refine lv_aload_n hx hb dX9_put_7 rfl (lv_at hl 1 rfl) ?_
  refine va_get (D := D) (ci := 8) (v := .int 16) (C := RX9) (T := TX9) (N := 6) hx hb hts i_X9 hown hK hP 0 rfl rfl 1 (by decide) (hts _ kw_149) (fun _ h9 => h9) rfl dX9_put_8 ?_
  refine lv_sipush (v := 400) hx hb dX9_put_11 (by decide) ?_
  refine F_icmp_ge hx hb 49 dX9_put_14 (by decide) (by decide) ?_
  refine lv_aload_n hx hb dX9_put_17 rfl (lv_at hl 1 rfl) ?_
  refine va_get (D := D) (ci := 8) (v := .ref h1) (C := RX9) (T := TX9) (N := 6) hx hb hts i_X9 hown hK hP 0 rfl rfl 0 (by decide) (hts _ kw_147) (fun _ h9 => h9) rfl dX9_put_18 ?_
  refine lv_aload_n hx hb dX9_put_21 rfl (lv_at hl 1 rfl) ?_
  refine va_get (D := D) (ci := 8) (v := .int 16) (C := RX9) (T := TX9) (N := 6) hx hb hts i_X9 hown hK hP 0 rfl rfl 1 (by decide) (hts _ kw_149) (fun _ h9 => h9) rfl dX9_put_22 ?_
  refine lv_iload_n hx hb dX9_put_25 rfl (lv_at hl 2 rfl) ?_
  refine lv_iload_n hx hb dX9_put_26 rfl (lv_at hl 0 rfl) ?_
  refine lv_ishr hx hb dX9_put_27 ?_
  refine lv_topi (fun z_461 ez_461 => ?_)
  refine lv_sipush (v := 255) hx hb dX9_put_28 (by decide) ?_
  refine lv_iand hx hb dX9_put_31 ?_
  refine lv_topi (fun z_462 ez_462 => ?_)
  refine va_iast hx hb hK hP hD hS 1 0 rfl rfl (vpi (by decide)) dX9_put_32 (fun H locs hP hD hS => ?_)
  obtain ⟨f_463, hP, hD⟩ : ∃ f_463 : Nat → Int32, va_P D vwCl [(h0, .inr (8, [.ref h1, .int 16, .int 0, .int 0, .int 0, .int 0])), (h1, .inl (c 0, 400, .inl f_463))] H ∧ va_D A [(h0, .inr (8, [.ref h1, .int 16, .int 0, .int 0, .int 0, .int 0])), (h1, .inl (c 0, 400, .inl f_463))] := ⟨upd f0 (Int32.toNatClampNeg 16) z_462, hP, hD⟩
  refine lv_aload_n hx hb dX9_put_33 rfl (lv_at hl 1 rfl) ?_
  refine lv_dup hx hb dX9_put_34 rfl ?_
  refine va_get (D := D) (ci := 8) (v := .int 16) (C := RX9) (T := TX9) (N := 6) hx hb hts i_X9 hown hK hP 0 rfl rfl 1 (by decide) (hts _ kw_149) (fun _ h9 => h9) rfl dX9_put_35 ?_
  refine lv_iconst (v := 1) hx hb dX9_put_38 (by decide) ?_
  refine lv_iadd hx hb dX9_put_39 ?_
  refine tpi 17 (by decide) ?_
  refine va_put (D := D) (ci := 8) (v := .int 17) (ty := .int) (C := RX9) (T := TX9) (N := 6) hx hb hts i_X9 tyX9 tyX9_ok nmX9 hown hK hP hD hS 0 rfl rfl 1 (by decide) (hts _ kw_149) (fun _ h9 => h9) rfl (tyX9_ok 1 (by decide)) rfl rfl (Nat.le_of_ble_eq_true rfl) dX9_put_40 (fun H locs hP hD hS => ?_)
  have hP : va_P D vwCl [(h0, .inr (8, [.ref h1, .int 17, .int 0, .int 0, .int 0, .int 0])), (h1, .inl (c 0, 400, .inl f_463))] H := hP
  have hD : va_D A [(h0, .inr (8, [.ref h1, .int 17, .int 0, .int 0, .int 0, .int 0])), (h1, .inl (c 0, 400, .inl f_463))] := hD
  refine lv_iinc (v := 16) (lv' := [(2, .int 16), (0, .ref h0), (1, .int v0)]) hx hb dX9_put_43 hl (k := 0) rfl (by decide) (by decide) rfl (fun ls hl => ?_)
  refine lv_goto (tgt := 3) hx hb dX9_put_46 (by decide) ?_
  refine lv_iload_n hx hb dX9_put_3 rfl (lv_at hl 0 rfl) ?_
  refine F_if_lt hx hb 49 dX9_put_4 (by decide) (by decide) ?_
  refine lv_aload_n hx hb dX9_put_7 rfl (lv_at hl 1 rfl) ?_
  refine va_get (D := D) (ci := 8) (v := .int 17) (C := RX9) (T := TX9) (N := 6) hx hb hts i_X9 hown hK hP 0 rfl rfl 1 (by decide) (hts _ kw_149) (fun _ h9 => h9) rfl dX9_put_8 ?_
  refine lv_sipush (v := 400) hx hb dX9_put_11 (by decide) ?_
  refine F_icmp_ge hx hb 49 dX9_put_14 (by decide) (by decide) ?_
  refine lv_aload_n hx hb dX9_put_17 rfl (lv_at hl 1 rfl) ?_
  refine va_get (D := D) (ci := 8) (v := .ref h1) (C := RX9) (T := TX9) (N := 6) hx hb hts i_X9 hown hK hP 0 rfl rfl 0 (by decide) (hts _ kw_147) (fun _ h9 => h9) rfl dX9_put_18 ?_
  refine lv_aload_n hx hb dX9_put_21 rfl (lv_at hl 1 rfl) ?_
  refine va_get (D := D) (ci := 8) (v := .int 17) (C := RX9) (T := TX9) (N := 6) hx hb hts i_X9 hown hK hP 0 rfl rfl 1 (by decide) (hts _ kw_149) (fun _ h9 => h9) rfl dX9_put_22 ?_
  refine lv_iload_n hx hb dX9_put_25 rfl (lv_at hl 2 rfl) ?_
  refine lv_iload_n hx hb dX9_put_26 rfl (lv_at hl 0 rfl) ?_
  refine lv_ishr hx hb dX9_put_27 ?_
  refine lv_topi (fun z_464 ez_464 => ?_)
  refine lv_sipush (v := 255) hx hb dX9_put_28 (by decide) ?_
  refine lv_iand hx hb dX9_put_31 ?_
  refine lv_topi (fun z_465 ez_465 => ?_)
  refine va_iast hx hb hK hP hD hS 1 0 rfl rfl (vpi (by decide)) dX9_put_32 (fun H locs hP hD hS => ?_)
  obtain ⟨f_466, hP, hD⟩ : ∃ f_466 : Nat → Int32, va_P D vwCl [(h0, .inr (8, [.ref h1, .int 17, .int 0, .int 0, .int 0, .int 0])), (h1, .inl (c 0, 400, .inl f_466))] H ∧ va_D A [(h0, .inr (8, [.ref h1, .int 17, .int 0, .int 0, .int 0, .int 0])), (h1, .inl (c 0, 400, .inl f_466))] := ⟨upd f_463 (Int32.toNatClampNeg 17) z_465, hP, hD⟩
  refine lv_aload_n hx hb dX9_put_33 rfl (lv_at hl 1 rfl) ?_
  refine lv_dup hx hb dX9_put_34 rfl ?_
  refine va_get (D := D) (ci := 8) (v := .int 17) (C := RX9) (T := TX9) (N := 6) hx hb hts i_X9 hown hK hP 0 rfl rfl 1 (by decide) (hts _ kw_149) (fun _ h9 => h9) rfl dX9_put_35 ?_
  refine lv_iconst (v := 1) hx hb dX9_put_38 (by decide) ?_
  refine lv_iadd hx hb dX9_put_39 ?_
  refine tpi 18 (by decide) ?_
  refine va_put (D := D) (ci := 8) (v := .int 18) (ty := .int) (C := RX9) (T := TX9) (N := 6) hx hb hts i_X9 tyX9 tyX9_ok nmX9 hown hK hP hD hS 0 rfl rfl 1 (by decide) (hts _ kw_149) (fun _ h9 => h9) rfl (tyX9_ok 1 (by decide)) rfl rfl (Nat.le_of_ble_eq_true rfl) dX9_put_40 (fun H locs hP hD hS => ?_)
  have hP : va_P D vwCl [(h0, .inr (8, [.ref h1, .int 18, .int 0, .int 0, .int 0, .int 0])), (h1, .inl (c 0, 400, .inl f_466))] H := hP
  have hD : va_D A [(h0, .inr (8, [.ref h1, .int 18, .int 0, .int 0, .int 0, .int 0])), (h1, .inl (c 0, 400, .inl f_466))] := hD
  refine lv_iinc (v := 8) (lv' := [(2, .int 8), (0, .ref h0), (1, .int v0)]) hx hb dX9_put_43 hl (k := 0) rfl (by decide) (by decide) rfl (fun ls hl => ?_)
  refine lv_goto (tgt := 3) hx hb dX9_put_46 (by decide) ?_
  refine lv_iload_n hx hb dX9_put_3 rfl (lv_at hl 0 rfl) ?_
  refine F_if_lt hx hb 49 dX9_put_4 (by decide) (by decide) ?_
  refine lv_aload_n hx hb dX9_put_7 rfl (lv_at hl 1 rfl) ?_
  refine va_get (D := D) (ci := 8) (v := .int 18) (C := RX9) (T := TX9) (N := 6) hx hb hts i_X9 hown hK hP 0 rfl rfl 1 (by decide) (hts _ kw_149) (fun _ h9 => h9) rfl dX9_put_8 ?_
  refine lv_sipush (v := 400) hx hb dX9_put_11 (by decide) ?_
  refine F_icmp_ge hx hb 49 dX9_put_14 (by decide) (by decide) ?_
  refine lv_aload_n hx hb dX9_put_17 rfl (lv_at hl 1 rfl) ?_
  refine va_get (D := D) (ci := 8) (v := .ref h1) (C := RX9) (T := TX9) (N := 6) hx hb hts i_X9 hown hK hP 0 rfl rfl 0 (by decide) (hts _ kw_147) (fun _ h9 => h9) rfl dX9_put_18 ?_
  refine lv_aload_n hx hb dX9_put_21 rfl (lv_at hl 1 rfl) ?_
  refine va_get (D := D) (ci := 8) (v := .int 18) (C := RX9) (T := TX9) (N := 6) hx hb hts i_X9 hown hK hP 0 rfl rfl 1 (by decide) (hts _ kw_149) (fun _ h9 => h9) rfl dX9_put_22 ?_
  refine lv_iload_n hx hb dX9_put_25 rfl (lv_at hl 2 rfl) ?_
  refine lv_iload_n hx hb dX9_put_26 rfl (lv_at hl 0 rfl) ?_
  refine lv_ishr hx hb dX9_put_27 ?_
  refine lv_topi (fun z_467 ez_467 => ?_)
  refine lv_sipush (v := 255) hx hb dX9_put_28 (by decide) ?_
  refine lv_iand hx hb dX9_put_31 ?_
  refine lv_topi (fun z_468 ez_468 => ?_)
  refine va_iast hx hb hK hP hD hS 1 0 rfl rfl (vpi (by decide)) dX9_put_32 (fun H locs hP hD hS => ?_)
  obtain ⟨f_469, hP, hD⟩ : ∃ f_469 : Nat → Int32, va_P D vwCl [(h0, .inr (8, [.ref h1, .int 18, .int 0, .int 0, .int 0, .int 0])), (h1, .inl (c 0, 400, .inl f_469))] H ∧ va_D A [(h0, .inr (8, [.ref h1, .int 18, .int 0, .int 0, .int 0, .int 0])), (h1, .inl (c 0, 400, .inl f_469))] := ⟨upd f_466 (Int32.toNatClampNeg 18) z_468, hP, hD⟩
  refine lv_aload_n hx hb dX9_put_33 rfl (lv_at hl 1 rfl) ?_
  refine lv_dup hx hb dX9_put_34 rfl ?_
  refine va_get (D := D) (ci := 8) (v := .int 18) (C := RX9) (T := TX9) (N := 6) hx hb hts i_X9 hown hK hP 0 rfl rfl 1 (by decide) (hts _ kw_149) (fun _ h9 => h9) rfl dX9_put_35 ?_
  refine lv_iconst (v := 1) hx hb dX9_put_38 (by decide) ?_
  refine lv_iadd hx hb dX9_put_39 ?_
  refine tpi 19 (by decide) ?_
  refine va_put (D := D) (ci := 8) (v := .int 19) (ty := .int) (C := RX9) (T := TX9) (N := 6) hx hb hts i_X9 tyX9 tyX9_ok nmX9 hown hK hP hD hS 0 rfl rfl 1 (by decide) (hts _ kw_149) (fun _ h9 => h9) rfl (tyX9_ok 1 (by decide)) rfl rfl (Nat.le_of_ble_eq_true rfl) dX9_put_40 (fun H locs hP hD hS => ?_)
  have hP : va_P D vwCl [(h0, .inr (8, [.ref h1, .int 19, .int 0, .int 0, .int 0, .int 0])), (h1, .inl (c 0, 400, .inl f_469))] H := hP
  have hD : va_D A [(h0, .inr (8, [.ref h1, .int 19, .int 0, .int 0, .int 0, .int 0])), (h1, .inl (c 0, 400, .inl f_469))] := hD
  refine lv_iinc (v := 0) (lv' := [(2, .int 0), (0, .ref h0), (1, .int v0)]) hx hb dX9_put_43 hl (k := 0) rfl (by decide) (by decide) rfl (fun ls hl => ?_)
  refine lv_goto (tgt := 3) hx hb dX9_put_46 (by decide) ?_
  refine lv_iload_n hx hb dX9_put_3 rfl (lv_at hl 0 rfl) ?_
  refine F_if_lt hx hb 49 dX9_put_4 (by decide) (by decide) ?_
  refine lv_aload_n hx hb dX9_put_7 rfl (lv_at hl 1 rfl) ?_
  refine va_get (D := D) (ci := 8) (v := .int 19) (C := RX9) (T := TX9) (N := 6) hx hb hts i_X9 hown hK hP 0 rfl rfl 1 (by decide) (hts _ kw_149) (fun _ h9 => h9) rfl dX9_put_8 ?_
  refine lv_sipush (v := 400) hx hb dX9_put_11 (by decide) ?_
  refine F_icmp_ge hx hb 49 dX9_put_14 (by decide) (by decide) ?_
  refine lv_aload_n hx hb dX9_put_17 rfl (lv_at hl 1 rfl) ?_
  refine va_get (D := D) (ci := 8) (v := .ref h1) (C := RX9) (T := TX9) (N := 6) hx hb hts i_X9 hown hK hP 0 rfl rfl 0 (by decide) (hts _ kw_147) (fun _ h9 => h9) rfl dX9_put_18 ?_
  refine lv_aload_n hx hb dX9_put_21 rfl (lv_at hl 1 rfl) ?_
  refine va_get (D := D) (ci := 8) (v := .int 19) (C := RX9) (T := TX9) (N := 6) hx hb hts i_X9 hown hK hP 0 rfl rfl 1 (by decide) (hts _ kw_149) (fun _ h9 => h9) rfl dX9_put_22 ?_
  refine lv_iload_n hx hb dX9_put_25 rfl (lv_at hl 2 rfl) ?_
  refine lv_iload_n hx hb dX9_put_26 rfl (lv_at hl 0 rfl) ?_
  refine lv_ishr hx hb dX9_put_27 ?_
  refine lv_topi (fun z_470 ez_470 => ?_)
  refine lv_sipush (v := 255) hx hb dX9_put_28 (by decide) ?_
  refine lv_iand hx hb dX9_put_31 ?_
  refine lv_topi (fun z_471 ez_471 => ?_)
  refine va_iast hx hb hK hP hD hS 1 0 rfl rfl (vpi (by decide)) dX9_put_32 (fun H locs hP hD hS => ?_)
  obtain ⟨f_472, hP, hD⟩ : ∃ f_472 : Nat → Int32, va_P D vwCl [(h0, .inr (8, [.ref h1, .int 19, .int 0, .int 0, .int 0, .int 0])), (h1, .inl (c 0, 400, .inl f_472))] H ∧ va_D A [(h0, .inr (8, [.ref h1, .int 19, .int 0, .int 0, .int 0, .int 0])), (h1, .inl (c 0, 400, .inl f_472))] := ⟨upd f_469 (Int32.toNatClampNeg 19) z_471, hP, hD⟩
  refine lv_aload_n hx hb dX9_put_33 rfl (lv_at hl 1 rfl) ?_
  refine lv_dup hx hb dX9_put_34 rfl ?_
  refine va_get (D := D) (ci := 8) (v := .int 19) (C := RX9) (T := TX9) (N := 6) hx hb hts i_X9 hown hK hP 0 rfl rfl 1 (by decide) (hts _ kw_149) (fun _ h9 => h9) rfl dX9_put_35 ?_
  refine lv_iconst (v := 1) hx hb dX9_put_38 (by decide) ?_
  refine lv_iadd hx hb dX9_put_39 ?_
  refine tpi 20 (by decide) ?_
  refine va_put (D := D) (ci := 8) (v := .int 20) (ty := .int) (C := RX9) (T := TX9) (N := 6) hx hb hts i_X9 tyX9 tyX9_ok nmX9 hown hK hP hD hS 0 rfl rfl 1 (by decide) (hts _ kw_149) (fun _ h9 => h9) rfl (tyX9_ok 1 (by decide)) rfl rfl (Nat.le_of_ble_eq_true rfl) dX9_put_40 (fun H locs hP hD hS => ?_)
  have hP : va_P D vwCl [(h0, .inr (8, [.ref h1, .int 20, .int 0, .int 0, .int 0, .int 0])), (h1, .inl (c 0, 400, .inl f_472))] H := hP
  have hD : va_D A [(h0, .inr (8, [.ref h1, .int 20, .int 0, .int 0, .int 0, .int 0])), (h1, .inl (c 0, 400, .inl f_472))] := hD
  refine lv_iinc (v := (-8)) (lv' := [(2, .int (-8)), (0, .ref h0), (1, .int v0)]) hx hb dX9_put_43 hl (k := 0) rfl (by decide) (by decide) rfl (fun ls hl => ?_)
  refine lv_goto (tgt := 3) hx hb dX9_put_46 (by decide) ?_
  refine lv_iload_n hx hb dX9_put_3 rfl (lv_at hl 0 rfl) ?_
  refine T_if_lt (tgt := 49) hx hb dX9_put_4 (by decide) (by decide) ?_
  exact retV hx hb hr hlocks hS (by decide) (by decide) dX9_put_49 (fun t ht => ⟨f_472, by rw [ht]; exact hP, hD⟩)
set_option maxHeartbeats 4000000 in
set_option maxRecDepth 100000 in
theorem m15_X10_feed (l : Launch) (D : va_G) (c : Nat → ClassId) (h0 h1 h2 h3 h4 h5 h6 h7 h8 h9 h10 : Nat) (sz : Nat) (v0 : Int32) (v1 : Int32) (v2 : Int32) (v3 : Int32) (v4 : Int32) : Met l yX10_feed (Cond.code yX10_feed cX10_feed 6 (some .int) :: TB) ({ frames := 1, cells := 0, slots := 0, locals := 22 } : Room) (va_Pc [.ref h0, .int v0, .int v1, .int v2, .int v3, .int v4] (PW D c [(h0, .inr (9, [.ref h1, .ref h3, .ref h4, .ref h5, .ref h6, .ref h7, .ref h8, .ref h9, .ref h10, .int 0])), (h1, .inr (8, [.ref h2, .int 0, .int 0, .int 0, .int 0, .int 0])), (h2, .inl (c 0, 400, .inl (fun _ => 0)))] sz)) ((QI 20 (fun A t => ∃ (f_538 : Nat → Int32), va_P D vwCl [(h0, .inr (9, [.ref h1, .ref h3, .ref h4, .ref h5, .ref h6, .ref h7, .ref h8, .ref h9, .ref h10, .int 0])), (h1, .inr (8, [.ref h2, .int 20, .int 0, .int 0, .int 0, .int 0])), (h2, .inl (c 0, 400, .inl f_538))] t.heap ∧ va_D A [(h0, .inr (9, [.ref h1, .ref h3, .ref h4, .ref h5, .ref h6, .ref h7, .ref h8, .ref h9, .ref h10, .int 0])), (h1, .inr (8, [.ref h2, .int 20, .int 0, .int 0, .int 0, .int 0])), (h2, .inl (c 0, 400, .inl f_538))])) (va_A [(h0, .inr (9, [.ref h1, .ref h3, .ref h4, .ref h5, .ref h6, .ref h7, .ref h8, .ref h9, .ref h10, .int 0])), (h1, .inr (8, [.ref h2, .int 0, .int 0, .int 0, .int 0, .int 0])), (h2, .inl (c 0, 400, .inl (fun _ => 0)))] sz)) 0 0 (va_A [(h0, .inr (9, [.ref h1, .ref h3, .ref h4, .ref h5, .ref h6, .ref h7, .ref h8, .ref h9, .ref h10, .int 0])), (h1, .inr (8, [.ref h2, .int 0, .int 0, .int 0, .int 0, .int 0])), (h2, .inl (c 0, 400, .inl (fun _ => 0)))] sz) := by
  refine start (by decide +kernel) (Nat.le_of_ble_eq_true rfl) ?_
  intro p e s m below meth cd A ls hx hb hr hml hts hown hlocks hin hA hS hK hP hD hN hl
  have hown : s.vm.findClass RX10 = some m.cls := hown
  have hl : lv_has ls 6 [(0, .ref h0), (1, .int v0), (2, .int v1), (3, .int v2), (4, .int v3), (5, .int v4)] := hl
  have hP : va_P D vwCl [(h0, .inr (9, [.ref h1, .ref h3, .ref h4, .ref h5, .ref h6, .ref h7, .ref h8, .ref h9, .ref h10, .int 0])), (h1, .inr (8, [.ref h2, .int 0, .int 0, .int 0, .int 0, .int 0])), (h2, .inl (c 0, 400, .inl (fun _ => 0)))] s.heap := hP
  refine lv_aload_n hx hb dX10_feed_0 rfl (lv_at hl 0 rfl) ?_
  refine va_get (D := D) (ci := 9) (v := .ref h1) (C := RX10) (T := TX10) (N := 10) hx hb hts i_X10 hown hK hP 0 rfl rfl 0 (by decide) (hts _ kw_470) (fun _ h9 => h9) rfl dX10_feed_1 ?_
  refine va_get (D := D) (ci := 8) (v := .int 0) (C := RX9) (T := TX9) (N := 6) hx hb hts i_X9 hown hK hP 1 rfl rfl 1 (by decide) (hts _ kw_150) (fun _ h9 => h9) rfl dX10_feed_4 ?_
  refine lv_bipush (v := 20) hx hb dX10_feed_7 (by decide) ?_
  refine lv_iadd hx hb dX10_feed_9 ?_
  refine tpi 20 (by decide) ?_
  refine lv_sipush (v := 400) hx hb dX10_feed_10 (by decide) ?_
  refine T_icmp_le (tgt := 18) hx hb dX10_feed_13 (by decide) (by decide) ?_
  refine lv_aload_n hx hb dX10_feed_18 rfl (lv_at hl 0 rfl) ?_
  refine va_get (D := D) (ci := 9) (v := .ref h1) (C := RX10) (T := TX10) (N := 10) hx hb hts i_X10 hown hK hP 0 rfl rfl 0 (by decide) (hts _ kw_470) (fun _ h9 => h9) rfl dX10_feed_19 ?_
  refine lv_iload_n hx hb dX10_feed_22 rfl (lv_at hl 1 rfl) ?_
  refine fin_v (run_V (n := 1) (ci := 8) ⟨hx, hb, hml, hown, hts⟩ (m10_X9_put l D c h1 h2 s.heap.size v0) (hP.sub [1, 2] rfl) (hD.sub [1, 2] (by decide) rfl) hK hN rfl rfl kw_505 kw_506 kw_507 kw_114 kw_508 ⟨rfl, by decide +kernel⟩ ⟨(Nat.le_of_ble_eq_true rfl), (Nat.le_of_ble_eq_true rfl)⟩ rfl rfl rfl hl.1 rfl (Nat.le_of_ble_eq_true rfl) dX10_feed_23 ⟨(Nat.le_of_ble_eq_true rfl), (Nat.le_of_ble_eq_true rfl)⟩) hP hD hS hA [1, 2] rfl (fun H locs t hB hj hS => ?_)
  obtain ⟨f_486, hP1, hD1⟩ := hB
  obtain ⟨hP, hD⟩ := hj (wr := [(h0, .inr (9, [.ref h1, .ref h3, .ref h4, .ref h5, .ref h6, .ref h7, .ref h8, .ref h9, .ref h10, .int 0]))]) (w1 := [(h1, .inr (8, [.ref h2, .int 4, .int 0, .int 0, .int 0, .int 0])), (h2, .inl (c 0, 400, .inl f_486))]) [0] rfl (by decide) (by decide) hP1 hD1
  have hP : va_P D vwCl [(h0, .inr (9, [.ref h1, .ref h3, .ref h4, .ref h5, .ref h6, .ref h7, .ref h8, .ref h9, .ref h10, .int 0])), (h1, .inr (8, [.ref h2, .int 4, .int 0, .int 0, .int 0, .int 0])), (h2, .inl (c 0, 400, .inl f_486))] H := hP
  have hD : va_D A [(h0, .inr (9, [.ref h1, .ref h3, .ref h4, .ref h5, .ref h6, .ref h7, .ref h8, .ref h9, .ref h10, .int 0])), (h1, .inr (8, [.ref h2, .int 4, .int 0, .int 0, .int 0, .int 0])), (h2, .inl (c 0, 400, .inl f_486))] := hD
  refine lv_aload_n hx hb dX10_feed_26 rfl (lv_at hl 0 rfl) ?_
  refine va_get (D := D) (ci := 9) (v := .ref h1) (C := RX10) (T := TX10) (N := 10) hx hb hts i_X10 hown hK hP 0 rfl rfl 0 (by decide) (hts _ kw_470) (fun _ h9 => h9) rfl dX10_feed_27 ?_
  refine lv_iload_n hx hb dX10_feed_30 rfl (lv_at hl 2 rfl) ?_
  refine fin_v (run_V (n := 1) (ci := 8) ⟨hx, hb, hml, hown, hts⟩ (m11_X9_put l D c h1 h2 H.size v1 f_486) (hP.sub [1, 2] rfl) (hD.sub [1, 2] (by decide) rfl) hK hN rfl rfl kw_505 kw_506 kw_507 kw_114 kw_508 ⟨rfl, by decide +kernel⟩ ⟨(Nat.le_of_ble_eq_true rfl), (Nat.le_of_ble_eq_true rfl)⟩ rfl rfl rfl hl.1 rfl (Nat.le_of_ble_eq_true rfl) dX10_feed_31 ⟨(Nat.le_of_ble_eq_true rfl), (Nat.le_of_ble_eq_true rfl)⟩) hP hD hS hA [1, 2] rfl (fun H locs t hB hj hS => ?_)
  obtain ⟨f_499, hP1, hD1⟩ := hB
  obtain ⟨hP, hD⟩ := hj (wr := [(h0, .inr (9, [.ref h1, .ref h3, .ref h4, .ref h5, .ref h6, .ref h7, .ref h8, .ref h9, .ref h10, .int 0]))]) (w1 := [(h1, .inr (8, [.ref h2, .int 8, .int 0, .int 0, .int 0, .int 0])), (h2, .inl (c 0, 400, .inl f_499))]) [0] rfl (by decide) (by decide) hP1 hD1
  have hP : va_P D vwCl [(h0, .inr (9, [.ref h1, .ref h3, .ref h4, .ref h5, .ref h6, .ref h7, .ref h8, .ref h9, .ref h10, .int 0])), (h1, .inr (8, [.ref h2, .int 8, .int 0, .int 0, .int 0, .int 0])), (h2, .inl (c 0, 400, .inl f_499))] H := hP
  have hD : va_D A [(h0, .inr (9, [.ref h1, .ref h3, .ref h4, .ref h5, .ref h6, .ref h7, .ref h8, .ref h9, .ref h10, .int 0])), (h1, .inr (8, [.ref h2, .int 8, .int 0, .int 0, .int 0, .int 0])), (h2, .inl (c 0, 400, .inl f_499))] := hD
  refine lv_aload_n hx hb dX10_feed_34 rfl (lv_at hl 0 rfl) ?_
  refine va_get (D := D) (ci := 9) (v := .ref h1) (C := RX10) (T := TX10) (N := 10) hx hb hts i_X10 hown hK hP 0 rfl rfl 0 (by decide) (hts _ kw_470) (fun _ h9 => h9) rfl dX10_feed_35 ?_
  refine lv_iload_n hx hb dX10_feed_38 rfl (lv_at hl 3 rfl) ?_
  refine fin_v (run_V (n := 1) (ci := 8) ⟨hx, hb, hml, hown, hts⟩ (m12_X9_put l D c h1 h2 H.size v2 f_499) (hP.sub [1, 2] rfl) (hD.sub [1, 2] (by decide) rfl) hK hN rfl rfl kw_505 kw_506 kw_507 kw_114 kw_508 ⟨rfl, by decide +kernel⟩ ⟨(Nat.le_of_ble_eq_true rfl), (Nat.le_of_ble_eq_true rfl)⟩ rfl rfl rfl hl.1 rfl (Nat.le_of_ble_eq_true rfl) dX10_feed_39 ⟨(Nat.le_of_ble_eq_true rfl), (Nat.le_of_ble_eq_true rfl)⟩) hP hD hS hA [1, 2] rfl (fun H locs t hB hj hS => ?_)
  obtain ⟨f_512, hP1, hD1⟩ := hB
  obtain ⟨hP, hD⟩ := hj (wr := [(h0, .inr (9, [.ref h1, .ref h3, .ref h4, .ref h5, .ref h6, .ref h7, .ref h8, .ref h9, .ref h10, .int 0]))]) (w1 := [(h1, .inr (8, [.ref h2, .int 12, .int 0, .int 0, .int 0, .int 0])), (h2, .inl (c 0, 400, .inl f_512))]) [0] rfl (by decide) (by decide) hP1 hD1
  have hP : va_P D vwCl [(h0, .inr (9, [.ref h1, .ref h3, .ref h4, .ref h5, .ref h6, .ref h7, .ref h8, .ref h9, .ref h10, .int 0])), (h1, .inr (8, [.ref h2, .int 12, .int 0, .int 0, .int 0, .int 0])), (h2, .inl (c 0, 400, .inl f_512))] H := hP
  have hD : va_D A [(h0, .inr (9, [.ref h1, .ref h3, .ref h4, .ref h5, .ref h6, .ref h7, .ref h8, .ref h9, .ref h10, .int 0])), (h1, .inr (8, [.ref h2, .int 12, .int 0, .int 0, .int 0, .int 0])), (h2, .inl (c 0, 400, .inl f_512))] := hD
  refine lv_aload_n hx hb dX10_feed_42 rfl (lv_at hl 0 rfl) ?_
  refine va_get (D := D) (ci := 9) (v := .ref h1) (C := RX10) (T := TX10) (N := 10) hx hb hts i_X10 hown hK hP 0 rfl rfl 0 (by decide) (hts _ kw_470) (fun _ h9 => h9) rfl dX10_feed_43 ?_
  refine lv_iload hx hb dX10_feed_46 (lv_at hl 4 rfl) ?_
  refine fin_v (run_V (n := 1) (ci := 8) ⟨hx, hb, hml, hown, hts⟩ (m13_X9_put l D c h1 h2 H.size v3 f_512) (hP.sub [1, 2] rfl) (hD.sub [1, 2] (by decide) rfl) hK hN rfl rfl kw_505 kw_506 kw_507 kw_114 kw_508 ⟨rfl, by decide +kernel⟩ ⟨(Nat.le_of_ble_eq_true rfl), (Nat.le_of_ble_eq_true rfl)⟩ rfl rfl rfl hl.1 rfl (Nat.le_of_ble_eq_true rfl) dX10_feed_48 ⟨(Nat.le_of_ble_eq_true rfl), (Nat.le_of_ble_eq_true rfl)⟩) hP hD hS hA [1, 2] rfl (fun H locs t hB hj hS => ?_)
  obtain ⟨f_525, hP1, hD1⟩ := hB
  obtain ⟨hP, hD⟩ := hj (wr := [(h0, .inr (9, [.ref h1, .ref h3, .ref h4, .ref h5, .ref h6, .ref h7, .ref h8, .ref h9, .ref h10, .int 0]))]) (w1 := [(h1, .inr (8, [.ref h2, .int 16, .int 0, .int 0, .int 0, .int 0])), (h2, .inl (c 0, 400, .inl f_525))]) [0] rfl (by decide) (by decide) hP1 hD1
  have hP : va_P D vwCl [(h0, .inr (9, [.ref h1, .ref h3, .ref h4, .ref h5, .ref h6, .ref h7, .ref h8, .ref h9, .ref h10, .int 0])), (h1, .inr (8, [.ref h2, .int 16, .int 0, .int 0, .int 0, .int 0])), (h2, .inl (c 0, 400, .inl f_525))] H := hP
  have hD : va_D A [(h0, .inr (9, [.ref h1, .ref h3, .ref h4, .ref h5, .ref h6, .ref h7, .ref h8, .ref h9, .ref h10, .int 0])), (h1, .inr (8, [.ref h2, .int 16, .int 0, .int 0, .int 0, .int 0])), (h2, .inl (c 0, 400, .inl f_525))] := hD
  refine lv_aload_n hx hb dX10_feed_51 rfl (lv_at hl 0 rfl) ?_
  refine va_get (D := D) (ci := 9) (v := .ref h1) (C := RX10) (T := TX10) (N := 10) hx hb hts i_X10 hown hK hP 0 rfl rfl 0 (by decide) (hts _ kw_470) (fun _ h9 => h9) rfl dX10_feed_52 ?_
  refine lv_iload hx hb dX10_feed_55 (lv_at hl 5 rfl) ?_
  refine fin_v (run_V (n := 1) (ci := 8) ⟨hx, hb, hml, hown, hts⟩ (m14_X9_put l D c h1 h2 H.size v4 f_525) (hP.sub [1, 2] rfl) (hD.sub [1, 2] (by decide) rfl) hK hN rfl rfl kw_505 kw_506 kw_507 kw_114 kw_508 ⟨rfl, by decide +kernel⟩ ⟨(Nat.le_of_ble_eq_true rfl), (Nat.le_of_ble_eq_true rfl)⟩ rfl rfl rfl hl.1 rfl (Nat.le_of_ble_eq_true rfl) dX10_feed_57 ⟨(Nat.le_of_ble_eq_true rfl), (Nat.le_of_ble_eq_true rfl)⟩) hP hD hS hA [1, 2] rfl (fun H locs t hB hj hS => ?_)
  obtain ⟨f_538, hP1, hD1⟩ := hB
  obtain ⟨hP, hD⟩ := hj (wr := [(h0, .inr (9, [.ref h1, .ref h3, .ref h4, .ref h5, .ref h6, .ref h7, .ref h8, .ref h9, .ref h10, .int 0]))]) (w1 := [(h1, .inr (8, [.ref h2, .int 20, .int 0, .int 0, .int 0, .int 0])), (h2, .inl (c 0, 400, .inl f_538))]) [0] rfl (by decide) (by decide) hP1 hD1
  have hP : va_P D vwCl [(h0, .inr (9, [.ref h1, .ref h3, .ref h4, .ref h5, .ref h6, .ref h7, .ref h8, .ref h9, .ref h10, .int 0])), (h1, .inr (8, [.ref h2, .int 20, .int 0, .int 0, .int 0, .int 0])), (h2, .inl (c 0, 400, .inl f_538))] H := hP
  have hD : va_D A [(h0, .inr (9, [.ref h1, .ref h3, .ref h4, .ref h5, .ref h6, .ref h7, .ref h8, .ref h9, .ref h10, .int 0])), (h1, .inr (8, [.ref h2, .int 20, .int 0, .int 0, .int 0, .int 0])), (h2, .inl (c 0, 400, .inl f_538))] := hD
  refine lv_aload_n hx hb dX10_feed_60 rfl (lv_at hl 0 rfl) ?_
  refine va_get (D := D) (ci := 9) (v := .ref h1) (C := RX10) (T := TX10) (N := 10) hx hb hts i_X10 hown hK hP 0 rfl rfl 0 (by decide) (hts _ kw_470) (fun _ h9 => h9) rfl dX10_feed_61 ?_
  refine va_get (D := D) (ci := 8) (v := .int 20) (C := RX9) (T := TX9) (N := 6) hx hb hts i_X9 hown hK hP 1 rfl rfl 1 (by decide) (hts _ kw_150) (fun _ h9 => h9) rfl dX10_feed_64 ?_
  exact retI hx hb hr hlocks rfl hS (by decide) (by decide) dX10_feed_67 (fun t ht => ⟨f_538, by rw [ht]; exact hP, hD⟩)
set_option maxHeartbeats 4000000 in
set_option maxRecDepth 100000 in
theorem m16_X11_four (l : Launch) (D : va_G) (c : Nat → ClassId) (h0 h1 h2 h3 h4 h5 h6 h7 h8 h9 h10 h11 h12 h13 h14 h15 h16 h17 h18 h19 h20 h21 h22 h23 h24 : Nat) (sz : Nat) (v0 : Int32) : Met l yX11_four (Cond.code yX11_four cX11_four 3 none :: TB) ({ frames := 0, cells := 0, slots := 0, locals := 0 } : Room) (va_Pc [.ref h0, .int v0] (PW D c [(h0, .inr (10, (.ref h1 :: .int 0 :: .int 0 :: .ref h2 :: .ref h3 :: .ref h4 :: .ref h5 :: .int 0 :: .int 0 :: .ref h6 :: .ref h7 :: .int 0 :: .int 0 :: .int 0 :: .int 0 :: .int 0 :: .int 0 :: .int 0 :: .ref h8 :: .int 0 :: .ref h9 :: .int 0 :: .ref h10 :: .ref h11 :: .ref h12 :: .ref h13 :: .ref h14 :: .ref h15 :: .ref h16 :: .int 0 :: .ref h17 :: .int 0 :: .ref h18 :: .int 0 :: .int 0 :: .int 0 :: .ref h19 :: .ref h20 :: .ref h21 :: .ref h22 :: .int 0 :: .ref h23 :: .ref h24 :: []))), (h1, .inl (c 2, 400, .inl (fun _ => 0)))] sz)) ((QV (fun A t => ∃ (f_563 : Nat → Int32), va_P D vwCl [(h0, .inr (10, (.ref h1 :: .int 4 :: .int 0 :: .ref h2 :: .ref h3 :: .ref h4 :: .ref h5 :: .int 0 :: .int 0 :: .ref h6 :: .ref h7 :: .int 0 :: .int 0 :: .int 0 :: .int 0 :: .int 0 :: .int 0 :: .int 0 :: .ref h8 :: .int 0 :: .ref h9 :: .int 0 :: .ref h10 :: .ref h11 :: .ref h12 :: .ref h13 :: .ref h14 :: .ref h15 :: .ref h16 :: .int 0 :: .ref h17 :: .int 0 :: .ref h18 :: .int 0 :: .int 0 :: .int 0 :: .ref h19 :: .ref h20 :: .ref h21 :: .ref h22 :: .int 0 :: .ref h23 :: .ref h24 :: []))), (h1, .inl (c 2, 400, .inl f_563))] t.heap ∧ va_D A [(h0, .inr (10, (.ref h1 :: .int 4 :: .int 0 :: .ref h2 :: .ref h3 :: .ref h4 :: .ref h5 :: .int 0 :: .int 0 :: .ref h6 :: .ref h7 :: .int 0 :: .int 0 :: .int 0 :: .int 0 :: .int 0 :: .int 0 :: .int 0 :: .ref h8 :: .int 0 :: .ref h9 :: .int 0 :: .ref h10 :: .ref h11 :: .ref h12 :: .ref h13 :: .ref h14 :: .ref h15 :: .ref h16 :: .int 0 :: .ref h17 :: .int 0 :: .ref h18 :: .int 0 :: .int 0 :: .int 0 :: .ref h19 :: .ref h20 :: .ref h21 :: .ref h22 :: .int 0 :: .ref h23 :: .ref h24 :: []))), (h1, .inl (c 2, 400, .inl f_563))])) (va_A [(h0, .inr (10, (.ref h1 :: .int 0 :: .int 0 :: .ref h2 :: .ref h3 :: .ref h4 :: .ref h5 :: .int 0 :: .int 0 :: .ref h6 :: .ref h7 :: .int 0 :: .int 0 :: .int 0 :: .int 0 :: .int 0 :: .int 0 :: .int 0 :: .ref h8 :: .int 0 :: .ref h9 :: .int 0 :: .ref h10 :: .ref h11 :: .ref h12 :: .ref h13 :: .ref h14 :: .ref h15 :: .ref h16 :: .int 0 :: .ref h17 :: .int 0 :: .ref h18 :: .int 0 :: .int 0 :: .int 0 :: .ref h19 :: .ref h20 :: .ref h21 :: .ref h22 :: .int 0 :: .ref h23 :: .ref h24 :: []))), (h1, .inl (c 2, 400, .inl (fun _ => 0)))] sz)) 0 0 (va_A [(h0, .inr (10, (.ref h1 :: .int 0 :: .int 0 :: .ref h2 :: .ref h3 :: .ref h4 :: .ref h5 :: .int 0 :: .int 0 :: .ref h6 :: .ref h7 :: .int 0 :: .int 0 :: .int 0 :: .int 0 :: .int 0 :: .int 0 :: .int 0 :: .ref h8 :: .int 0 :: .ref h9 :: .int 0 :: .ref h10 :: .ref h11 :: .ref h12 :: .ref h13 :: .ref h14 :: .ref h15 :: .ref h16 :: .int 0 :: .ref h17 :: .int 0 :: .ref h18 :: .int 0 :: .int 0 :: .int 0 :: .ref h19 :: .ref h20 :: .ref h21 :: .ref h22 :: .int 0 :: .ref h23 :: .ref h24 :: []))), (h1, .inl (c 2, 400, .inl (fun _ => 0)))] sz) := by
  refine start (by decide +kernel) (Nat.le_of_ble_eq_true rfl) ?_
  intro p e s m below meth cd A ls hx hb hr hml hts hown hlocks hin hA hS hK hP hD hN hl
  have hown : s.vm.findClass RX11 = some m.cls := hown
  have hl : lv_has ls 3 [(0, .ref h0), (1, .int v0)] := hl
  have hP : va_P D vwCl [(h0, .inr (10, (.ref h1 :: .int 0 :: .int 0 :: .ref h2 :: .ref h3 :: .ref h4 :: .ref h5 :: .int 0 :: .int 0 :: .ref h6 :: .ref h7 :: .int 0 :: .int 0 :: .int 0 :: .int 0 :: .int 0 :: .int 0 :: .int 0 :: .ref h8 :: .int 0 :: .ref h9 :: .int 0 :: .ref h10 :: .ref h11 :: .ref h12 :: .ref h13 :: .ref h14 :: .ref h15 :: .ref h16 :: .int 0 :: .ref h17 :: .int 0 :: .ref h18 :: .int 0 :: .int 0 :: .int 0 :: .ref h19 :: .ref h20 :: .ref h21 :: .ref h22 :: .int 0 :: .ref h23 :: .ref h24 :: []))), (h1, .inl (c 2, 400, .inl (fun _ => 0)))] s.heap := hP
  refine lv_bipush (v := 24) hx hb dX11_four_0 (by decide) ?_
  refine lv_istore_n (lv' := [(2, .int 24), (0, .ref h0), (1, .int v0)]) hx hb dX11_four_2 rfl hl (by decide) rfl (fun ls hl => ?_)
  refine lv_iload_n hx hb dX11_four_3 rfl (lv_at hl 0 rfl) ?_
  refine F_if_lt hx hb 36 dX11_four_4 (by decide) (by decide) ?_
  refine lv_aload_n hx hb dX11_four_7 rfl (lv_at hl 1 rfl) ?_
  refine va_get (D := D) (ci := 10) (v := .ref h1) (C := RX11) (T := TX11) (N := 43) hx hb hts i_X11 hown hK hP 0 rfl rfl 0 (by decide) (hts _ kw_1203) (fun _ h9 => h9) rfl dX11_four_8 ?_
  refine lv_aload_n hx hb dX11_four_11 rfl (lv_at hl 1 rfl) ?_
  refine va_get (D := D) (ci := 10) (v := .int 0) (C := RX11) (T := TX11) (N := 43) hx hb hts i_X11 hown hK hP 0 rfl rfl 1 (by decide) (hts _ kw_1204) (fun _ h9 => h9) rfl dX11_four_12 ?_
  refine lv_iload_n hx hb dX11_four_15 rfl (lv_at hl 2 rfl) ?_
  refine lv_iload_n hx hb dX11_four_16 rfl (lv_at hl 0 rfl) ?_
  refine lv_ishr hx hb dX11_four_17 ?_
  refine lv_topi (fun z_552 ez_552 => ?_)
  refine lv_i2b hx hb dX11_four_18 rfl ?_
  refine lv_topi (fun z_553 ez_553 => ?_)
  refine va_bast hx hb hK hP hD hS 1 2 rfl rfl (vpi (by decide)) dX11_four_19 (fun H locs hP hD hS => ?_)
  obtain ⟨f_554, hP, hD⟩ : ∃ f_554 : Nat → Int32, va_P D vwCl [(h0, .inr (10, (.ref h1 :: .int 0 :: .int 0 :: .ref h2 :: .ref h3 :: .ref h4 :: .ref h5 :: .int 0 :: .int 0 :: .ref h6 :: .ref h7 :: .int 0 :: .int 0 :: .int 0 :: .int 0 :: .int 0 :: .int 0 :: .int 0 :: .ref h8 :: .int 0 :: .ref h9 :: .int 0 :: .ref h10 :: .ref h11 :: .ref h12 :: .ref h13 :: .ref h14 :: .ref h15 :: .ref h16 :: .int 0 :: .ref h17 :: .int 0 :: .ref h18 :: .int 0 :: .int 0 :: .int 0 :: .ref h19 :: .ref h20 :: .ref h21 :: .ref h22 :: .int 0 :: .ref h23 :: .ref h24 :: []))), (h1, .inl (c 2, 400, .inl f_554))] H ∧ va_D A [(h0, .inr (10, (.ref h1 :: .int 0 :: .int 0 :: .ref h2 :: .ref h3 :: .ref h4 :: .ref h5 :: .int 0 :: .int 0 :: .ref h6 :: .ref h7 :: .int 0 :: .int 0 :: .int 0 :: .int 0 :: .int 0 :: .int 0 :: .int 0 :: .ref h8 :: .int 0 :: .ref h9 :: .int 0 :: .ref h10 :: .ref h11 :: .ref h12 :: .ref h13 :: .ref h14 :: .ref h15 :: .ref h16 :: .int 0 :: .ref h17 :: .int 0 :: .ref h18 :: .int 0 :: .int 0 :: .int 0 :: .ref h19 :: .ref h20 :: .ref h21 :: .ref h22 :: .int 0 :: .ref h23 :: .ref h24 :: []))), (h1, .inl (c 2, 400, .inl f_554))] := ⟨upd (fun _ => 0) (Int32.toNatClampNeg 0) (vp_nar .byte z_553), hP, hD⟩
  refine lv_aload_n hx hb dX11_four_20 rfl (lv_at hl 1 rfl) ?_
  refine lv_dup hx hb dX11_four_21 rfl ?_
  refine va_get (D := D) (ci := 10) (v := .int 0) (C := RX11) (T := TX11) (N := 43) hx hb hts i_X11 hown hK hP 0 rfl rfl 1 (by decide) (hts _ kw_1204) (fun _ h9 => h9) rfl dX11_four_22 ?_
  refine lv_iconst (v := 1) hx hb dX11_four_25 (by decide) ?_
  refine lv_iadd hx hb dX11_four_26 ?_
  refine tpi 1 (by decide) ?_
  refine va_put (D := D) (ci := 10) (v := .int 1) (ty := .int) (C := RX11) (T := TX11) (N := 43) hx hb hts i_X11 tyX11 tyX11_ok nmX11 hown hK hP hD hS 0 rfl rfl 1 (by decide) (hts _ kw_1204) (fun _ h9 => h9) rfl (tyX11_ok 1 (by decide)) rfl rfl (Nat.le_of_ble_eq_true rfl) dX11_four_27 (fun H locs hP hD hS => ?_)
  have hP : va_P D vwCl [(h0, .inr (10, (.ref h1 :: .int 1 :: .int 0 :: .ref h2 :: .ref h3 :: .ref h4 :: .ref h5 :: .int 0 :: .int 0 :: .ref h6 :: .ref h7 :: .int 0 :: .int 0 :: .int 0 :: .int 0 :: .int 0 :: .int 0 :: .int 0 :: .ref h8 :: .int 0 :: .ref h9 :: .int 0 :: .ref h10 :: .ref h11 :: .ref h12 :: .ref h13 :: .ref h14 :: .ref h15 :: .ref h16 :: .int 0 :: .ref h17 :: .int 0 :: .ref h18 :: .int 0 :: .int 0 :: .int 0 :: .ref h19 :: .ref h20 :: .ref h21 :: .ref h22 :: .int 0 :: .ref h23 :: .ref h24 :: []))), (h1, .inl (c 2, 400, .inl f_554))] H := hP
  have hD : va_D A [(h0, .inr (10, (.ref h1 :: .int 1 :: .int 0 :: .ref h2 :: .ref h3 :: .ref h4 :: .ref h5 :: .int 0 :: .int 0 :: .ref h6 :: .ref h7 :: .int 0 :: .int 0 :: .int 0 :: .int 0 :: .int 0 :: .int 0 :: .int 0 :: .ref h8 :: .int 0 :: .ref h9 :: .int 0 :: .ref h10 :: .ref h11 :: .ref h12 :: .ref h13 :: .ref h14 :: .ref h15 :: .ref h16 :: .int 0 :: .ref h17 :: .int 0 :: .ref h18 :: .int 0 :: .int 0 :: .int 0 :: .ref h19 :: .ref h20 :: .ref h21 :: .ref h22 :: .int 0 :: .ref h23 :: .ref h24 :: []))), (h1, .inl (c 2, 400, .inl f_554))] := hD
  refine lv_iinc (v := 16) (lv' := [(2, .int 16), (0, .ref h0), (1, .int v0)]) hx hb dX11_four_30 hl (k := 0) rfl (by decide) (by decide) rfl (fun ls hl => ?_)
  refine lv_goto (tgt := 3) hx hb dX11_four_33 (by decide) ?_
  refine lv_iload_n hx hb dX11_four_3 rfl (lv_at hl 0 rfl) ?_
  refine F_if_lt hx hb 36 dX11_four_4 (by decide) (by decide) ?_
  refine lv_aload_n hx hb dX11_four_7 rfl (lv_at hl 1 rfl) ?_
  refine va_get (D := D) (ci := 10) (v := .ref h1) (C := RX11) (T := TX11) (N := 43) hx hb hts i_X11 hown hK hP 0 rfl rfl 0 (by decide) (hts _ kw_1203) (fun _ h9 => h9) rfl dX11_four_8 ?_
  refine lv_aload_n hx hb dX11_four_11 rfl (lv_at hl 1 rfl) ?_
  refine va_get (D := D) (ci := 10) (v := .int 1) (C := RX11) (T := TX11) (N := 43) hx hb hts i_X11 hown hK hP 0 rfl rfl 1 (by decide) (hts _ kw_1204) (fun _ h9 => h9) rfl dX11_four_12 ?_
  refine lv_iload_n hx hb dX11_four_15 rfl (lv_at hl 2 rfl) ?_
  refine lv_iload_n hx hb dX11_four_16 rfl (lv_at hl 0 rfl) ?_
  refine lv_ishr hx hb dX11_four_17 ?_
  refine lv_topi (fun z_555 ez_555 => ?_)
  refine lv_i2b hx hb dX11_four_18 rfl ?_
  refine lv_topi (fun z_556 ez_556 => ?_)
  refine va_bast hx hb hK hP hD hS 1 2 rfl rfl (vpi (by decide)) dX11_four_19 (fun H locs hP hD hS => ?_)
  obtain ⟨f_557, hP, hD⟩ : ∃ f_557 : Nat → Int32, va_P D vwCl [(h0, .inr (10, (.ref h1 :: .int 1 :: .int 0 :: .ref h2 :: .ref h3 :: .ref h4 :: .ref h5 :: .int 0 :: .int 0 :: .ref h6 :: .ref h7 :: .int 0 :: .int 0 :: .int 0 :: .int 0 :: .int 0 :: .int 0 :: .int 0 :: .ref h8 :: .int 0 :: .ref h9 :: .int 0 :: .ref h10 :: .ref h11 :: .ref h12 :: .ref h13 :: .ref h14 :: .ref h15 :: .ref h16 :: .int 0 :: .ref h17 :: .int 0 :: .ref h18 :: .int 0 :: .int 0 :: .int 0 :: .ref h19 :: .ref h20 :: .ref h21 :: .ref h22 :: .int 0 :: .ref h23 :: .ref h24 :: []))), (h1, .inl (c 2, 400, .inl f_557))] H ∧ va_D A [(h0, .inr (10, (.ref h1 :: .int 1 :: .int 0 :: .ref h2 :: .ref h3 :: .ref h4 :: .ref h5 :: .int 0 :: .int 0 :: .ref h6 :: .ref h7 :: .int 0 :: .int 0 :: .int 0 :: .int 0 :: .int 0 :: .int 0 :: .int 0 :: .ref h8 :: .int 0 :: .ref h9 :: .int 0 :: .ref h10 :: .ref h11 :: .ref h12 :: .ref h13 :: .ref h14 :: .ref h15 :: .ref h16 :: .int 0 :: .ref h17 :: .int 0 :: .ref h18 :: .int 0 :: .int 0 :: .int 0 :: .ref h19 :: .ref h20 :: .ref h21 :: .ref h22 :: .int 0 :: .ref h23 :: .ref h24 :: []))), (h1, .inl (c 2, 400, .inl f_557))] := ⟨upd f_554 (Int32.toNatClampNeg 1) (vp_nar .byte z_556), hP, hD⟩
  refine lv_aload_n hx hb dX11_four_20 rfl (lv_at hl 1 rfl) ?_
  refine lv_dup hx hb dX11_four_21 rfl ?_
  refine va_get (D := D) (ci := 10) (v := .int 1) (C := RX11) (T := TX11) (N := 43) hx hb hts i_X11 hown hK hP 0 rfl rfl 1 (by decide) (hts _ kw_1204) (fun _ h9 => h9) rfl dX11_four_22 ?_
  refine lv_iconst (v := 1) hx hb dX11_four_25 (by decide) ?_
  refine lv_iadd hx hb dX11_four_26 ?_
  refine tpi 2 (by decide) ?_
  refine va_put (D := D) (ci := 10) (v := .int 2) (ty := .int) (C := RX11) (T := TX11) (N := 43) hx hb hts i_X11 tyX11 tyX11_ok nmX11 hown hK hP hD hS 0 rfl rfl 1 (by decide) (hts _ kw_1204) (fun _ h9 => h9) rfl (tyX11_ok 1 (by decide)) rfl rfl (Nat.le_of_ble_eq_true rfl) dX11_four_27 (fun H locs hP hD hS => ?_)
  have hP : va_P D vwCl [(h0, .inr (10, (.ref h1 :: .int 2 :: .int 0 :: .ref h2 :: .ref h3 :: .ref h4 :: .ref h5 :: .int 0 :: .int 0 :: .ref h6 :: .ref h7 :: .int 0 :: .int 0 :: .int 0 :: .int 0 :: .int 0 :: .int 0 :: .int 0 :: .ref h8 :: .int 0 :: .ref h9 :: .int 0 :: .ref h10 :: .ref h11 :: .ref h12 :: .ref h13 :: .ref h14 :: .ref h15 :: .ref h16 :: .int 0 :: .ref h17 :: .int 0 :: .ref h18 :: .int 0 :: .int 0 :: .int 0 :: .ref h19 :: .ref h20 :: .ref h21 :: .ref h22 :: .int 0 :: .ref h23 :: .ref h24 :: []))), (h1, .inl (c 2, 400, .inl f_557))] H := hP
  have hD : va_D A [(h0, .inr (10, (.ref h1 :: .int 2 :: .int 0 :: .ref h2 :: .ref h3 :: .ref h4 :: .ref h5 :: .int 0 :: .int 0 :: .ref h6 :: .ref h7 :: .int 0 :: .int 0 :: .int 0 :: .int 0 :: .int 0 :: .int 0 :: .int 0 :: .ref h8 :: .int 0 :: .ref h9 :: .int 0 :: .ref h10 :: .ref h11 :: .ref h12 :: .ref h13 :: .ref h14 :: .ref h15 :: .ref h16 :: .int 0 :: .ref h17 :: .int 0 :: .ref h18 :: .int 0 :: .int 0 :: .int 0 :: .ref h19 :: .ref h20 :: .ref h21 :: .ref h22 :: .int 0 :: .ref h23 :: .ref h24 :: []))), (h1, .inl (c 2, 400, .inl f_557))] := hD
  refine lv_iinc (v := 8) (lv' := [(2, .int 8), (0, .ref h0), (1, .int v0)]) hx hb dX11_four_30 hl (k := 0) rfl (by decide) (by decide) rfl (fun ls hl => ?_)
  refine lv_goto (tgt := 3) hx hb dX11_four_33 (by decide) ?_
  refine lv_iload_n hx hb dX11_four_3 rfl (lv_at hl 0 rfl) ?_
  refine F_if_lt hx hb 36 dX11_four_4 (by decide) (by decide) ?_
  refine lv_aload_n hx hb dX11_four_7 rfl (lv_at hl 1 rfl) ?_
  refine va_get (D := D) (ci := 10) (v := .ref h1) (C := RX11) (T := TX11) (N := 43) hx hb hts i_X11 hown hK hP 0 rfl rfl 0 (by decide) (hts _ kw_1203) (fun _ h9 => h9) rfl dX11_four_8 ?_
  refine lv_aload_n hx hb dX11_four_11 rfl (lv_at hl 1 rfl) ?_
  refine va_get (D := D) (ci := 10) (v := .int 2) (C := RX11) (T := TX11) (N := 43) hx hb hts i_X11 hown hK hP 0 rfl rfl 1 (by decide) (hts _ kw_1204) (fun _ h9 => h9) rfl dX11_four_12 ?_
  refine lv_iload_n hx hb dX11_four_15 rfl (lv_at hl 2 rfl) ?_
  refine lv_iload_n hx hb dX11_four_16 rfl (lv_at hl 0 rfl) ?_
  refine lv_ishr hx hb dX11_four_17 ?_
  refine lv_topi (fun z_558 ez_558 => ?_)
  refine lv_i2b hx hb dX11_four_18 rfl ?_
  refine lv_topi (fun z_559 ez_559 => ?_)
  refine va_bast hx hb hK hP hD hS 1 2 rfl rfl (vpi (by decide)) dX11_four_19 (fun H locs hP hD hS => ?_)
  obtain ⟨f_560, hP, hD⟩ : ∃ f_560 : Nat → Int32, va_P D vwCl [(h0, .inr (10, (.ref h1 :: .int 2 :: .int 0 :: .ref h2 :: .ref h3 :: .ref h4 :: .ref h5 :: .int 0 :: .int 0 :: .ref h6 :: .ref h7 :: .int 0 :: .int 0 :: .int 0 :: .int 0 :: .int 0 :: .int 0 :: .int 0 :: .ref h8 :: .int 0 :: .ref h9 :: .int 0 :: .ref h10 :: .ref h11 :: .ref h12 :: .ref h13 :: .ref h14 :: .ref h15 :: .ref h16 :: .int 0 :: .ref h17 :: .int 0 :: .ref h18 :: .int 0 :: .int 0 :: .int 0 :: .ref h19 :: .ref h20 :: .ref h21 :: .ref h22 :: .int 0 :: .ref h23 :: .ref h24 :: []))), (h1, .inl (c 2, 400, .inl f_560))] H ∧ va_D A [(h0, .inr (10, (.ref h1 :: .int 2 :: .int 0 :: .ref h2 :: .ref h3 :: .ref h4 :: .ref h5 :: .int 0 :: .int 0 :: .ref h6 :: .ref h7 :: .int 0 :: .int 0 :: .int 0 :: .int 0 :: .int 0 :: .int 0 :: .int 0 :: .ref h8 :: .int 0 :: .ref h9 :: .int 0 :: .ref h10 :: .ref h11 :: .ref h12 :: .ref h13 :: .ref h14 :: .ref h15 :: .ref h16 :: .int 0 :: .ref h17 :: .int 0 :: .ref h18 :: .int 0 :: .int 0 :: .int 0 :: .ref h19 :: .ref h20 :: .ref h21 :: .ref h22 :: .int 0 :: .ref h23 :: .ref h24 :: []))), (h1, .inl (c 2, 400, .inl f_560))] := ⟨upd f_557 (Int32.toNatClampNeg 2) (vp_nar .byte z_559), hP, hD⟩
  refine lv_aload_n hx hb dX11_four_20 rfl (lv_at hl 1 rfl) ?_
  refine lv_dup hx hb dX11_four_21 rfl ?_
  refine va_get (D := D) (ci := 10) (v := .int 2) (C := RX11) (T := TX11) (N := 43) hx hb hts i_X11 hown hK hP 0 rfl rfl 1 (by decide) (hts _ kw_1204) (fun _ h9 => h9) rfl dX11_four_22 ?_
  refine lv_iconst (v := 1) hx hb dX11_four_25 (by decide) ?_
  refine lv_iadd hx hb dX11_four_26 ?_
  refine tpi 3 (by decide) ?_
  refine va_put (D := D) (ci := 10) (v := .int 3) (ty := .int) (C := RX11) (T := TX11) (N := 43) hx hb hts i_X11 tyX11 tyX11_ok nmX11 hown hK hP hD hS 0 rfl rfl 1 (by decide) (hts _ kw_1204) (fun _ h9 => h9) rfl (tyX11_ok 1 (by decide)) rfl rfl (Nat.le_of_ble_eq_true rfl) dX11_four_27 (fun H locs hP hD hS => ?_)
  have hP : va_P D vwCl [(h0, .inr (10, (.ref h1 :: .int 3 :: .int 0 :: .ref h2 :: .ref h3 :: .ref h4 :: .ref h5 :: .int 0 :: .int 0 :: .ref h6 :: .ref h7 :: .int 0 :: .int 0 :: .int 0 :: .int 0 :: .int 0 :: .int 0 :: .int 0 :: .ref h8 :: .int 0 :: .ref h9 :: .int 0 :: .ref h10 :: .ref h11 :: .ref h12 :: .ref h13 :: .ref h14 :: .ref h15 :: .ref h16 :: .int 0 :: .ref h17 :: .int 0 :: .ref h18 :: .int 0 :: .int 0 :: .int 0 :: .ref h19 :: .ref h20 :: .ref h21 :: .ref h22 :: .int 0 :: .ref h23 :: .ref h24 :: []))), (h1, .inl (c 2, 400, .inl f_560))] H := hP
  have hD : va_D A [(h0, .inr (10, (.ref h1 :: .int 3 :: .int 0 :: .ref h2 :: .ref h3 :: .ref h4 :: .ref h5 :: .int 0 :: .int 0 :: .ref h6 :: .ref h7 :: .int 0 :: .int 0 :: .int 0 :: .int 0 :: .int 0 :: .int 0 :: .int 0 :: .ref h8 :: .int 0 :: .ref h9 :: .int 0 :: .ref h10 :: .ref h11 :: .ref h12 :: .ref h13 :: .ref h14 :: .ref h15 :: .ref h16 :: .int 0 :: .ref h17 :: .int 0 :: .ref h18 :: .int 0 :: .int 0 :: .int 0 :: .ref h19 :: .ref h20 :: .ref h21 :: .ref h22 :: .int 0 :: .ref h23 :: .ref h24 :: []))), (h1, .inl (c 2, 400, .inl f_560))] := hD
  refine lv_iinc (v := 0) (lv' := [(2, .int 0), (0, .ref h0), (1, .int v0)]) hx hb dX11_four_30 hl (k := 0) rfl (by decide) (by decide) rfl (fun ls hl => ?_)
  refine lv_goto (tgt := 3) hx hb dX11_four_33 (by decide) ?_
  refine lv_iload_n hx hb dX11_four_3 rfl (lv_at hl 0 rfl) ?_
  refine F_if_lt hx hb 36 dX11_four_4 (by decide) (by decide) ?_
  refine lv_aload_n hx hb dX11_four_7 rfl (lv_at hl 1 rfl) ?_
  refine va_get (D := D) (ci := 10) (v := .ref h1) (C := RX11) (T := TX11) (N := 43) hx hb hts i_X11 hown hK hP 0 rfl rfl 0 (by decide) (hts _ kw_1203) (fun _ h9 => h9) rfl dX11_four_8 ?_
  refine lv_aload_n hx hb dX11_four_11 rfl (lv_at hl 1 rfl) ?_
  refine va_get (D := D) (ci := 10) (v := .int 3) (C := RX11) (T := TX11) (N := 43) hx hb hts i_X11 hown hK hP 0 rfl rfl 1 (by decide) (hts _ kw_1204) (fun _ h9 => h9) rfl dX11_four_12 ?_
  refine lv_iload_n hx hb dX11_four_15 rfl (lv_at hl 2 rfl) ?_
  refine lv_iload_n hx hb dX11_four_16 rfl (lv_at hl 0 rfl) ?_
  refine lv_ishr hx hb dX11_four_17 ?_
  refine lv_topi (fun z_561 ez_561 => ?_)
  refine lv_i2b hx hb dX11_four_18 rfl ?_
  refine lv_topi (fun z_562 ez_562 => ?_)
  refine va_bast hx hb hK hP hD hS 1 2 rfl rfl (vpi (by decide)) dX11_four_19 (fun H locs hP hD hS => ?_)
  obtain ⟨f_563, hP, hD⟩ : ∃ f_563 : Nat → Int32, va_P D vwCl [(h0, .inr (10, (.ref h1 :: .int 3 :: .int 0 :: .ref h2 :: .ref h3 :: .ref h4 :: .ref h5 :: .int 0 :: .int 0 :: .ref h6 :: .ref h7 :: .int 0 :: .int 0 :: .int 0 :: .int 0 :: .int 0 :: .int 0 :: .int 0 :: .ref h8 :: .int 0 :: .ref h9 :: .int 0 :: .ref h10 :: .ref h11 :: .ref h12 :: .ref h13 :: .ref h14 :: .ref h15 :: .ref h16 :: .int 0 :: .ref h17 :: .int 0 :: .ref h18 :: .int 0 :: .int 0 :: .int 0 :: .ref h19 :: .ref h20 :: .ref h21 :: .ref h22 :: .int 0 :: .ref h23 :: .ref h24 :: []))), (h1, .inl (c 2, 400, .inl f_563))] H ∧ va_D A [(h0, .inr (10, (.ref h1 :: .int 3 :: .int 0 :: .ref h2 :: .ref h3 :: .ref h4 :: .ref h5 :: .int 0 :: .int 0 :: .ref h6 :: .ref h7 :: .int 0 :: .int 0 :: .int 0 :: .int 0 :: .int 0 :: .int 0 :: .int 0 :: .ref h8 :: .int 0 :: .ref h9 :: .int 0 :: .ref h10 :: .ref h11 :: .ref h12 :: .ref h13 :: .ref h14 :: .ref h15 :: .ref h16 :: .int 0 :: .ref h17 :: .int 0 :: .ref h18 :: .int 0 :: .int 0 :: .int 0 :: .ref h19 :: .ref h20 :: .ref h21 :: .ref h22 :: .int 0 :: .ref h23 :: .ref h24 :: []))), (h1, .inl (c 2, 400, .inl f_563))] := ⟨upd f_560 (Int32.toNatClampNeg 3) (vp_nar .byte z_562), hP, hD⟩
  refine lv_aload_n hx hb dX11_four_20 rfl (lv_at hl 1 rfl) ?_
  refine lv_dup hx hb dX11_four_21 rfl ?_
  refine va_get (D := D) (ci := 10) (v := .int 3) (C := RX11) (T := TX11) (N := 43) hx hb hts i_X11 hown hK hP 0 rfl rfl 1 (by decide) (hts _ kw_1204) (fun _ h9 => h9) rfl dX11_four_22 ?_
  refine lv_iconst (v := 1) hx hb dX11_four_25 (by decide) ?_
  refine lv_iadd hx hb dX11_four_26 ?_
  refine tpi 4 (by decide) ?_
  refine va_put (D := D) (ci := 10) (v := .int 4) (ty := .int) (C := RX11) (T := TX11) (N := 43) hx hb hts i_X11 tyX11 tyX11_ok nmX11 hown hK hP hD hS 0 rfl rfl 1 (by decide) (hts _ kw_1204) (fun _ h9 => h9) rfl (tyX11_ok 1 (by decide)) rfl rfl (Nat.le_of_ble_eq_true rfl) dX11_four_27 (fun H locs hP hD hS => ?_)
  have hP : va_P D vwCl [(h0, .inr (10, (.ref h1 :: .int 4 :: .int 0 :: .ref h2 :: .ref h3 :: .ref h4 :: .ref h5 :: .int 0 :: .int 0 :: .ref h6 :: .ref h7 :: .int 0 :: .int 0 :: .int 0 :: .int 0 :: .int 0 :: .int 0 :: .int 0 :: .ref h8 :: .int 0 :: .ref h9 :: .int 0 :: .ref h10 :: .ref h11 :: .ref h12 :: .ref h13 :: .ref h14 :: .ref h15 :: .ref h16 :: .int 0 :: .ref h17 :: .int 0 :: .ref h18 :: .int 0 :: .int 0 :: .int 0 :: .ref h19 :: .ref h20 :: .ref h21 :: .ref h22 :: .int 0 :: .ref h23 :: .ref h24 :: []))), (h1, .inl (c 2, 400, .inl f_563))] H := hP
  have hD : va_D A [(h0, .inr (10, (.ref h1 :: .int 4 :: .int 0 :: .ref h2 :: .ref h3 :: .ref h4 :: .ref h5 :: .int 0 :: .int 0 :: .ref h6 :: .ref h7 :: .int 0 :: .int 0 :: .int 0 :: .int 0 :: .int 0 :: .int 0 :: .int 0 :: .ref h8 :: .int 0 :: .ref h9 :: .int 0 :: .ref h10 :: .ref h11 :: .ref h12 :: .ref h13 :: .ref h14 :: .ref h15 :: .ref h16 :: .int 0 :: .ref h17 :: .int 0 :: .ref h18 :: .int 0 :: .int 0 :: .int 0 :: .ref h19 :: .ref h20 :: .ref h21 :: .ref h22 :: .int 0 :: .ref h23 :: .ref h24 :: []))), (h1, .inl (c 2, 400, .inl f_563))] := hD
  refine lv_iinc (v := (-8)) (lv' := [(2, .int (-8)), (0, .ref h0), (1, .int v0)]) hx hb dX11_four_30 hl (k := 0) rfl (by decide) (by decide) rfl (fun ls hl => ?_)
  refine lv_goto (tgt := 3) hx hb dX11_four_33 (by decide) ?_
  refine lv_iload_n hx hb dX11_four_3 rfl (lv_at hl 0 rfl) ?_
  refine T_if_lt (tgt := 36) hx hb dX11_four_4 (by decide) (by decide) ?_
  exact retV hx hb hr hlocks hS (by decide) (by decide) dX11_four_36 (fun t ht => ⟨f_563, by rw [ht]; exact hP, hD⟩)
set_option maxHeartbeats 4000000 in
set_option maxRecDepth 100000 in
theorem m17_X11_four (l : Launch) (D : va_G) (c : Nat → ClassId) (h0 h1 h2 h3 h4 h5 h6 h7 h8 h9 h10 h11 h12 h13 h14 h15 h16 h17 h18 h19 h20 h21 h22 h23 h24 : Nat) (sz : Nat) (v0 : Int32) (f0 : Nat → Int32) : Met l yX11_four (Cond.code yX11_four cX11_four 3 none :: TB) ({ frames := 0, cells := 0, slots := 0, locals := 0 } : Room) (va_Pc [.ref h0, .int v0] (PW D c [(h0, .inr (10, (.ref h1 :: .int 4 :: .int 0 :: .ref h2 :: .ref h3 :: .ref h4 :: .ref h5 :: .int 0 :: .int 0 :: .ref h6 :: .ref h7 :: .int 0 :: .int 0 :: .int 0 :: .int 0 :: .int 0 :: .int 0 :: .int 0 :: .ref h8 :: .int 0 :: .ref h9 :: .int 0 :: .ref h10 :: .ref h11 :: .ref h12 :: .ref h13 :: .ref h14 :: .ref h15 :: .ref h16 :: .int 0 :: .ref h17 :: .int 0 :: .ref h18 :: .int 0 :: .int 0 :: .int 0 :: .ref h19 :: .ref h20 :: .ref h21 :: .ref h22 :: .int 0 :: .ref h23 :: .ref h24 :: []))), (h1, .inl (c 2, 400, .inl f0))] sz)) ((QV (fun A t => ∃ (f_588 : Nat → Int32), va_P D vwCl [(h0, .inr (10, (.ref h1 :: .int 8 :: .int 0 :: .ref h2 :: .ref h3 :: .ref h4 :: .ref h5 :: .int 0 :: .int 0 :: .ref h6 :: .ref h7 :: .int 0 :: .int 0 :: .int 0 :: .int 0 :: .int 0 :: .int 0 :: .int 0 :: .ref h8 :: .int 0 :: .ref h9 :: .int 0 :: .ref h10 :: .ref h11 :: .ref h12 :: .ref h13 :: .ref h14 :: .ref h15 :: .ref h16 :: .int 0 :: .ref h17 :: .int 0 :: .ref h18 :: .int 0 :: .int 0 :: .int 0 :: .ref h19 :: .ref h20 :: .ref h21 :: .ref h22 :: .int 0 :: .ref h23 :: .ref h24 :: []))), (h1, .inl (c 2, 400, .inl f_588))] t.heap ∧ va_D A [(h0, .inr (10, (.ref h1 :: .int 8 :: .int 0 :: .ref h2 :: .ref h3 :: .ref h4 :: .ref h5 :: .int 0 :: .int 0 :: .ref h6 :: .ref h7 :: .int 0 :: .int 0 :: .int 0 :: .int 0 :: .int 0 :: .int 0 :: .int 0 :: .ref h8 :: .int 0 :: .ref h9 :: .int 0 :: .ref h10 :: .ref h11 :: .ref h12 :: .ref h13 :: .ref h14 :: .ref h15 :: .ref h16 :: .int 0 :: .ref h17 :: .int 0 :: .ref h18 :: .int 0 :: .int 0 :: .int 0 :: .ref h19 :: .ref h20 :: .ref h21 :: .ref h22 :: .int 0 :: .ref h23 :: .ref h24 :: []))), (h1, .inl (c 2, 400, .inl f_588))])) (va_A [(h0, .inr (10, (.ref h1 :: .int 4 :: .int 0 :: .ref h2 :: .ref h3 :: .ref h4 :: .ref h5 :: .int 0 :: .int 0 :: .ref h6 :: .ref h7 :: .int 0 :: .int 0 :: .int 0 :: .int 0 :: .int 0 :: .int 0 :: .int 0 :: .ref h8 :: .int 0 :: .ref h9 :: .int 0 :: .ref h10 :: .ref h11 :: .ref h12 :: .ref h13 :: .ref h14 :: .ref h15 :: .ref h16 :: .int 0 :: .ref h17 :: .int 0 :: .ref h18 :: .int 0 :: .int 0 :: .int 0 :: .ref h19 :: .ref h20 :: .ref h21 :: .ref h22 :: .int 0 :: .ref h23 :: .ref h24 :: []))), (h1, .inl (c 2, 400, .inl f0))] sz)) 0 0 (va_A [(h0, .inr (10, (.ref h1 :: .int 4 :: .int 0 :: .ref h2 :: .ref h3 :: .ref h4 :: .ref h5 :: .int 0 :: .int 0 :: .ref h6 :: .ref h7 :: .int 0 :: .int 0 :: .int 0 :: .int 0 :: .int 0 :: .int 0 :: .int 0 :: .ref h8 :: .int 0 :: .ref h9 :: .int 0 :: .ref h10 :: .ref h11 :: .ref h12 :: .ref h13 :: .ref h14 :: .ref h15 :: .ref h16 :: .int 0 :: .ref h17 :: .int 0 :: .ref h18 :: .int 0 :: .int 0 :: .int 0 :: .ref h19 :: .ref h20 :: .ref h21 :: .ref h22 :: .int 0 :: .ref h23 :: .ref h24 :: []))), (h1, .inl (c 2, 400, .inl f0))] sz) := by
  refine start (by decide +kernel) (Nat.le_of_ble_eq_true rfl) ?_
  intro p e s m below meth cd A ls hx hb hr hml hts hown hlocks hin hA hS hK hP hD hN hl
  have hown : s.vm.findClass RX11 = some m.cls := hown
  have hl : lv_has ls 3 [(0, .ref h0), (1, .int v0)] := hl
  have hP : va_P D vwCl [(h0, .inr (10, (.ref h1 :: .int 4 :: .int 0 :: .ref h2 :: .ref h3 :: .ref h4 :: .ref h5 :: .int 0 :: .int 0 :: .ref h6 :: .ref h7 :: .int 0 :: .int 0 :: .int 0 :: .int 0 :: .int 0 :: .int 0 :: .int 0 :: .ref h8 :: .int 0 :: .ref h9 :: .int 0 :: .ref h10 :: .ref h11 :: .ref h12 :: .ref h13 :: .ref h14 :: .ref h15 :: .ref h16 :: .int 0 :: .ref h17 :: .int 0 :: .ref h18 :: .int 0 :: .int 0 :: .int 0 :: .ref h19 :: .ref h20 :: .ref h21 :: .ref h22 :: .int 0 :: .ref h23 :: .ref h24 :: []))), (h1, .inl (c 2, 400, .inl f0))] s.heap := hP
  refine lv_bipush (v := 24) hx hb dX11_four_0 (by decide) ?_
  refine lv_istore_n (lv' := [(2, .int 24), (0, .ref h0), (1, .int v0)]) hx hb dX11_four_2 rfl hl (by decide) rfl (fun ls hl => ?_)
  refine lv_iload_n hx hb dX11_four_3 rfl (lv_at hl 0 rfl) ?_
  refine F_if_lt hx hb 36 dX11_four_4 (by decide) (by decide) ?_
  refine lv_aload_n hx hb dX11_four_7 rfl (lv_at hl 1 rfl) ?_
  refine va_get (D := D) (ci := 10) (v := .ref h1) (C := RX11) (T := TX11) (N := 43) hx hb hts i_X11 hown hK hP 0 rfl rfl 0 (by decide) (hts _ kw_1203) (fun _ h9 => h9) rfl dX11_four_8 ?_
  refine lv_aload_n hx hb dX11_four_11 rfl (lv_at hl 1 rfl) ?_
  refine va_get (D := D) (ci := 10) (v := .int 4) (C := RX11) (T := TX11) (N := 43) hx hb hts i_X11 hown hK hP 0 rfl rfl 1 (by decide) (hts _ kw_1204) (fun _ h9 => h9) rfl dX11_four_12 ?_
  refine lv_iload_n hx hb dX11_four_15 rfl (lv_at hl 2 rfl) ?_
  refine lv_iload_n hx hb dX11_four_16 rfl (lv_at hl 0 rfl) ?_
  refine lv_ishr hx hb dX11_four_17 ?_
  refine lv_topi (fun z_577 ez_577 => ?_)
  refine lv_i2b hx hb dX11_four_18 rfl ?_
  refine lv_topi (fun z_578 ez_578 => ?_)
  refine va_bast hx hb hK hP hD hS 1 2 rfl rfl (vpi (by decide)) dX11_four_19 (fun H locs hP hD hS => ?_)
  obtain ⟨f_579, hP, hD⟩ : ∃ f_579 : Nat → Int32, va_P D vwCl [(h0, .inr (10, (.ref h1 :: .int 4 :: .int 0 :: .ref h2 :: .ref h3 :: .ref h4 :: .ref h5 :: .int 0 :: .int 0 :: .ref h6 :: .ref h7 :: .int 0 :: .int 0 :: .int 0 :: .int 0 :: .int 0 :: .int 0 :: .int 0 :: .ref h8 :: .int 0 :: .ref h9 :: .int 0 :: .ref h10 :: .ref h11 :: .ref h12 :: .ref h13 :: .ref h14 :: .ref h15 :: .ref h16 :: .int 0 :: .ref h17 :: .int 0 :: .ref h18 :: .int 0 :: .int 0 :: .int 0 :: .ref h19 :: .ref h20 :: .ref h21 :: .ref h22 :: .int 0 :: .ref h23 :: .ref h24 :: []))), (h1, .inl (c 2, 400, .inl f_579))] H ∧ va_D A [(h0, .inr (10, (.ref h1 :: .int 4 :: .int 0 :: .ref h2 :: .ref h3 :: .ref h4 :: .ref h5 :: .int 0 :: .int 0 :: .ref h6 :: .ref h7 :: .int 0 :: .int 0 :: .int 0 :: .int 0 :: .int 0 :: .int 0 :: .int 0 :: .ref h8 :: .int 0 :: .ref h9 :: .int 0 :: .ref h10 :: .ref h11 :: .ref h12 :: .ref h13 :: .ref h14 :: .ref h15 :: .ref h16 :: .int 0 :: .ref h17 :: .int 0 :: .ref h18 :: .int 0 :: .int 0 :: .int 0 :: .ref h19 :: .ref h20 :: .ref h21 :: .ref h22 :: .int 0 :: .ref h23 :: .ref h24 :: []))), (h1, .inl (c 2, 400, .inl f_579))] := ⟨upd f0 (Int32.toNatClampNeg 4) (vp_nar .byte z_578), hP, hD⟩
  refine lv_aload_n hx hb dX11_four_20 rfl (lv_at hl 1 rfl) ?_
  refine lv_dup hx hb dX11_four_21 rfl ?_
  refine va_get (D := D) (ci := 10) (v := .int 4) (C := RX11) (T := TX11) (N := 43) hx hb hts i_X11 hown hK hP 0 rfl rfl 1 (by decide) (hts _ kw_1204) (fun _ h9 => h9) rfl dX11_four_22 ?_
  refine lv_iconst (v := 1) hx hb dX11_four_25 (by decide) ?_
  refine lv_iadd hx hb dX11_four_26 ?_
  refine tpi 5 (by decide) ?_
  refine va_put (D := D) (ci := 10) (v := .int 5) (ty := .int) (C := RX11) (T := TX11) (N := 43) hx hb hts i_X11 tyX11 tyX11_ok nmX11 hown hK hP hD hS 0 rfl rfl 1 (by decide) (hts _ kw_1204) (fun _ h9 => h9) rfl (tyX11_ok 1 (by decide)) rfl rfl (Nat.le_of_ble_eq_true rfl) dX11_four_27 (fun H locs hP hD hS => ?_)
  have hP : va_P D vwCl [(h0, .inr (10, (.ref h1 :: .int 5 :: .int 0 :: .ref h2 :: .ref h3 :: .ref h4 :: .ref h5 :: .int 0 :: .int 0 :: .ref h6 :: .ref h7 :: .int 0 :: .int 0 :: .int 0 :: .int 0 :: .int 0 :: .int 0 :: .int 0 :: .ref h8 :: .int 0 :: .ref h9 :: .int 0 :: .ref h10 :: .ref h11 :: .ref h12 :: .ref h13 :: .ref h14 :: .ref h15 :: .ref h16 :: .int 0 :: .ref h17 :: .int 0 :: .ref h18 :: .int 0 :: .int 0 :: .int 0 :: .ref h19 :: .ref h20 :: .ref h21 :: .ref h22 :: .int 0 :: .ref h23 :: .ref h24 :: []))), (h1, .inl (c 2, 400, .inl f_579))] H := hP
  have hD : va_D A [(h0, .inr (10, (.ref h1 :: .int 5 :: .int 0 :: .ref h2 :: .ref h3 :: .ref h4 :: .ref h5 :: .int 0 :: .int 0 :: .ref h6 :: .ref h7 :: .int 0 :: .int 0 :: .int 0 :: .int 0 :: .int 0 :: .int 0 :: .int 0 :: .ref h8 :: .int 0 :: .ref h9 :: .int 0 :: .ref h10 :: .ref h11 :: .ref h12 :: .ref h13 :: .ref h14 :: .ref h15 :: .ref h16 :: .int 0 :: .ref h17 :: .int 0 :: .ref h18 :: .int 0 :: .int 0 :: .int 0 :: .ref h19 :: .ref h20 :: .ref h21 :: .ref h22 :: .int 0 :: .ref h23 :: .ref h24 :: []))), (h1, .inl (c 2, 400, .inl f_579))] := hD
  refine lv_iinc (v := 16) (lv' := [(2, .int 16), (0, .ref h0), (1, .int v0)]) hx hb dX11_four_30 hl (k := 0) rfl (by decide) (by decide) rfl (fun ls hl => ?_)
  refine lv_goto (tgt := 3) hx hb dX11_four_33 (by decide) ?_
  refine lv_iload_n hx hb dX11_four_3 rfl (lv_at hl 0 rfl) ?_
  refine F_if_lt hx hb 36 dX11_four_4 (by decide) (by decide) ?_
  refine lv_aload_n hx hb dX11_four_7 rfl (lv_at hl 1 rfl) ?_
  refine va_get (D := D) (ci := 10) (v := .ref h1) (C := RX11) (T := TX11) (N := 43) hx hb hts i_X11 hown hK hP 0 rfl rfl 0 (by decide) (hts _ kw_1203) (fun _ h9 => h9) rfl dX11_four_8 ?_
  refine lv_aload_n hx hb dX11_four_11 rfl (lv_at hl 1 rfl) ?_
  refine va_get (D := D) (ci := 10) (v := .int 5) (C := RX11) (T := TX11) (N := 43) hx hb hts i_X11 hown hK hP 0 rfl rfl 1 (by decide) (hts _ kw_1204) (fun _ h9 => h9) rfl dX11_four_12 ?_
  refine lv_iload_n hx hb dX11_four_15 rfl (lv_at hl 2 rfl) ?_
  refine lv_iload_n hx hb dX11_four_16 rfl (lv_at hl 0 rfl) ?_
  refine lv_ishr hx hb dX11_four_17 ?_
  refine lv_topi (fun z_580 ez_580 => ?_)
  refine lv_i2b hx hb dX11_four_18 rfl ?_
  refine lv_topi (fun z_581 ez_581 => ?_)
  refine va_bast hx hb hK hP hD hS 1 2 rfl rfl (vpi (by decide)) dX11_four_19 (fun H locs hP hD hS => ?_)
  obtain ⟨f_582, hP, hD⟩ : ∃ f_582 : Nat → Int32, va_P D vwCl [(h0, .inr (10, (.ref h1 :: .int 5 :: .int 0 :: .ref h2 :: .ref h3 :: .ref h4 :: .ref h5 :: .int 0 :: .int 0 :: .ref h6 :: .ref h7 :: .int 0 :: .int 0 :: .int 0 :: .int 0 :: .int 0 :: .int 0 :: .int 0 :: .ref h8 :: .int 0 :: .ref h9 :: .int 0 :: .ref h10 :: .ref h11 :: .ref h12 :: .ref h13 :: .ref h14 :: .ref h15 :: .ref h16 :: .int 0 :: .ref h17 :: .int 0 :: .ref h18 :: .int 0 :: .int 0 :: .int 0 :: .ref h19 :: .ref h20 :: .ref h21 :: .ref h22 :: .int 0 :: .ref h23 :: .ref h24 :: []))), (h1, .inl (c 2, 400, .inl f_582))] H ∧ va_D A [(h0, .inr (10, (.ref h1 :: .int 5 :: .int 0 :: .ref h2 :: .ref h3 :: .ref h4 :: .ref h5 :: .int 0 :: .int 0 :: .ref h6 :: .ref h7 :: .int 0 :: .int 0 :: .int 0 :: .int 0 :: .int 0 :: .int 0 :: .int 0 :: .ref h8 :: .int 0 :: .ref h9 :: .int 0 :: .ref h10 :: .ref h11 :: .ref h12 :: .ref h13 :: .ref h14 :: .ref h15 :: .ref h16 :: .int 0 :: .ref h17 :: .int 0 :: .ref h18 :: .int 0 :: .int 0 :: .int 0 :: .ref h19 :: .ref h20 :: .ref h21 :: .ref h22 :: .int 0 :: .ref h23 :: .ref h24 :: []))), (h1, .inl (c 2, 400, .inl f_582))] := ⟨upd f_579 (Int32.toNatClampNeg 5) (vp_nar .byte z_581), hP, hD⟩
  refine lv_aload_n hx hb dX11_four_20 rfl (lv_at hl 1 rfl) ?_
  refine lv_dup hx hb dX11_four_21 rfl ?_
  refine va_get (D := D) (ci := 10) (v := .int 5) (C := RX11) (T := TX11) (N := 43) hx hb hts i_X11 hown hK hP 0 rfl rfl 1 (by decide) (hts _ kw_1204) (fun _ h9 => h9) rfl dX11_four_22 ?_
  refine lv_iconst (v := 1) hx hb dX11_four_25 (by decide) ?_
  refine lv_iadd hx hb dX11_four_26 ?_
  refine tpi 6 (by decide) ?_
  refine va_put (D := D) (ci := 10) (v := .int 6) (ty := .int) (C := RX11) (T := TX11) (N := 43) hx hb hts i_X11 tyX11 tyX11_ok nmX11 hown hK hP hD hS 0 rfl rfl 1 (by decide) (hts _ kw_1204) (fun _ h9 => h9) rfl (tyX11_ok 1 (by decide)) rfl rfl (Nat.le_of_ble_eq_true rfl) dX11_four_27 (fun H locs hP hD hS => ?_)
  have hP : va_P D vwCl [(h0, .inr (10, (.ref h1 :: .int 6 :: .int 0 :: .ref h2 :: .ref h3 :: .ref h4 :: .ref h5 :: .int 0 :: .int 0 :: .ref h6 :: .ref h7 :: .int 0 :: .int 0 :: .int 0 :: .int 0 :: .int 0 :: .int 0 :: .int 0 :: .ref h8 :: .int 0 :: .ref h9 :: .int 0 :: .ref h10 :: .ref h11 :: .ref h12 :: .ref h13 :: .ref h14 :: .ref h15 :: .ref h16 :: .int 0 :: .ref h17 :: .int 0 :: .ref h18 :: .int 0 :: .int 0 :: .int 0 :: .ref h19 :: .ref h20 :: .ref h21 :: .ref h22 :: .int 0 :: .ref h23 :: .ref h24 :: []))), (h1, .inl (c 2, 400, .inl f_582))] H := hP
  have hD : va_D A [(h0, .inr (10, (.ref h1 :: .int 6 :: .int 0 :: .ref h2 :: .ref h3 :: .ref h4 :: .ref h5 :: .int 0 :: .int 0 :: .ref h6 :: .ref h7 :: .int 0 :: .int 0 :: .int 0 :: .int 0 :: .int 0 :: .int 0 :: .int 0 :: .ref h8 :: .int 0 :: .ref h9 :: .int 0 :: .ref h10 :: .ref h11 :: .ref h12 :: .ref h13 :: .ref h14 :: .ref h15 :: .ref h16 :: .int 0 :: .ref h17 :: .int 0 :: .ref h18 :: .int 0 :: .int 0 :: .int 0 :: .ref h19 :: .ref h20 :: .ref h21 :: .ref h22 :: .int 0 :: .ref h23 :: .ref h24 :: []))), (h1, .inl (c 2, 400, .inl f_582))] := hD
  refine lv_iinc (v := 8) (lv' := [(2, .int 8), (0, .ref h0), (1, .int v0)]) hx hb dX11_four_30 hl (k := 0) rfl (by decide) (by decide) rfl (fun ls hl => ?_)
  refine lv_goto (tgt := 3) hx hb dX11_four_33 (by decide) ?_
  refine lv_iload_n hx hb dX11_four_3 rfl (lv_at hl 0 rfl) ?_
  refine F_if_lt hx hb 36 dX11_four_4 (by decide) (by decide) ?_
  refine lv_aload_n hx hb dX11_four_7 rfl (lv_at hl 1 rfl) ?_
  refine va_get (D := D) (ci := 10) (v := .ref h1) (C := RX11) (T := TX11) (N := 43) hx hb hts i_X11 hown hK hP 0 rfl rfl 0 (by decide) (hts _ kw_1203) (fun _ h9 => h9) rfl dX11_four_8 ?_
  refine lv_aload_n hx hb dX11_four_11 rfl (lv_at hl 1 rfl) ?_
  refine va_get (D := D) (ci := 10) (v := .int 6) (C := RX11) (T := TX11) (N := 43) hx hb hts i_X11 hown hK hP 0 rfl rfl 1 (by decide) (hts _ kw_1204) (fun _ h9 => h9) rfl dX11_four_12 ?_
  refine lv_iload_n hx hb dX11_four_15 rfl (lv_at hl 2 rfl) ?_
  refine lv_iload_n hx hb dX11_four_16 rfl (lv_at hl 0 rfl) ?_
  refine lv_ishr hx hb dX11_four_17 ?_
  refine lv_topi (fun z_583 ez_583 => ?_)
  refine lv_i2b hx hb dX11_four_18 rfl ?_
  refine lv_topi (fun z_584 ez_584 => ?_)
  refine va_bast hx hb hK hP hD hS 1 2 rfl rfl (vpi (by decide)) dX11_four_19 (fun H locs hP hD hS => ?_)
  obtain ⟨f_585, hP, hD⟩ : ∃ f_585 : Nat → Int32, va_P D vwCl [(h0, .inr (10, (.ref h1 :: .int 6 :: .int 0 :: .ref h2 :: .ref h3 :: .ref h4 :: .ref h5 :: .int 0 :: .int 0 :: .ref h6 :: .ref h7 :: .int 0 :: .int 0 :: .int 0 :: .int 0 :: .int 0 :: .int 0 :: .int 0 :: .ref h8 :: .int 0 :: .ref h9 :: .int 0 :: .ref h10 :: .ref h11 :: .ref h12 :: .ref h13 :: .ref h14 :: .ref h15 :: .ref h16 :: .int 0 :: .ref h17 :: .int 0 :: .ref h18 :: .int 0 :: .int 0 :: .int 0 :: .ref h19 :: .ref h20 :: .ref h21 :: .ref h22 :: .int 0 :: .ref h23 :: .ref h24 :: []))), (h1, .inl (c 2, 400, .inl f_585))] H ∧ va_D A [(h0, .inr (10, (.ref h1 :: .int 6 :: .int 0 :: .ref h2 :: .ref h3 :: .ref h4 :: .ref h5 :: .int 0 :: .int 0 :: .ref h6 :: .ref h7 :: .int 0 :: .int 0 :: .int 0 :: .int 0 :: .int 0 :: .int 0 :: .int 0 :: .ref h8 :: .int 0 :: .ref h9 :: .int 0 :: .ref h10 :: .ref h11 :: .ref h12 :: .ref h13 :: .ref h14 :: .ref h15 :: .ref h16 :: .int 0 :: .ref h17 :: .int 0 :: .ref h18 :: .int 0 :: .int 0 :: .int 0 :: .ref h19 :: .ref h20 :: .ref h21 :: .ref h22 :: .int 0 :: .ref h23 :: .ref h24 :: []))), (h1, .inl (c 2, 400, .inl f_585))] := ⟨upd f_582 (Int32.toNatClampNeg 6) (vp_nar .byte z_584), hP, hD⟩
  refine lv_aload_n hx hb dX11_four_20 rfl (lv_at hl 1 rfl) ?_
  refine lv_dup hx hb dX11_four_21 rfl ?_
  refine va_get (D := D) (ci := 10) (v := .int 6) (C := RX11) (T := TX11) (N := 43) hx hb hts i_X11 hown hK hP 0 rfl rfl 1 (by decide) (hts _ kw_1204) (fun _ h9 => h9) rfl dX11_four_22 ?_
  refine lv_iconst (v := 1) hx hb dX11_four_25 (by decide) ?_
  refine lv_iadd hx hb dX11_four_26 ?_
  refine tpi 7 (by decide) ?_
  refine va_put (D := D) (ci := 10) (v := .int 7) (ty := .int) (C := RX11) (T := TX11) (N := 43) hx hb hts i_X11 tyX11 tyX11_ok nmX11 hown hK hP hD hS 0 rfl rfl 1 (by decide) (hts _ kw_1204) (fun _ h9 => h9) rfl (tyX11_ok 1 (by decide)) rfl rfl (Nat.le_of_ble_eq_true rfl) dX11_four_27 (fun H locs hP hD hS => ?_)
  have hP : va_P D vwCl [(h0, .inr (10, (.ref h1 :: .int 7 :: .int 0 :: .ref h2 :: .ref h3 :: .ref h4 :: .ref h5 :: .int 0 :: .int 0 :: .ref h6 :: .ref h7 :: .int 0 :: .int 0 :: .int 0 :: .int 0 :: .int 0 :: .int 0 :: .int 0 :: .ref h8 :: .int 0 :: .ref h9 :: .int 0 :: .ref h10 :: .ref h11 :: .ref h12 :: .ref h13 :: .ref h14 :: .ref h15 :: .ref h16 :: .int 0 :: .ref h17 :: .int 0 :: .ref h18 :: .int 0 :: .int 0 :: .int 0 :: .ref h19 :: .ref h20 :: .ref h21 :: .ref h22 :: .int 0 :: .ref h23 :: .ref h24 :: []))), (h1, .inl (c 2, 400, .inl f_585))] H := hP
  have hD : va_D A [(h0, .inr (10, (.ref h1 :: .int 7 :: .int 0 :: .ref h2 :: .ref h3 :: .ref h4 :: .ref h5 :: .int 0 :: .int 0 :: .ref h6 :: .ref h7 :: .int 0 :: .int 0 :: .int 0 :: .int 0 :: .int 0 :: .int 0 :: .int 0 :: .ref h8 :: .int 0 :: .ref h9 :: .int 0 :: .ref h10 :: .ref h11 :: .ref h12 :: .ref h13 :: .ref h14 :: .ref h15 :: .ref h16 :: .int 0 :: .ref h17 :: .int 0 :: .ref h18 :: .int 0 :: .int 0 :: .int 0 :: .ref h19 :: .ref h20 :: .ref h21 :: .ref h22 :: .int 0 :: .ref h23 :: .ref h24 :: []))), (h1, .inl (c 2, 400, .inl f_585))] := hD
  refine lv_iinc (v := 0) (lv' := [(2, .int 0), (0, .ref h0), (1, .int v0)]) hx hb dX11_four_30 hl (k := 0) rfl (by decide) (by decide) rfl (fun ls hl => ?_)
  refine lv_goto (tgt := 3) hx hb dX11_four_33 (by decide) ?_
  refine lv_iload_n hx hb dX11_four_3 rfl (lv_at hl 0 rfl) ?_
  refine F_if_lt hx hb 36 dX11_four_4 (by decide) (by decide) ?_
  refine lv_aload_n hx hb dX11_four_7 rfl (lv_at hl 1 rfl) ?_
  refine va_get (D := D) (ci := 10) (v := .ref h1) (C := RX11) (T := TX11) (N := 43) hx hb hts i_X11 hown hK hP 0 rfl rfl 0 (by decide) (hts _ kw_1203) (fun _ h9 => h9) rfl dX11_four_8 ?_
  refine lv_aload_n hx hb dX11_four_11 rfl (lv_at hl 1 rfl) ?_
  refine va_get (D := D) (ci := 10) (v := .int 7) (C := RX11) (T := TX11) (N := 43) hx hb hts i_X11 hown hK hP 0 rfl rfl 1 (by decide) (hts _ kw_1204) (fun _ h9 => h9) rfl dX11_four_12 ?_
  refine lv_iload_n hx hb dX11_four_15 rfl (lv_at hl 2 rfl) ?_
  refine lv_iload_n hx hb dX11_four_16 rfl (lv_at hl 0 rfl) ?_
  refine lv_ishr hx hb dX11_four_17 ?_
  refine lv_topi (fun z_586 ez_586 => ?_)
  refine lv_i2b hx hb dX11_four_18 rfl ?_
  refine lv_topi (fun z_587 ez_587 => ?_)
  refine va_bast hx hb hK hP hD hS 1 2 rfl rfl (vpi (by decide)) dX11_four_19 (fun H locs hP hD hS => ?_)
  obtain ⟨f_588, hP, hD⟩ : ∃ f_588 : Nat → Int32, va_P D vwCl [(h0, .inr (10, (.ref h1 :: .int 7 :: .int 0 :: .ref h2 :: .ref h3 :: .ref h4 :: .ref h5 :: .int 0 :: .int 0 :: .ref h6 :: .ref h7 :: .int 0 :: .int 0 :: .int 0 :: .int 0 :: .int 0 :: .int 0 :: .int 0 :: .ref h8 :: .int 0 :: .ref h9 :: .int 0 :: .ref h10 :: .ref h11 :: .ref h12 :: .ref h13 :: .ref h14 :: .ref h15 :: .ref h16 :: .int 0 :: .ref h17 :: .int 0 :: .ref h18 :: .int 0 :: .int 0 :: .int 0 :: .ref h19 :: .ref h20 :: .ref h21 :: .ref h22 :: .int 0 :: .ref h23 :: .ref h24 :: []))), (h1, .inl (c 2, 400, .inl f_588))] H ∧ va_D A [(h0, .inr (10, (.ref h1 :: .int 7 :: .int 0 :: .ref h2 :: .ref h3 :: .ref h4 :: .ref h5 :: .int 0 :: .int 0 :: .ref h6 :: .ref h7 :: .int 0 :: .int 0 :: .int 0 :: .int 0 :: .int 0 :: .int 0 :: .int 0 :: .ref h8 :: .int 0 :: .ref h9 :: .int 0 :: .ref h10 :: .ref h11 :: .ref h12 :: .ref h13 :: .ref h14 :: .ref h15 :: .ref h16 :: .int 0 :: .ref h17 :: .int 0 :: .ref h18 :: .int 0 :: .int 0 :: .int 0 :: .ref h19 :: .ref h20 :: .ref h21 :: .ref h22 :: .int 0 :: .ref h23 :: .ref h24 :: []))), (h1, .inl (c 2, 400, .inl f_588))] := ⟨upd f_585 (Int32.toNatClampNeg 7) (vp_nar .byte z_587), hP, hD⟩
  refine lv_aload_n hx hb dX11_four_20 rfl (lv_at hl 1 rfl) ?_
  refine lv_dup hx hb dX11_four_21 rfl ?_
  refine va_get (D := D) (ci := 10) (v := .int 7) (C := RX11) (T := TX11) (N := 43) hx hb hts i_X11 hown hK hP 0 rfl rfl 1 (by decide) (hts _ kw_1204) (fun _ h9 => h9) rfl dX11_four_22 ?_
  refine lv_iconst (v := 1) hx hb dX11_four_25 (by decide) ?_
  refine lv_iadd hx hb dX11_four_26 ?_
  refine tpi 8 (by decide) ?_
  refine va_put (D := D) (ci := 10) (v := .int 8) (ty := .int) (C := RX11) (T := TX11) (N := 43) hx hb hts i_X11 tyX11 tyX11_ok nmX11 hown hK hP hD hS 0 rfl rfl 1 (by decide) (hts _ kw_1204) (fun _ h9 => h9) rfl (tyX11_ok 1 (by decide)) rfl rfl (Nat.le_of_ble_eq_true rfl) dX11_four_27 (fun H locs hP hD hS => ?_)
  have hP : va_P D vwCl [(h0, .inr (10, (.ref h1 :: .int 8 :: .int 0 :: .ref h2 :: .ref h3 :: .ref h4 :: .ref h5 :: .int 0 :: .int 0 :: .ref h6 :: .ref h7 :: .int 0 :: .int 0 :: .int 0 :: .int 0 :: .int 0 :: .int 0 :: .int 0 :: .ref h8 :: .int 0 :: .ref h9 :: .int 0 :: .ref h10 :: .ref h11 :: .ref h12 :: .ref h13 :: .ref h14 :: .ref h15 :: .ref h16 :: .int 0 :: .ref h17 :: .int 0 :: .ref h18 :: .int 0 :: .int 0 :: .int 0 :: .ref h19 :: .ref h20 :: .ref h21 :: .ref h22 :: .int 0 :: .ref h23 :: .ref h24 :: []))), (h1, .inl (c 2, 400, .inl f_588))] H := hP
  have hD : va_D A [(h0, .inr (10, (.ref h1 :: .int 8 :: .int 0 :: .ref h2 :: .ref h3 :: .ref h4 :: .ref h5 :: .int 0 :: .int 0 :: .ref h6 :: .ref h7 :: .int 0 :: .int 0 :: .int 0 :: .int 0 :: .int 0 :: .int 0 :: .int 0 :: .ref h8 :: .int 0 :: .ref h9 :: .int 0 :: .ref h10 :: .ref h11 :: .ref h12 :: .ref h13 :: .ref h14 :: .ref h15 :: .ref h16 :: .int 0 :: .ref h17 :: .int 0 :: .ref h18 :: .int 0 :: .int 0 :: .int 0 :: .ref h19 :: .ref h20 :: .ref h21 :: .ref h22 :: .int 0 :: .ref h23 :: .ref h24 :: []))), (h1, .inl (c 2, 400, .inl f_588))] := hD
  refine lv_iinc (v := (-8)) (lv' := [(2, .int (-8)), (0, .ref h0), (1, .int v0)]) hx hb dX11_four_30 hl (k := 0) rfl (by decide) (by decide) rfl (fun ls hl => ?_)
  refine lv_goto (tgt := 3) hx hb dX11_four_33 (by decide) ?_
  refine lv_iload_n hx hb dX11_four_3 rfl (lv_at hl 0 rfl) ?_
  refine T_if_lt (tgt := 36) hx hb dX11_four_4 (by decide) (by decide) ?_
  exact retV hx hb hr hlocks hS (by decide) (by decide) dX11_four_36 (fun t ht => ⟨f_588, by rw [ht]; exact hP, hD⟩)
set_option maxHeartbeats 4000000 in
set_option maxRecDepth 100000 in
theorem m18_X11_four (l : Launch) (D : va_G) (c : Nat → ClassId) (h0 h1 h2 h3 h4 h5 h6 h7 h8 h9 h10 h11 h12 h13 h14 h15 h16 h17 h18 h19 h20 h21 h22 h23 h24 : Nat) (sz : Nat) (v0 : Int32) (f0 : Nat → Int32) : Met l yX11_four (Cond.code yX11_four cX11_four 3 none :: TB) ({ frames := 0, cells := 0, slots := 0, locals := 0 } : Room) (va_Pc [.ref h0, .int v0] (PW D c [(h0, .inr (10, (.ref h1 :: .int 8 :: .int 0 :: .ref h2 :: .ref h3 :: .ref h4 :: .ref h5 :: .int 0 :: .int 0 :: .ref h6 :: .ref h7 :: .int 0 :: .int 0 :: .int 0 :: .int 0 :: .int 0 :: .int 0 :: .int 0 :: .ref h8 :: .int 0 :: .ref h9 :: .int 0 :: .ref h10 :: .ref h11 :: .ref h12 :: .ref h13 :: .ref h14 :: .ref h15 :: .ref h16 :: .int 0 :: .ref h17 :: .int 0 :: .ref h18 :: .int 0 :: .int 0 :: .int 0 :: .ref h19 :: .ref h20 :: .ref h21 :: .ref h22 :: .int 0 :: .ref h23 :: .ref h24 :: []))), (h1, .inl (c 2, 400, .inl f0))] sz)) ((QV (fun A t => ∃ (f_613 : Nat → Int32), va_P D vwCl [(h0, .inr (10, (.ref h1 :: .int 12 :: .int 0 :: .ref h2 :: .ref h3 :: .ref h4 :: .ref h5 :: .int 0 :: .int 0 :: .ref h6 :: .ref h7 :: .int 0 :: .int 0 :: .int 0 :: .int 0 :: .int 0 :: .int 0 :: .int 0 :: .ref h8 :: .int 0 :: .ref h9 :: .int 0 :: .ref h10 :: .ref h11 :: .ref h12 :: .ref h13 :: .ref h14 :: .ref h15 :: .ref h16 :: .int 0 :: .ref h17 :: .int 0 :: .ref h18 :: .int 0 :: .int 0 :: .int 0 :: .ref h19 :: .ref h20 :: .ref h21 :: .ref h22 :: .int 0 :: .ref h23 :: .ref h24 :: []))), (h1, .inl (c 2, 400, .inl f_613))] t.heap ∧ va_D A [(h0, .inr (10, (.ref h1 :: .int 12 :: .int 0 :: .ref h2 :: .ref h3 :: .ref h4 :: .ref h5 :: .int 0 :: .int 0 :: .ref h6 :: .ref h7 :: .int 0 :: .int 0 :: .int 0 :: .int 0 :: .int 0 :: .int 0 :: .int 0 :: .ref h8 :: .int 0 :: .ref h9 :: .int 0 :: .ref h10 :: .ref h11 :: .ref h12 :: .ref h13 :: .ref h14 :: .ref h15 :: .ref h16 :: .int 0 :: .ref h17 :: .int 0 :: .ref h18 :: .int 0 :: .int 0 :: .int 0 :: .ref h19 :: .ref h20 :: .ref h21 :: .ref h22 :: .int 0 :: .ref h23 :: .ref h24 :: []))), (h1, .inl (c 2, 400, .inl f_613))])) (va_A [(h0, .inr (10, (.ref h1 :: .int 8 :: .int 0 :: .ref h2 :: .ref h3 :: .ref h4 :: .ref h5 :: .int 0 :: .int 0 :: .ref h6 :: .ref h7 :: .int 0 :: .int 0 :: .int 0 :: .int 0 :: .int 0 :: .int 0 :: .int 0 :: .ref h8 :: .int 0 :: .ref h9 :: .int 0 :: .ref h10 :: .ref h11 :: .ref h12 :: .ref h13 :: .ref h14 :: .ref h15 :: .ref h16 :: .int 0 :: .ref h17 :: .int 0 :: .ref h18 :: .int 0 :: .int 0 :: .int 0 :: .ref h19 :: .ref h20 :: .ref h21 :: .ref h22 :: .int 0 :: .ref h23 :: .ref h24 :: []))), (h1, .inl (c 2, 400, .inl f0))] sz)) 0 0 (va_A [(h0, .inr (10, (.ref h1 :: .int 8 :: .int 0 :: .ref h2 :: .ref h3 :: .ref h4 :: .ref h5 :: .int 0 :: .int 0 :: .ref h6 :: .ref h7 :: .int 0 :: .int 0 :: .int 0 :: .int 0 :: .int 0 :: .int 0 :: .int 0 :: .ref h8 :: .int 0 :: .ref h9 :: .int 0 :: .ref h10 :: .ref h11 :: .ref h12 :: .ref h13 :: .ref h14 :: .ref h15 :: .ref h16 :: .int 0 :: .ref h17 :: .int 0 :: .ref h18 :: .int 0 :: .int 0 :: .int 0 :: .ref h19 :: .ref h20 :: .ref h21 :: .ref h22 :: .int 0 :: .ref h23 :: .ref h24 :: []))), (h1, .inl (c 2, 400, .inl f0))] sz) := by
  refine start (by decide +kernel) (Nat.le_of_ble_eq_true rfl) ?_
  intro p e s m below meth cd A ls hx hb hr hml hts hown hlocks hin hA hS hK hP hD hN hl
  have hown : s.vm.findClass RX11 = some m.cls := hown
  have hl : lv_has ls 3 [(0, .ref h0), (1, .int v0)] := hl
  have hP : va_P D vwCl [(h0, .inr (10, (.ref h1 :: .int 8 :: .int 0 :: .ref h2 :: .ref h3 :: .ref h4 :: .ref h5 :: .int 0 :: .int 0 :: .ref h6 :: .ref h7 :: .int 0 :: .int 0 :: .int 0 :: .int 0 :: .int 0 :: .int 0 :: .int 0 :: .ref h8 :: .int 0 :: .ref h9 :: .int 0 :: .ref h10 :: .ref h11 :: .ref h12 :: .ref h13 :: .ref h14 :: .ref h15 :: .ref h16 :: .int 0 :: .ref h17 :: .int 0 :: .ref h18 :: .int 0 :: .int 0 :: .int 0 :: .ref h19 :: .ref h20 :: .ref h21 :: .ref h22 :: .int 0 :: .ref h23 :: .ref h24 :: []))), (h1, .inl (c 2, 400, .inl f0))] s.heap := hP
  refine lv_bipush (v := 24) hx hb dX11_four_0 (by decide) ?_
  refine lv_istore_n (lv' := [(2, .int 24), (0, .ref h0), (1, .int v0)]) hx hb dX11_four_2 rfl hl (by decide) rfl (fun ls hl => ?_)
  refine lv_iload_n hx hb dX11_four_3 rfl (lv_at hl 0 rfl) ?_
  refine F_if_lt hx hb 36 dX11_four_4 (by decide) (by decide) ?_
  refine lv_aload_n hx hb dX11_four_7 rfl (lv_at hl 1 rfl) ?_
  refine va_get (D := D) (ci := 10) (v := .ref h1) (C := RX11) (T := TX11) (N := 43) hx hb hts i_X11 hown hK hP 0 rfl rfl 0 (by decide) (hts _ kw_1203) (fun _ h9 => h9) rfl dX11_four_8 ?_
  refine lv_aload_n hx hb dX11_four_11 rfl (lv_at hl 1 rfl) ?_
  refine va_get (D := D) (ci := 10) (v := .int 8) (C := RX11) (T := TX11) (N := 43) hx hb hts i_X11 hown hK hP 0 rfl rfl 1 (by decide) (hts _ kw_1204) (fun _ h9 => h9) rfl dX11_four_12 ?_
  refine lv_iload_n hx hb dX11_four_15 rfl (lv_at hl 2 rfl) ?_
  refine lv_iload_n hx hb dX11_four_16 rfl (lv_at hl 0 rfl) ?_
  refine lv_ishr hx hb dX11_four_17 ?_
  refine lv_topi (fun z_602 ez_602 => ?_)
  refine lv_i2b hx hb dX11_four_18 rfl ?_
  refine lv_topi (fun z_603 ez_603 => ?_)
  refine va_bast hx hb hK hP hD hS 1 2 rfl rfl (vpi (by decide)) dX11_four_19 (fun H locs hP hD hS => ?_)
  obtain ⟨f_604, hP, hD⟩ : ∃ f_604 : Nat → Int32, va_P D vwCl [(h0, .inr (10, (.ref h1 :: .int 8 :: .int 0 :: .ref h2 :: .ref h3 :: .ref h4 :: .ref h5 :: .int 0 :: .int 0 :: .ref h6 :: .ref h7 :: .int 0 :: .int 0 :: .int 0 :: .int 0 :: .int 0 :: .int 0 :: .int 0 :: .ref h8 :: .int 0 :: .ref h9 :: .int 0 :: .ref h10 :: .ref h11 :: .ref h12 :: .ref h13 :: .ref h14 :: .ref h15 :: .ref h16 :: .int 0 :: .ref h17 :: .int 0 :: .ref h18 :: .int 0 :: .int 0 :: .int 0 :: .ref h19 :: .ref h20 :: .ref h21 :: .ref h22 :: .int 0 :: .ref h23 :: .ref h24 :: []))), (h1, .inl (c 2, 400, .inl f_604))] H ∧ va_D A [(h0, .inr (10, (.ref h1 :: .int 8 :: .int 0 :: .ref h2 :: .ref h3 :: .ref h4 :: .ref h5 :: .int 0 :: .int 0 :: .ref h6 :: .ref h7 :: .int 0 :: .int 0 :: .int 0 :: .int 0 :: .int 0 :: .int 0 :: .int 0 :: .ref h8 :: .int 0 :: .ref h9 :: .int 0 :: .ref h10 :: .ref h11 :: .ref h12 :: .ref h13 :: .ref h14 :: .ref h15 :: .ref h16 :: .int 0 :: .ref h17 :: .int 0 :: .ref h18 :: .int 0 :: .int 0 :: .int 0 :: .ref h19 :: .ref h20 :: .ref h21 :: .ref h22 :: .int 0 :: .ref h23 :: .ref h24 :: []))), (h1, .inl (c 2, 400, .inl f_604))] := ⟨upd f0 (Int32.toNatClampNeg 8) (vp_nar .byte z_603), hP, hD⟩
  refine lv_aload_n hx hb dX11_four_20 rfl (lv_at hl 1 rfl) ?_
  refine lv_dup hx hb dX11_four_21 rfl ?_
  refine va_get (D := D) (ci := 10) (v := .int 8) (C := RX11) (T := TX11) (N := 43) hx hb hts i_X11 hown hK hP 0 rfl rfl 1 (by decide) (hts _ kw_1204) (fun _ h9 => h9) rfl dX11_four_22 ?_
  refine lv_iconst (v := 1) hx hb dX11_four_25 (by decide) ?_
  refine lv_iadd hx hb dX11_four_26 ?_
  refine tpi 9 (by decide) ?_
  refine va_put (D := D) (ci := 10) (v := .int 9) (ty := .int) (C := RX11) (T := TX11) (N := 43) hx hb hts i_X11 tyX11 tyX11_ok nmX11 hown hK hP hD hS 0 rfl rfl 1 (by decide) (hts _ kw_1204) (fun _ h9 => h9) rfl (tyX11_ok 1 (by decide)) rfl rfl (Nat.le_of_ble_eq_true rfl) dX11_four_27 (fun H locs hP hD hS => ?_)
  have hP : va_P D vwCl [(h0, .inr (10, (.ref h1 :: .int 9 :: .int 0 :: .ref h2 :: .ref h3 :: .ref h4 :: .ref h5 :: .int 0 :: .int 0 :: .ref h6 :: .ref h7 :: .int 0 :: .int 0 :: .int 0 :: .int 0 :: .int 0 :: .int 0 :: .int 0 :: .ref h8 :: .int 0 :: .ref h9 :: .int 0 :: .ref h10 :: .ref h11 :: .ref h12 :: .ref h13 :: .ref h14 :: .ref h15 :: .ref h16 :: .int 0 :: .ref h17 :: .int 0 :: .ref h18 :: .int 0 :: .int 0 :: .int 0 :: .ref h19 :: .ref h20 :: .ref h21 :: .ref h22 :: .int 0 :: .ref h23 :: .ref h24 :: []))), (h1, .inl (c 2, 400, .inl f_604))] H := hP
  have hD : va_D A [(h0, .inr (10, (.ref h1 :: .int 9 :: .int 0 :: .ref h2 :: .ref h3 :: .ref h4 :: .ref h5 :: .int 0 :: .int 0 :: .ref h6 :: .ref h7 :: .int 0 :: .int 0 :: .int 0 :: .int 0 :: .int 0 :: .int 0 :: .int 0 :: .ref h8 :: .int 0 :: .ref h9 :: .int 0 :: .ref h10 :: .ref h11 :: .ref h12 :: .ref h13 :: .ref h14 :: .ref h15 :: .ref h16 :: .int 0 :: .ref h17 :: .int 0 :: .ref h18 :: .int 0 :: .int 0 :: .int 0 :: .ref h19 :: .ref h20 :: .ref h21 :: .ref h22 :: .int 0 :: .ref h23 :: .ref h24 :: []))), (h1, .inl (c 2, 400, .inl f_604))] := hD
  refine lv_iinc (v := 16) (lv' := [(2, .int 16), (0, .ref h0), (1, .int v0)]) hx hb dX11_four_30 hl (k := 0) rfl (by decide) (by decide) rfl (fun ls hl => ?_)
  refine lv_goto (tgt := 3) hx hb dX11_four_33 (by decide) ?_
  refine lv_iload_n hx hb dX11_four_3 rfl (lv_at hl 0 rfl) ?_
  refine F_if_lt hx hb 36 dX11_four_4 (by decide) (by decide) ?_
  refine lv_aload_n hx hb dX11_four_7 rfl (lv_at hl 1 rfl) ?_
  refine va_get (D := D) (ci := 10) (v := .ref h1) (C := RX11) (T := TX11) (N := 43) hx hb hts i_X11 hown hK hP 0 rfl rfl 0 (by decide) (hts _ kw_1203) (fun _ h9 => h9) rfl dX11_four_8 ?_
  refine lv_aload_n hx hb dX11_four_11 rfl (lv_at hl 1 rfl) ?_
  refine va_get (D := D) (ci := 10) (v := .int 9) (C := RX11) (T := TX11) (N := 43) hx hb hts i_X11 hown hK hP 0 rfl rfl 1 (by decide) (hts _ kw_1204) (fun _ h9 => h9) rfl dX11_four_12 ?_
  refine lv_iload_n hx hb dX11_four_15 rfl (lv_at hl 2 rfl) ?_
  refine lv_iload_n hx hb dX11_four_16 rfl (lv_at hl 0 rfl) ?_
  refine lv_ishr hx hb dX11_four_17 ?_
  refine lv_topi (fun z_605 ez_605 => ?_)
  refine lv_i2b hx hb dX11_four_18 rfl ?_
  refine lv_topi (fun z_606 ez_606 => ?_)
  refine va_bast hx hb hK hP hD hS 1 2 rfl rfl (vpi (by decide)) dX11_four_19 (fun H locs hP hD hS => ?_)
  obtain ⟨f_607, hP, hD⟩ : ∃ f_607 : Nat → Int32, va_P D vwCl [(h0, .inr (10, (.ref h1 :: .int 9 :: .int 0 :: .ref h2 :: .ref h3 :: .ref h4 :: .ref h5 :: .int 0 :: .int 0 :: .ref h6 :: .ref h7 :: .int 0 :: .int 0 :: .int 0 :: .int 0 :: .int 0 :: .int 0 :: .int 0 :: .ref h8 :: .int 0 :: .ref h9 :: .int 0 :: .ref h10 :: .ref h11 :: .ref h12 :: .ref h13 :: .ref h14 :: .ref h15 :: .ref h16 :: .int 0 :: .ref h17 :: .int 0 :: .ref h18 :: .int 0 :: .int 0 :: .int 0 :: .ref h19 :: .ref h20 :: .ref h21 :: .ref h22 :: .int 0 :: .ref h23 :: .ref h24 :: []))), (h1, .inl (c 2, 400, .inl f_607))] H ∧ va_D A [(h0, .inr (10, (.ref h1 :: .int 9 :: .int 0 :: .ref h2 :: .ref h3 :: .ref h4 :: .ref h5 :: .int 0 :: .int 0 :: .ref h6 :: .ref h7 :: .int 0 :: .int 0 :: .int 0 :: .int 0 :: .int 0 :: .int 0 :: .int 0 :: .ref h8 :: .int 0 :: .ref h9 :: .int 0 :: .ref h10 :: .ref h11 :: .ref h12 :: .ref h13 :: .ref h14 :: .ref h15 :: .ref h16 :: .int 0 :: .ref h17 :: .int 0 :: .ref h18 :: .int 0 :: .int 0 :: .int 0 :: .ref h19 :: .ref h20 :: .ref h21 :: .ref h22 :: .int 0 :: .ref h23 :: .ref h24 :: []))), (h1, .inl (c 2, 400, .inl f_607))] := ⟨upd f_604 (Int32.toNatClampNeg 9) (vp_nar .byte z_606), hP, hD⟩
  refine lv_aload_n hx hb dX11_four_20 rfl (lv_at hl 1 rfl) ?_
  refine lv_dup hx hb dX11_four_21 rfl ?_
  refine va_get (D := D) (ci := 10) (v := .int 9) (C := RX11) (T := TX11) (N := 43) hx hb hts i_X11 hown hK hP 0 rfl rfl 1 (by decide) (hts _ kw_1204) (fun _ h9 => h9) rfl dX11_four_22 ?_
  refine lv_iconst (v := 1) hx hb dX11_four_25 (by decide) ?_
  refine lv_iadd hx hb dX11_four_26 ?_
  refine tpi 10 (by decide) ?_
  refine va_put (D := D) (ci := 10) (v := .int 10) (ty := .int) (C := RX11) (T := TX11) (N := 43) hx hb hts i_X11 tyX11 tyX11_ok nmX11 hown hK hP hD hS 0 rfl rfl 1 (by decide) (hts _ kw_1204) (fun _ h9 => h9) rfl (tyX11_ok 1 (by decide)) rfl rfl (Nat.le_of_ble_eq_true rfl) dX11_four_27 (fun H locs hP hD hS => ?_)
  have hP : va_P D vwCl [(h0, .inr (10, (.ref h1 :: .int 10 :: .int 0 :: .ref h2 :: .ref h3 :: .ref h4 :: .ref h5 :: .int 0 :: .int 0 :: .ref h6 :: .ref h7 :: .int 0 :: .int 0 :: .int 0 :: .int 0 :: .int 0 :: .int 0 :: .int 0 :: .ref h8 :: .int 0 :: .ref h9 :: .int 0 :: .ref h10 :: .ref h11 :: .ref h12 :: .ref h13 :: .ref h14 :: .ref h15 :: .ref h16 :: .int 0 :: .ref h17 :: .int 0 :: .ref h18 :: .int 0 :: .int 0 :: .int 0 :: .ref h19 :: .ref h20 :: .ref h21 :: .ref h22 :: .int 0 :: .ref h23 :: .ref h24 :: []))), (h1, .inl (c 2, 400, .inl f_607))] H := hP
  have hD : va_D A [(h0, .inr (10, (.ref h1 :: .int 10 :: .int 0 :: .ref h2 :: .ref h3 :: .ref h4 :: .ref h5 :: .int 0 :: .int 0 :: .ref h6 :: .ref h7 :: .int 0 :: .int 0 :: .int 0 :: .int 0 :: .int 0 :: .int 0 :: .int 0 :: .ref h8 :: .int 0 :: .ref h9 :: .int 0 :: .ref h10 :: .ref h11 :: .ref h12 :: .ref h13 :: .ref h14 :: .ref h15 :: .ref h16 :: .int 0 :: .ref h17 :: .int 0 :: .ref h18 :: .int 0 :: .int 0 :: .int 0 :: .ref h19 :: .ref h20 :: .ref h21 :: .ref h22 :: .int 0 :: .ref h23 :: .ref h24 :: []))), (h1, .inl (c 2, 400, .inl f_607))] := hD
  refine lv_iinc (v := 8) (lv' := [(2, .int 8), (0, .ref h0), (1, .int v0)]) hx hb dX11_four_30 hl (k := 0) rfl (by decide) (by decide) rfl (fun ls hl => ?_)
  refine lv_goto (tgt := 3) hx hb dX11_four_33 (by decide) ?_
  refine lv_iload_n hx hb dX11_four_3 rfl (lv_at hl 0 rfl) ?_
  refine F_if_lt hx hb 36 dX11_four_4 (by decide) (by decide) ?_
  refine lv_aload_n hx hb dX11_four_7 rfl (lv_at hl 1 rfl) ?_
  refine va_get (D := D) (ci := 10) (v := .ref h1) (C := RX11) (T := TX11) (N := 43) hx hb hts i_X11 hown hK hP 0 rfl rfl 0 (by decide) (hts _ kw_1203) (fun _ h9 => h9) rfl dX11_four_8 ?_
  refine lv_aload_n hx hb dX11_four_11 rfl (lv_at hl 1 rfl) ?_
  refine va_get (D := D) (ci := 10) (v := .int 10) (C := RX11) (T := TX11) (N := 43) hx hb hts i_X11 hown hK hP 0 rfl rfl 1 (by decide) (hts _ kw_1204) (fun _ h9 => h9) rfl dX11_four_12 ?_
  refine lv_iload_n hx hb dX11_four_15 rfl (lv_at hl 2 rfl) ?_
  refine lv_iload_n hx hb dX11_four_16 rfl (lv_at hl 0 rfl) ?_
  refine lv_ishr hx hb dX11_four_17 ?_
  refine lv_topi (fun z_608 ez_608 => ?_)
  refine lv_i2b hx hb dX11_four_18 rfl ?_
  refine lv_topi (fun z_609 ez_609 => ?_)
  refine va_bast hx hb hK hP hD hS 1 2 rfl rfl (vpi (by decide)) dX11_four_19 (fun H locs hP hD hS => ?_)
  obtain ⟨f_610, hP, hD⟩ : ∃ f_610 : Nat → Int32, va_P D vwCl [(h0, .inr (10, (.ref h1 :: .int 10 :: .int 0 :: .ref h2 :: .ref h3 :: .ref h4 :: .ref h5 :: .int 0 :: .int 0 :: .ref h6 :: .ref h7 :: .int 0 :: .int 0 :: .int 0 :: .int 0 :: .int 0 :: .int 0 :: .int 0 :: .ref h8 :: .int 0 :: .ref h9 :: .int 0 :: .ref h10 :: .ref h11 :: .ref h12 :: .ref h13 :: .ref h14 :: .ref h15 :: .ref h16 :: .int 0 :: .ref h17 :: .int 0 :: .ref h18 :: .int 0 :: .int 0 :: .int 0 :: .ref h19 :: .ref h20 :: .ref h21 :: .ref h22 :: .int 0 :: .ref h23 :: .ref h24 :: []))), (h1, .inl (c 2, 400, .inl f_610))] H ∧ va_D A [(h0, .inr (10, (.ref h1 :: .int 10 :: .int 0 :: .ref h2 :: .ref h3 :: .ref h4 :: .ref h5 :: .int 0 :: .int 0 :: .ref h6 :: .ref h7 :: .int 0 :: .int 0 :: .int 0 :: .int 0 :: .int 0 :: .int 0 :: .int 0 :: .ref h8 :: .int 0 :: .ref h9 :: .int 0 :: .ref h10 :: .ref h11 :: .ref h12 :: .ref h13 :: .ref h14 :: .ref h15 :: .ref h16 :: .int 0 :: .ref h17 :: .int 0 :: .ref h18 :: .int 0 :: .int 0 :: .int 0 :: .ref h19 :: .ref h20 :: .ref h21 :: .ref h22 :: .int 0 :: .ref h23 :: .ref h24 :: []))), (h1, .inl (c 2, 400, .inl f_610))] := ⟨upd f_607 (Int32.toNatClampNeg 10) (vp_nar .byte z_609), hP, hD⟩
  refine lv_aload_n hx hb dX11_four_20 rfl (lv_at hl 1 rfl) ?_
  refine lv_dup hx hb dX11_four_21 rfl ?_
  refine va_get (D := D) (ci := 10) (v := .int 10) (C := RX11) (T := TX11) (N := 43) hx hb hts i_X11 hown hK hP 0 rfl rfl 1 (by decide) (hts _ kw_1204) (fun _ h9 => h9) rfl dX11_four_22 ?_
  refine lv_iconst (v := 1) hx hb dX11_four_25 (by decide) ?_
  refine lv_iadd hx hb dX11_four_26 ?_
  refine tpi 11 (by decide) ?_
  refine va_put (D := D) (ci := 10) (v := .int 11) (ty := .int) (C := RX11) (T := TX11) (N := 43) hx hb hts i_X11 tyX11 tyX11_ok nmX11 hown hK hP hD hS 0 rfl rfl 1 (by decide) (hts _ kw_1204) (fun _ h9 => h9) rfl (tyX11_ok 1 (by decide)) rfl rfl (Nat.le_of_ble_eq_true rfl) dX11_four_27 (fun H locs hP hD hS => ?_)
  have hP : va_P D vwCl [(h0, .inr (10, (.ref h1 :: .int 11 :: .int 0 :: .ref h2 :: .ref h3 :: .ref h4 :: .ref h5 :: .int 0 :: .int 0 :: .ref h6 :: .ref h7 :: .int 0 :: .int 0 :: .int 0 :: .int 0 :: .int 0 :: .int 0 :: .int 0 :: .ref h8 :: .int 0 :: .ref h9 :: .int 0 :: .ref h10 :: .ref h11 :: .ref h12 :: .ref h13 :: .ref h14 :: .ref h15 :: .ref h16 :: .int 0 :: .ref h17 :: .int 0 :: .ref h18 :: .int 0 :: .int 0 :: .int 0 :: .ref h19 :: .ref h20 :: .ref h21 :: .ref h22 :: .int 0 :: .ref h23 :: .ref h24 :: []))), (h1, .inl (c 2, 400, .inl f_610))] H := hP
  have hD : va_D A [(h0, .inr (10, (.ref h1 :: .int 11 :: .int 0 :: .ref h2 :: .ref h3 :: .ref h4 :: .ref h5 :: .int 0 :: .int 0 :: .ref h6 :: .ref h7 :: .int 0 :: .int 0 :: .int 0 :: .int 0 :: .int 0 :: .int 0 :: .int 0 :: .ref h8 :: .int 0 :: .ref h9 :: .int 0 :: .ref h10 :: .ref h11 :: .ref h12 :: .ref h13 :: .ref h14 :: .ref h15 :: .ref h16 :: .int 0 :: .ref h17 :: .int 0 :: .ref h18 :: .int 0 :: .int 0 :: .int 0 :: .ref h19 :: .ref h20 :: .ref h21 :: .ref h22 :: .int 0 :: .ref h23 :: .ref h24 :: []))), (h1, .inl (c 2, 400, .inl f_610))] := hD
  refine lv_iinc (v := 0) (lv' := [(2, .int 0), (0, .ref h0), (1, .int v0)]) hx hb dX11_four_30 hl (k := 0) rfl (by decide) (by decide) rfl (fun ls hl => ?_)
  refine lv_goto (tgt := 3) hx hb dX11_four_33 (by decide) ?_
  refine lv_iload_n hx hb dX11_four_3 rfl (lv_at hl 0 rfl) ?_
  refine F_if_lt hx hb 36 dX11_four_4 (by decide) (by decide) ?_
  refine lv_aload_n hx hb dX11_four_7 rfl (lv_at hl 1 rfl) ?_
  refine va_get (D := D) (ci := 10) (v := .ref h1) (C := RX11) (T := TX11) (N := 43) hx hb hts i_X11 hown hK hP 0 rfl rfl 0 (by decide) (hts _ kw_1203) (fun _ h9 => h9) rfl dX11_four_8 ?_
  refine lv_aload_n hx hb dX11_four_11 rfl (lv_at hl 1 rfl) ?_
  refine va_get (D := D) (ci := 10) (v := .int 11) (C := RX11) (T := TX11) (N := 43) hx hb hts i_X11 hown hK hP 0 rfl rfl 1 (by decide) (hts _ kw_1204) (fun _ h9 => h9) rfl dX11_four_12 ?_
  refine lv_iload_n hx hb dX11_four_15 rfl (lv_at hl 2 rfl) ?_
  refine lv_iload_n hx hb dX11_four_16 rfl (lv_at hl 0 rfl) ?_
  refine lv_ishr hx hb dX11_four_17 ?_
  refine lv_topi (fun z_611 ez_611 => ?_)
  refine lv_i2b hx hb dX11_four_18 rfl ?_
  refine lv_topi (fun z_612 ez_612 => ?_)
  refine va_bast hx hb hK hP hD hS 1 2 rfl rfl (vpi (by decide)) dX11_four_19 (fun H locs hP hD hS => ?_)
  obtain ⟨f_613, hP, hD⟩ : ∃ f_613 : Nat → Int32, va_P D vwCl [(h0, .inr (10, (.ref h1 :: .int 11 :: .int 0 :: .ref h2 :: .ref h3 :: .ref h4 :: .ref h5 :: .int 0 :: .int 0 :: .ref h6 :: .ref h7 :: .int 0 :: .int 0 :: .int 0 :: .int 0 :: .int 0 :: .int 0 :: .int 0 :: .ref h8 :: .int 0 :: .ref h9 :: .int 0 :: .ref h10 :: .ref h11 :: .ref h12 :: .ref h13 :: .ref h14 :: .ref h15 :: .ref h16 :: .int 0 :: .ref h17 :: .int 0 :: .ref h18 :: .int 0 :: .int 0 :: .int 0 :: .ref h19 :: .ref h20 :: .ref h21 :: .ref h22 :: .int 0 :: .ref h23 :: .ref h24 :: []))), (h1, .inl (c 2, 400, .inl f_613))] H ∧ va_D A [(h0, .inr (10, (.ref h1 :: .int 11 :: .int 0 :: .ref h2 :: .ref h3 :: .ref h4 :: .ref h5 :: .int 0 :: .int 0 :: .ref h6 :: .ref h7 :: .int 0 :: .int 0 :: .int 0 :: .int 0 :: .int 0 :: .int 0 :: .int 0 :: .ref h8 :: .int 0 :: .ref h9 :: .int 0 :: .ref h10 :: .ref h11 :: .ref h12 :: .ref h13 :: .ref h14 :: .ref h15 :: .ref h16 :: .int 0 :: .ref h17 :: .int 0 :: .ref h18 :: .int 0 :: .int 0 :: .int 0 :: .ref h19 :: .ref h20 :: .ref h21 :: .ref h22 :: .int 0 :: .ref h23 :: .ref h24 :: []))), (h1, .inl (c 2, 400, .inl f_613))] := ⟨upd f_610 (Int32.toNatClampNeg 11) (vp_nar .byte z_612), hP, hD⟩
  refine lv_aload_n hx hb dX11_four_20 rfl (lv_at hl 1 rfl) ?_
  refine lv_dup hx hb dX11_four_21 rfl ?_
  refine va_get (D := D) (ci := 10) (v := .int 11) (C := RX11) (T := TX11) (N := 43) hx hb hts i_X11 hown hK hP 0 rfl rfl 1 (by decide) (hts _ kw_1204) (fun _ h9 => h9) rfl dX11_four_22 ?_
  refine lv_iconst (v := 1) hx hb dX11_four_25 (by decide) ?_
  refine lv_iadd hx hb dX11_four_26 ?_
  refine tpi 12 (by decide) ?_
  refine va_put (D := D) (ci := 10) (v := .int 12) (ty := .int) (C := RX11) (T := TX11) (N := 43) hx hb hts i_X11 tyX11 tyX11_ok nmX11 hown hK hP hD hS 0 rfl rfl 1 (by decide) (hts _ kw_1204) (fun _ h9 => h9) rfl (tyX11_ok 1 (by decide)) rfl rfl (Nat.le_of_ble_eq_true rfl) dX11_four_27 (fun H locs hP hD hS => ?_)
  have hP : va_P D vwCl [(h0, .inr (10, (.ref h1 :: .int 12 :: .int 0 :: .ref h2 :: .ref h3 :: .ref h4 :: .ref h5 :: .int 0 :: .int 0 :: .ref h6 :: .ref h7 :: .int 0 :: .int 0 :: .int 0 :: .int 0 :: .int 0 :: .int 0 :: .int 0 :: .ref h8 :: .int 0 :: .ref h9 :: .int 0 :: .ref h10 :: .ref h11 :: .ref h12 :: .ref h13 :: .ref h14 :: .ref h15 :: .ref h16 :: .int 0 :: .ref h17 :: .int 0 :: .ref h18 :: .int 0 :: .int 0 :: .int 0 :: .ref h19 :: .ref h20 :: .ref h21 :: .ref h22 :: .int 0 :: .ref h23 :: .ref h24 :: []))), (h1, .inl (c 2, 400, .inl f_613))] H := hP
  have hD : va_D A [(h0, .inr (10, (.ref h1 :: .int 12 :: .int 0 :: .ref h2 :: .ref h3 :: .ref h4 :: .ref h5 :: .int 0 :: .int 0 :: .ref h6 :: .ref h7 :: .int 0 :: .int 0 :: .int 0 :: .int 0 :: .int 0 :: .int 0 :: .int 0 :: .ref h8 :: .int 0 :: .ref h9 :: .int 0 :: .ref h10 :: .ref h11 :: .ref h12 :: .ref h13 :: .ref h14 :: .ref h15 :: .ref h16 :: .int 0 :: .ref h17 :: .int 0 :: .ref h18 :: .int 0 :: .int 0 :: .int 0 :: .ref h19 :: .ref h20 :: .ref h21 :: .ref h22 :: .int 0 :: .ref h23 :: .ref h24 :: []))), (h1, .inl (c 2, 400, .inl f_613))] := hD
  refine lv_iinc (v := (-8)) (lv' := [(2, .int (-8)), (0, .ref h0), (1, .int v0)]) hx hb dX11_four_30 hl (k := 0) rfl (by decide) (by decide) rfl (fun ls hl => ?_)
  refine lv_goto (tgt := 3) hx hb dX11_four_33 (by decide) ?_
  refine lv_iload_n hx hb dX11_four_3 rfl (lv_at hl 0 rfl) ?_
  refine T_if_lt (tgt := 36) hx hb dX11_four_4 (by decide) (by decide) ?_
  exact retV hx hb hr hlocks hS (by decide) (by decide) dX11_four_36 (fun t ht => ⟨f_613, by rw [ht]; exact hP, hD⟩)
set_option maxHeartbeats 4000000 in
set_option maxRecDepth 100000 in
theorem m19_X11_four (l : Launch) (D : va_G) (c : Nat → ClassId) (h0 h1 h2 h3 h4 h5 h6 h7 h8 h9 h10 h11 h12 h13 h14 h15 h16 h17 h18 h19 h20 h21 h22 h23 h24 : Nat) (sz : Nat) (v0 : Int32) (f0 : Nat → Int32) : Met l yX11_four (Cond.code yX11_four cX11_four 3 none :: TB) ({ frames := 0, cells := 0, slots := 0, locals := 0 } : Room) (va_Pc [.ref h0, .int v0] (PW D c [(h0, .inr (10, (.ref h1 :: .int 12 :: .int 0 :: .ref h2 :: .ref h3 :: .ref h4 :: .ref h5 :: .int 0 :: .int 0 :: .ref h6 :: .ref h7 :: .int 0 :: .int 0 :: .int 0 :: .int 0 :: .int 0 :: .int 0 :: .int 0 :: .ref h8 :: .int 0 :: .ref h9 :: .int 0 :: .ref h10 :: .ref h11 :: .ref h12 :: .ref h13 :: .ref h14 :: .ref h15 :: .ref h16 :: .int 0 :: .ref h17 :: .int 0 :: .ref h18 :: .int 0 :: .int 0 :: .int 0 :: .ref h19 :: .ref h20 :: .ref h21 :: .ref h22 :: .int 0 :: .ref h23 :: .ref h24 :: []))), (h1, .inl (c 2, 400, .inl f0))] sz)) ((QV (fun A t => ∃ (f_638 : Nat → Int32), va_P D vwCl [(h0, .inr (10, (.ref h1 :: .int 16 :: .int 0 :: .ref h2 :: .ref h3 :: .ref h4 :: .ref h5 :: .int 0 :: .int 0 :: .ref h6 :: .ref h7 :: .int 0 :: .int 0 :: .int 0 :: .int 0 :: .int 0 :: .int 0 :: .int 0 :: .ref h8 :: .int 0 :: .ref h9 :: .int 0 :: .ref h10 :: .ref h11 :: .ref h12 :: .ref h13 :: .ref h14 :: .ref h15 :: .ref h16 :: .int 0 :: .ref h17 :: .int 0 :: .ref h18 :: .int 0 :: .int 0 :: .int 0 :: .ref h19 :: .ref h20 :: .ref h21 :: .ref h22 :: .int 0 :: .ref h23 :: .ref h24 :: []))), (h1, .inl (c 2, 400, .inl f_638))] t.heap ∧ va_D A [(h0, .inr (10, (.ref h1 :: .int 16 :: .int 0 :: .ref h2 :: .ref h3 :: .ref h4 :: .ref h5 :: .int 0 :: .int 0 :: .ref h6 :: .ref h7 :: .int 0 :: .int 0 :: .int 0 :: .int 0 :: .int 0 :: .int 0 :: .int 0 :: .ref h8 :: .int 0 :: .ref h9 :: .int 0 :: .ref h10 :: .ref h11 :: .ref h12 :: .ref h13 :: .ref h14 :: .ref h15 :: .ref h16 :: .int 0 :: .ref h17 :: .int 0 :: .ref h18 :: .int 0 :: .int 0 :: .int 0 :: .ref h19 :: .ref h20 :: .ref h21 :: .ref h22 :: .int 0 :: .ref h23 :: .ref h24 :: []))), (h1, .inl (c 2, 400, .inl f_638))])) (va_A [(h0, .inr (10, (.ref h1 :: .int 12 :: .int 0 :: .ref h2 :: .ref h3 :: .ref h4 :: .ref h5 :: .int 0 :: .int 0 :: .ref h6 :: .ref h7 :: .int 0 :: .int 0 :: .int 0 :: .int 0 :: .int 0 :: .int 0 :: .int 0 :: .ref h8 :: .int 0 :: .ref h9 :: .int 0 :: .ref h10 :: .ref h11 :: .ref h12 :: .ref h13 :: .ref h14 :: .ref h15 :: .ref h16 :: .int 0 :: .ref h17 :: .int 0 :: .ref h18 :: .int 0 :: .int 0 :: .int 0 :: .ref h19 :: .ref h20 :: .ref h21 :: .ref h22 :: .int 0 :: .ref h23 :: .ref h24 :: []))), (h1, .inl (c 2, 400, .inl f0))] sz)) 0 0 (va_A [(h0, .inr (10, (.ref h1 :: .int 12 :: .int 0 :: .ref h2 :: .ref h3 :: .ref h4 :: .ref h5 :: .int 0 :: .int 0 :: .ref h6 :: .ref h7 :: .int 0 :: .int 0 :: .int 0 :: .int 0 :: .int 0 :: .int 0 :: .int 0 :: .ref h8 :: .int 0 :: .ref h9 :: .int 0 :: .ref h10 :: .ref h11 :: .ref h12 :: .ref h13 :: .ref h14 :: .ref h15 :: .ref h16 :: .int 0 :: .ref h17 :: .int 0 :: .ref h18 :: .int 0 :: .int 0 :: .int 0 :: .ref h19 :: .ref h20 :: .ref h21 :: .ref h22 :: .int 0 :: .ref h23 :: .ref h24 :: []))), (h1, .inl (c 2, 400, .inl f0))] sz) := by
  refine start (by decide +kernel) (Nat.le_of_ble_eq_true rfl) ?_
  intro p e s m below meth cd A ls hx hb hr hml hts hown hlocks hin hA hS hK hP hD hN hl
  have hown : s.vm.findClass RX11 = some m.cls := hown
  have hl : lv_has ls 3 [(0, .ref h0), (1, .int v0)] := hl
  have hP : va_P D vwCl [(h0, .inr (10, (.ref h1 :: .int 12 :: .int 0 :: .ref h2 :: .ref h3 :: .ref h4 :: .ref h5 :: .int 0 :: .int 0 :: .ref h6 :: .ref h7 :: .int 0 :: .int 0 :: .int 0 :: .int 0 :: .int 0 :: .int 0 :: .int 0 :: .ref h8 :: .int 0 :: .ref h9 :: .int 0 :: .ref h10 :: .ref h11 :: .ref h12 :: .ref h13 :: .ref h14 :: .ref h15 :: .ref h16 :: .int 0 :: .ref h17 :: .int 0 :: .ref h18 :: .int 0 :: .int 0 :: .int 0 :: .ref h19 :: .ref h20 :: .ref h21 :: .ref h22 :: .int 0 :: .ref h23 :: .ref h24 :: []))), (h1, .inl (c 2, 400, .inl f0))] s.heap := hP
  refine lv_bipush (v := 24) hx hb dX11_four_0 (by decide) ?_
  refine lv_istore_n (lv' := [(2, .int 24), (0, .ref h0), (1, .int v0)]) hx hb dX11_four_2 rfl hl (by decide) rfl (fun ls hl => ?_)
  refine lv_iload_n hx hb dX11_four_3 rfl (lv_at hl 0 rfl) ?_
  refine F_if_lt hx hb 36 dX11_four_4 (by decide) (by decide) ?_
  refine lv_aload_n hx hb dX11_four_7 rfl (lv_at hl 1 rfl) ?_
  refine va_get (D := D) (ci := 10) (v := .ref h1) (C := RX11) (T := TX11) (N := 43) hx hb hts i_X11 hown hK hP 0 rfl rfl 0 (by decide) (hts _ kw_1203) (fun _ h9 => h9) rfl dX11_four_8 ?_
  refine lv_aload_n hx hb dX11_four_11 rfl (lv_at hl 1 rfl) ?_
  refine va_get (D := D) (ci := 10) (v := .int 12) (C := RX11) (T := TX11) (N := 43) hx hb hts i_X11 hown hK hP 0 rfl rfl 1 (by decide) (hts _ kw_1204) (fun _ h9 => h9) rfl dX11_four_12 ?_
  refine lv_iload_n hx hb dX11_four_15 rfl (lv_at hl 2 rfl) ?_
  refine lv_iload_n hx hb dX11_four_16 rfl (lv_at hl 0 rfl) ?_
  refine lv_ishr hx hb dX11_four_17 ?_
  refine lv_topi (fun z_627 ez_627 => ?_)
  refine lv_i2b hx hb dX11_four_18 rfl ?_
  refine lv_topi (fun z_628 ez_628 => ?_)
  refine va_bast hx hb hK hP hD hS 1 2 rfl rfl (vpi (by decide)) dX11_four_19 (fun H locs hP hD hS => ?_)
  obtain ⟨f_629, hP, hD⟩ : ∃ f_629 : Nat → Int32, va_P D vwCl [(h0, .inr (10, (.ref h1 :: .int 12 :: .int 0 :: .ref h2 :: .ref h3 :: .ref h4 :: .ref h5 :: .int 0 :: .int 0 :: .ref h6 :: .ref h7 :: .int 0 :: .int 0 :: .int 0 :: .int 0 :: .int 0 :: .int 0 :: .int 0 :: .ref h8 :: .int 0 :: .ref h9 :: .int 0 :: .ref h10 :: .ref h11 :: .ref h12 :: .ref h13 :: .ref h14 :: .ref h15 :: .ref h16 :: .int 0 :: .ref h17 :: .int 0 :: .ref h18 :: .int 0 :: .int 0 :: .int 0 :: .ref h19 :: .ref h20 :: .ref h21 :: .ref h22 :: .int 0 :: .ref h23 :: .ref h24 :: []))), (h1, .inl (c 2, 400, .inl f_629))] H ∧ va_D A [(h0, .inr (10, (.ref h1 :: .int 12 :: .int 0 :: .ref h2 :: .ref h3 :: .ref h4 :: .ref h5 :: .int 0 :: .int 0 :: .ref h6 :: .ref h7 :: .int 0 :: .int 0 :: .int 0 :: .int 0 :: .int 0 :: .int 0 :: .int 0 :: .ref h8 :: .int 0 :: .ref h9 :: .int 0 :: .ref h10 :: .ref h11 :: .ref h12 :: .ref h13 :: .ref h14 :: .ref h15 :: .ref h16 :: .int 0 :: .ref h17 :: .int 0 :: .ref h18 :: .int 0 :: .int 0 :: .int 0 :: .ref h19 :: .ref h20 :: .ref h21 :: .ref h22 :: .int 0 :: .ref h23 :: .ref h24 :: []))), (h1, .inl (c 2, 400, .inl f_629))] := ⟨upd f0 (Int32.toNatClampNeg 12) (vp_nar .byte z_628), hP, hD⟩
  refine lv_aload_n hx hb dX11_four_20 rfl (lv_at hl 1 rfl) ?_
  refine lv_dup hx hb dX11_four_21 rfl ?_
  refine va_get (D := D) (ci := 10) (v := .int 12) (C := RX11) (T := TX11) (N := 43) hx hb hts i_X11 hown hK hP 0 rfl rfl 1 (by decide) (hts _ kw_1204) (fun _ h9 => h9) rfl dX11_four_22 ?_
  refine lv_iconst (v := 1) hx hb dX11_four_25 (by decide) ?_
  refine lv_iadd hx hb dX11_four_26 ?_
  refine tpi 13 (by decide) ?_
  refine va_put (D := D) (ci := 10) (v := .int 13) (ty := .int) (C := RX11) (T := TX11) (N := 43) hx hb hts i_X11 tyX11 tyX11_ok nmX11 hown hK hP hD hS 0 rfl rfl 1 (by decide) (hts _ kw_1204) (fun _ h9 => h9) rfl (tyX11_ok 1 (by decide)) rfl rfl (Nat.le_of_ble_eq_true rfl) dX11_four_27 (fun H locs hP hD hS => ?_)
  have hP : va_P D vwCl [(h0, .inr (10, (.ref h1 :: .int 13 :: .int 0 :: .ref h2 :: .ref h3 :: .ref h4 :: .ref h5 :: .int 0 :: .int 0 :: .ref h6 :: .ref h7 :: .int 0 :: .int 0 :: .int 0 :: .int 0 :: .int 0 :: .int 0 :: .int 0 :: .ref h8 :: .int 0 :: .ref h9 :: .int 0 :: .ref h10 :: .ref h11 :: .ref h12 :: .ref h13 :: .ref h14 :: .ref h15 :: .ref h16 :: .int 0 :: .ref h17 :: .int 0 :: .ref h18 :: .int 0 :: .int 0 :: .int 0 :: .ref h19 :: .ref h20 :: .ref h21 :: .ref h22 :: .int 0 :: .ref h23 :: .ref h24 :: []))), (h1, .inl (c 2, 400, .inl f_629))] H := hP
  have hD : va_D A [(h0, .inr (10, (.ref h1 :: .int 13 :: .int 0 :: .ref h2 :: .ref h3 :: .ref h4 :: .ref h5 :: .int 0 :: .int 0 :: .ref h6 :: .ref h7 :: .int 0 :: .int 0 :: .int 0 :: .int 0 :: .int 0 :: .int 0 :: .int 0 :: .ref h8 :: .int 0 :: .ref h9 :: .int 0 :: .ref h10 :: .ref h11 :: .ref h12 :: .ref h13 :: .ref h14 :: .ref h15 :: .ref h16 :: .int 0 :: .ref h17 :: .int 0 :: .ref h18 :: .int 0 :: .int 0 :: .int 0 :: .ref h19 :: .ref h20 :: .ref h21 :: .ref h22 :: .int 0 :: .ref h23 :: .ref h24 :: []))), (h1, .inl (c 2, 400, .inl f_629))] := hD
  refine lv_iinc (v := 16) (lv' := [(2, .int 16), (0, .ref h0), (1, .int v0)]) hx hb dX11_four_30 hl (k := 0) rfl (by decide) (by decide) rfl (fun ls hl => ?_)
  refine lv_goto (tgt := 3) hx hb dX11_four_33 (by decide) ?_
  refine lv_iload_n hx hb dX11_four_3 rfl (lv_at hl 0 rfl) ?_
  refine F_if_lt hx hb 36 dX11_four_4 (by decide) (by decide) ?_
  refine lv_aload_n hx hb dX11_four_7 rfl (lv_at hl 1 rfl) ?_
  refine va_get (D := D) (ci := 10) (v := .ref h1) (C := RX11) (T := TX11) (N := 43) hx hb hts i_X11 hown hK hP 0 rfl rfl 0 (by decide) (hts _ kw_1203) (fun _ h9 => h9) rfl dX11_four_8 ?_
  refine lv_aload_n hx hb dX11_four_11 rfl (lv_at hl 1 rfl) ?_
  refine va_get (D := D) (ci := 10) (v := .int 13) (C := RX11) (T := TX11) (N := 43) hx hb hts i_X11 hown hK hP 0 rfl rfl 1 (by decide) (hts _ kw_1204) (fun _ h9 => h9) rfl dX11_four_12 ?_
  refine lv_iload_n hx hb dX11_four_15 rfl (lv_at hl 2 rfl) ?_
  refine lv_iload_n hx hb dX11_four_16 rfl (lv_at hl 0 rfl) ?_
  refine lv_ishr hx hb dX11_four_17 ?_
  refine lv_topi (fun z_630 ez_630 => ?_)
  refine lv_i2b hx hb dX11_four_18 rfl ?_
  refine lv_topi (fun z_631 ez_631 => ?_)
  refine va_bast hx hb hK hP hD hS 1 2 rfl rfl (vpi (by decide)) dX11_four_19 (fun H locs hP hD hS => ?_)
  obtain ⟨f_632, hP, hD⟩ : ∃ f_632 : Nat → Int32, va_P D vwCl [(h0, .inr (10, (.ref h1 :: .int 13 :: .int 0 :: .ref h2 :: .ref h3 :: .ref h4 :: .ref h5 :: .int 0 :: .int 0 :: .ref h6 :: .ref h7 :: .int 0 :: .int 0 :: .int 0 :: .int 0 :: .int 0 :: .int 0 :: .int 0 :: .ref h8 :: .int 0 :: .ref h9 :: .int 0 :: .ref h10 :: .ref h11 :: .ref h12 :: .ref h13 :: .ref h14 :: .ref h15 :: .ref h16 :: .int 0 :: .ref h17 :: .int 0 :: .ref h18 :: .int 0 :: .int 0 :: .int 0 :: .ref h19 :: .ref h20 :: .ref h21 :: .ref h22 :: .int 0 :: .ref h23 :: .ref h24 :: []))), (h1, .inl (c 2, 400, .inl f_632))] H ∧ va_D A [(h0, .inr (10, (.ref h1 :: .int 13 :: .int 0 :: .ref h2 :: .ref h3 :: .ref h4 :: .ref h5 :: .int 0 :: .int 0 :: .ref h6 :: .ref h7 :: .int 0 :: .int 0 :: .int 0 :: .int 0 :: .int 0 :: .int 0 :: .int 0 :: .ref h8 :: .int 0 :: .ref h9 :: .int 0 :: .ref h10 :: .ref h11 :: .ref h12 :: .ref h13 :: .ref h14 :: .ref h15 :: .ref h16 :: .int 0 :: .ref h17 :: .int 0 :: .ref h18 :: .int 0 :: .int 0 :: .int 0 :: .ref h19 :: .ref h20 :: .ref h21 :: .ref h22 :: .int 0 :: .ref h23 :: .ref h24 :: []))), (h1, .inl (c 2, 400, .inl f_632))] := ⟨upd f_629 (Int32.toNatClampNeg 13) (vp_nar .byte z_631), hP, hD⟩
  refine lv_aload_n hx hb dX11_four_20 rfl (lv_at hl 1 rfl) ?_
  refine lv_dup hx hb dX11_four_21 rfl ?_
  refine va_get (D := D) (ci := 10) (v := .int 13) (C := RX11) (T := TX11) (N := 43) hx hb hts i_X11 hown hK hP 0 rfl rfl 1 (by decide) (hts _ kw_1204) (fun _ h9 => h9) rfl dX11_four_22 ?_
  refine lv_iconst (v := 1) hx hb dX11_four_25 (by decide) ?_
  refine lv_iadd hx hb dX11_four_26 ?_
  refine tpi 14 (by decide) ?_
  refine va_put (D := D) (ci := 10) (v := .int 14) (ty := .int) (C := RX11) (T := TX11) (N := 43) hx hb hts i_X11 tyX11 tyX11_ok nmX11 hown hK hP hD hS 0 rfl rfl 1 (by decide) (hts _ kw_1204) (fun _ h9 => h9) rfl (tyX11_ok 1 (by decide)) rfl rfl (Nat.le_of_ble_eq_true rfl) dX11_four_27 (fun H locs hP hD hS => ?_)
  have hP : va_P D vwCl [(h0, .inr (10, (.ref h1 :: .int 14 :: .int 0 :: .ref h2 :: .ref h3 :: .ref h4 :: .ref h5 :: .int 0 :: .int 0 :: .ref h6 :: .ref h7 :: .int 0 :: .int 0 :: .int 0 :: .int 0 :: .int 0 :: .int 0 :: .int 0 :: .ref h8 :: .int 0 :: .ref h9 :: .int 0 :: .ref h10 :: .ref h11 :: .ref h12 :: .ref h13 :: .ref h14 :: .ref h15 :: .ref h16 :: .int 0 :: .ref h17 :: .int 0 :: .ref h18 :: .int 0 :: .int 0 :: .int 0 :: .ref h19 :: .ref h20 :: .ref h21 :: .ref h22 :: .int 0 :: .ref h23 :: .ref h24 :: []))), (h1, .inl (c 2, 400, .inl f_632))] H := hP
  have hD : va_D A [(h0, .inr (10, (.ref h1 :: .int 14 :: .int 0 :: .ref h2 :: .ref h3 :: .ref h4 :: .ref h5 :: .int 0 :: .int 0 :: .ref h6 :: .ref h7 :: .int 0 :: .int 0 :: .int 0 :: .int 0 :: .int 0 :: .int 0 :: .int 0 :: .ref h8 :: .int 0 :: .ref h9 :: .int 0 :: .ref h10 :: .ref h11 :: .ref h12 :: .ref h13 :: .ref h14 :: .ref h15 :: .ref h16 :: .int 0 :: .ref h17 :: .int 0 :: .ref h18 :: .int 0 :: .int 0 :: .int 0 :: .ref h19 :: .ref h20 :: .ref h21 :: .ref h22 :: .int 0 :: .ref h23 :: .ref h24 :: []))), (h1, .inl (c 2, 400, .inl f_632))] := hD
  refine lv_iinc (v := 8) (lv' := [(2, .int 8), (0, .ref h0), (1, .int v0)]) hx hb dX11_four_30 hl (k := 0) rfl (by decide) (by decide) rfl (fun ls hl => ?_)
  refine lv_goto (tgt := 3) hx hb dX11_four_33 (by decide) ?_
  refine lv_iload_n hx hb dX11_four_3 rfl (lv_at hl 0 rfl) ?_
  refine F_if_lt hx hb 36 dX11_four_4 (by decide) (by decide) ?_
  refine lv_aload_n hx hb dX11_four_7 rfl (lv_at hl 1 rfl) ?_
  refine va_get (D := D) (ci := 10) (v := .ref h1) (C := RX11) (T := TX11) (N := 43) hx hb hts i_X11 hown hK hP 0 rfl rfl 0 (by decide) (hts _ kw_1203) (fun _ h9 => h9) rfl dX11_four_8 ?_
  refine lv_aload_n hx hb dX11_four_11 rfl (lv_at hl 1 rfl) ?_
  refine va_get (D := D) (ci := 10) (v := .int 14) (C := RX11) (T := TX11) (N := 43) hx hb hts i_X11 hown hK hP 0 rfl rfl 1 (by decide) (hts _ kw_1204) (fun _ h9 => h9) rfl dX11_four_12 ?_
  refine lv_iload_n hx hb dX11_four_15 rfl (lv_at hl 2 rfl) ?_
  refine lv_iload_n hx hb dX11_four_16 rfl (lv_at hl 0 rfl) ?_
  refine lv_ishr hx hb dX11_four_17 ?_
  refine lv_topi (fun z_633 ez_633 => ?_)
  refine lv_i2b hx hb dX11_four_18 rfl ?_
  refine lv_topi (fun z_634 ez_634 => ?_)
  refine va_bast hx hb hK hP hD hS 1 2 rfl rfl (vpi (by decide)) dX11_four_19 (fun H locs hP hD hS => ?_)
  obtain ⟨f_635, hP, hD⟩ : ∃ f_635 : Nat → Int32, va_P D vwCl [(h0, .inr (10, (.ref h1 :: .int 14 :: .int 0 :: .ref h2 :: .ref h3 :: .ref h4 :: .ref h5 :: .int 0 :: .int 0 :: .ref h6 :: .ref h7 :: .int 0 :: .int 0 :: .int 0 :: .int 0 :: .int 0 :: .int 0 :: .int 0 :: .ref h8 :: .int 0 :: .ref h9 :: .int 0 :: .ref h10 :: .ref h11 :: .ref h12 :: .ref h13 :: .ref h14 :: .ref h15 :: .ref h16 :: .int 0 :: .ref h17 :: .int 0 :: .ref h18 :: .int 0 :: .int 0 :: .int 0 :: .ref h19 :: .ref h20 :: .ref h21 :: .ref h22 :: .int 0 :: .ref h23 :: .ref h24 :: []))), (h1, .inl (c 2, 400, .inl f_635))] H ∧ va_D A [(h0, .inr (10, (.ref h1 :: .int 14 :: .int 0 :: .ref h2 :: .ref h3 :: .ref h4 :: .ref h5 :: .int 0 :: .int 0 :: .ref h6 :: .ref h7 :: .int 0 :: .int 0 :: .int 0 :: .int 0 :: .int 0 :: .int 0 :: .int 0 :: .ref h8 :: .int 0 :: .ref h9 :: .int 0 :: .ref h10 :: .ref h11 :: .ref h12 :: .ref h13 :: .ref h14 :: .ref h15 :: .ref h16 :: .int 0 :: .ref h17 :: .int 0 :: .ref h18 :: .int 0 :: .int 0 :: .int 0 :: .ref h19 :: .ref h20 :: .ref h21 :: .ref h22 :: .int 0 :: .ref h23 :: .ref h24 :: []))), (h1, .inl (c 2, 400, .inl f_635))] := ⟨upd f_632 (Int32.toNatClampNeg 14) (vp_nar .byte z_634), hP, hD⟩
  refine lv_aload_n hx hb dX11_four_20 rfl (lv_at hl 1 rfl) ?_
  refine lv_dup hx hb dX11_four_21 rfl ?_
  refine va_get (D := D) (ci := 10) (v := .int 14) (C := RX11) (T := TX11) (N := 43) hx hb hts i_X11 hown hK hP 0 rfl rfl 1 (by decide) (hts _ kw_1204) (fun _ h9 => h9) rfl dX11_four_22 ?_
  refine lv_iconst (v := 1) hx hb dX11_four_25 (by decide) ?_
  refine lv_iadd hx hb dX11_four_26 ?_
  refine tpi 15 (by decide) ?_
  refine va_put (D := D) (ci := 10) (v := .int 15) (ty := .int) (C := RX11) (T := TX11) (N := 43) hx hb hts i_X11 tyX11 tyX11_ok nmX11 hown hK hP hD hS 0 rfl rfl 1 (by decide) (hts _ kw_1204) (fun _ h9 => h9) rfl (tyX11_ok 1 (by decide)) rfl rfl (Nat.le_of_ble_eq_true rfl) dX11_four_27 (fun H locs hP hD hS => ?_)
  have hP : va_P D vwCl [(h0, .inr (10, (.ref h1 :: .int 15 :: .int 0 :: .ref h2 :: .ref h3 :: .ref h4 :: .ref h5 :: .int 0 :: .int 0 :: .ref h6 :: .ref h7 :: .int 0 :: .int 0 :: .int 0 :: .int 0 :: .int 0 :: .int 0 :: .int 0 :: .ref h8 :: .int 0 :: .ref h9 :: .int 0 :: .ref h10 :: .ref h11 :: .ref h12 :: .ref h13 :: .ref h14 :: .ref h15 :: .ref h16 :: .int 0 :: .ref h17 :: .int 0 :: .ref h18 :: .int 0 :: .int 0 :: .int 0 :: .ref h19 :: .ref h20 :: .ref h21 :: .ref h22 :: .int 0 :: .ref h23 :: .ref h24 :: []))), (h1, .inl (c 2, 400, .inl f_635))] H := hP
  have hD : va_D A [(h0, .inr (10, (.ref h1 :: .int 15 :: .int 0 :: .ref h2 :: .ref h3 :: .ref h4 :: .ref h5 :: .int 0 :: .int 0 :: .ref h6 :: .ref h7 :: .int 0 :: .int 0 :: .int 0 :: .int 0 :: .int 0 :: .int 0 :: .int 0 :: .ref h8 :: .int 0 :: .ref h9 :: .int 0 :: .ref h10 :: .ref h11 :: .ref h12 :: .ref h13 :: .ref h14 :: .ref h15 :: .ref h16 :: .int 0 :: .ref h17 :: .int 0 :: .ref h18 :: .int 0 :: .int 0 :: .int 0 :: .ref h19 :: .ref h20 :: .ref h21 :: .ref h22 :: .int 0 :: .ref h23 :: .ref h24 :: []))), (h1, .inl (c 2, 400, .inl f_635))] := hD
  refine lv_iinc (v := 0) (lv' := [(2, .int 0), (0, .ref h0), (1, .int v0)]) hx hb dX11_four_30 hl (k := 0) rfl (by decide) (by decide) rfl (fun ls hl => ?_)
  refine lv_goto (tgt := 3) hx hb dX11_four_33 (by decide) ?_
  refine lv_iload_n hx hb dX11_four_3 rfl (lv_at hl 0 rfl) ?_
  refine F_if_lt hx hb 36 dX11_four_4 (by decide) (by decide) ?_
  refine lv_aload_n hx hb dX11_four_7 rfl (lv_at hl 1 rfl) ?_
  refine va_get (D := D) (ci := 10) (v := .ref h1) (C := RX11) (T := TX11) (N := 43) hx hb hts i_X11 hown hK hP 0 rfl rfl 0 (by decide) (hts _ kw_1203) (fun _ h9 => h9) rfl dX11_four_8 ?_
  refine lv_aload_n hx hb dX11_four_11 rfl (lv_at hl 1 rfl) ?_
  refine va_get (D := D) (ci := 10) (v := .int 15) (C := RX11) (T := TX11) (N := 43) hx hb hts i_X11 hown hK hP 0 rfl rfl 1 (by decide) (hts _ kw_1204) (fun _ h9 => h9) rfl dX11_four_12 ?_
  refine lv_iload_n hx hb dX11_four_15 rfl (lv_at hl 2 rfl) ?_
  refine lv_iload_n hx hb dX11_four_16 rfl (lv_at hl 0 rfl) ?_
  refine lv_ishr hx hb dX11_four_17 ?_
  refine lv_topi (fun z_636 ez_636 => ?_)
  refine lv_i2b hx hb dX11_four_18 rfl ?_
  refine lv_topi (fun z_637 ez_637 => ?_)
  refine va_bast hx hb hK hP hD hS 1 2 rfl rfl (vpi (by decide)) dX11_four_19 (fun H locs hP hD hS => ?_)
  obtain ⟨f_638, hP, hD⟩ : ∃ f_638 : Nat → Int32, va_P D vwCl [(h0, .inr (10, (.ref h1 :: .int 15 :: .int 0 :: .ref h2 :: .ref h3 :: .ref h4 :: .ref h5 :: .int 0 :: .int 0 :: .ref h6 :: .ref h7 :: .int 0 :: .int 0 :: .int 0 :: .int 0 :: .int 0 :: .int 0 :: .int 0 :: .ref h8 :: .int 0 :: .ref h9 :: .int 0 :: .ref h10 :: .ref h11 :: .ref h12 :: .ref h13 :: .ref h14 :: .ref h15 :: .ref h16 :: .int 0 :: .ref h17 :: .int 0 :: .ref h18 :: .int 0 :: .int 0 :: .int 0 :: .ref h19 :: .ref h20 :: .ref h21 :: .ref h22 :: .int 0 :: .ref h23 :: .ref h24 :: []))), (h1, .inl (c 2, 400, .inl f_638))] H ∧ va_D A [(h0, .inr (10, (.ref h1 :: .int 15 :: .int 0 :: .ref h2 :: .ref h3 :: .ref h4 :: .ref h5 :: .int 0 :: .int 0 :: .ref h6 :: .ref h7 :: .int 0 :: .int 0 :: .int 0 :: .int 0 :: .int 0 :: .int 0 :: .int 0 :: .ref h8 :: .int 0 :: .ref h9 :: .int 0 :: .ref h10 :: .ref h11 :: .ref h12 :: .ref h13 :: .ref h14 :: .ref h15 :: .ref h16 :: .int 0 :: .ref h17 :: .int 0 :: .ref h18 :: .int 0 :: .int 0 :: .int 0 :: .ref h19 :: .ref h20 :: .ref h21 :: .ref h22 :: .int 0 :: .ref h23 :: .ref h24 :: []))), (h1, .inl (c 2, 400, .inl f_638))] := ⟨upd f_635 (Int32.toNatClampNeg 15) (vp_nar .byte z_637), hP, hD⟩
  refine lv_aload_n hx hb dX11_four_20 rfl (lv_at hl 1 rfl) ?_
  refine lv_dup hx hb dX11_four_21 rfl ?_
  refine va_get (D := D) (ci := 10) (v := .int 15) (C := RX11) (T := TX11) (N := 43) hx hb hts i_X11 hown hK hP 0 rfl rfl 1 (by decide) (hts _ kw_1204) (fun _ h9 => h9) rfl dX11_four_22 ?_
  refine lv_iconst (v := 1) hx hb dX11_four_25 (by decide) ?_
  refine lv_iadd hx hb dX11_four_26 ?_
  refine tpi 16 (by decide) ?_
  refine va_put (D := D) (ci := 10) (v := .int 16) (ty := .int) (C := RX11) (T := TX11) (N := 43) hx hb hts i_X11 tyX11 tyX11_ok nmX11 hown hK hP hD hS 0 rfl rfl 1 (by decide) (hts _ kw_1204) (fun _ h9 => h9) rfl (tyX11_ok 1 (by decide)) rfl rfl (Nat.le_of_ble_eq_true rfl) dX11_four_27 (fun H locs hP hD hS => ?_)
  have hP : va_P D vwCl [(h0, .inr (10, (.ref h1 :: .int 16 :: .int 0 :: .ref h2 :: .ref h3 :: .ref h4 :: .ref h5 :: .int 0 :: .int 0 :: .ref h6 :: .ref h7 :: .int 0 :: .int 0 :: .int 0 :: .int 0 :: .int 0 :: .int 0 :: .int 0 :: .ref h8 :: .int 0 :: .ref h9 :: .int 0 :: .ref h10 :: .ref h11 :: .ref h12 :: .ref h13 :: .ref h14 :: .ref h15 :: .ref h16 :: .int 0 :: .ref h17 :: .int 0 :: .ref h18 :: .int 0 :: .int 0 :: .int 0 :: .ref h19 :: .ref h20 :: .ref h21 :: .ref h22 :: .int 0 :: .ref h23 :: .ref h24 :: []))), (h1, .inl (c 2, 400, .inl f_638))] H := hP
  have hD : va_D A [(h0, .inr (10, (.ref h1 :: .int 16 :: .int 0 :: .ref h2 :: .ref h3 :: .ref h4 :: .ref h5 :: .int 0 :: .int 0 :: .ref h6 :: .ref h7 :: .int 0 :: .int 0 :: .int 0 :: .int 0 :: .int 0 :: .int 0 :: .int 0 :: .ref h8 :: .int 0 :: .ref h9 :: .int 0 :: .ref h10 :: .ref h11 :: .ref h12 :: .ref h13 :: .ref h14 :: .ref h15 :: .ref h16 :: .int 0 :: .ref h17 :: .int 0 :: .ref h18 :: .int 0 :: .int 0 :: .int 0 :: .ref h19 :: .ref h20 :: .ref h21 :: .ref h22 :: .int 0 :: .ref h23 :: .ref h24 :: []))), (h1, .inl (c 2, 400, .inl f_638))] := hD
  refine lv_iinc (v := (-8)) (lv' := [(2, .int (-8)), (0, .ref h0), (1, .int v0)]) hx hb dX11_four_30 hl (k := 0) rfl (by decide) (by decide) rfl (fun ls hl => ?_)
  refine lv_goto (tgt := 3) hx hb dX11_four_33 (by decide) ?_
  refine lv_iload_n hx hb dX11_four_3 rfl (lv_at hl 0 rfl) ?_
  refine T_if_lt (tgt := 36) hx hb dX11_four_4 (by decide) (by decide) ?_
  exact retV hx hb hr hlocks hS (by decide) (by decide) dX11_four_36 (fun t ht => ⟨f_638, by rw [ht]; exact hP, hD⟩)
set_option maxHeartbeats 4000000 in
set_option maxRecDepth 100000 in
theorem m20_X11_four (l : Launch) (D : va_G) (c : Nat → ClassId) (h0 h1 h2 h3 h4 h5 h6 h7 h8 h9 h10 h11 h12 h13 h14 h15 h16 h17 h18 h19 h20 h21 h22 h23 h24 : Nat) (sz : Nat) (v0 : Int32) (f0 : Nat → Int32) : Met l yX11_four (Cond.code yX11_four cX11_four 3 none :: TB) ({ frames := 0, cells := 0, slots := 0, locals := 0 } : Room) (va_Pc [.ref h0, .int v0] (PW D c [(h0, .inr (10, (.ref h1 :: .int 16 :: .int 0 :: .ref h2 :: .ref h3 :: .ref h4 :: .ref h5 :: .int 0 :: .int 0 :: .ref h6 :: .ref h7 :: .int 0 :: .int 0 :: .int 0 :: .int 0 :: .int 0 :: .int 0 :: .int 0 :: .ref h8 :: .int 0 :: .ref h9 :: .int 0 :: .ref h10 :: .ref h11 :: .ref h12 :: .ref h13 :: .ref h14 :: .ref h15 :: .ref h16 :: .int 0 :: .ref h17 :: .int 0 :: .ref h18 :: .int 0 :: .int 0 :: .int 0 :: .ref h19 :: .ref h20 :: .ref h21 :: .ref h22 :: .int 0 :: .ref h23 :: .ref h24 :: []))), (h1, .inl (c 2, 400, .inl f0))] sz)) ((QV (fun A t => ∃ (f_663 : Nat → Int32), va_P D vwCl [(h0, .inr (10, (.ref h1 :: .int 20 :: .int 0 :: .ref h2 :: .ref h3 :: .ref h4 :: .ref h5 :: .int 0 :: .int 0 :: .ref h6 :: .ref h7 :: .int 0 :: .int 0 :: .int 0 :: .int 0 :: .int 0 :: .int 0 :: .int 0 :: .ref h8 :: .int 0 :: .ref h9 :: .int 0 :: .ref h10 :: .ref h11 :: .ref h12 :: .ref h13 :: .ref h14 :: .ref h15 :: .ref h16 :: .int 0 :: .ref h17 :: .int 0 :: .ref h18 :: .int 0 :: .int 0 :: .int 0 :: .ref h19 :: .ref h20 :: .ref h21 :: .ref h22 :: .int 0 :: .ref h23 :: .ref h24 :: []))), (h1, .inl (c 2, 400, .inl f_663))] t.heap ∧ va_D A [(h0, .inr (10, (.ref h1 :: .int 20 :: .int 0 :: .ref h2 :: .ref h3 :: .ref h4 :: .ref h5 :: .int 0 :: .int 0 :: .ref h6 :: .ref h7 :: .int 0 :: .int 0 :: .int 0 :: .int 0 :: .int 0 :: .int 0 :: .int 0 :: .ref h8 :: .int 0 :: .ref h9 :: .int 0 :: .ref h10 :: .ref h11 :: .ref h12 :: .ref h13 :: .ref h14 :: .ref h15 :: .ref h16 :: .int 0 :: .ref h17 :: .int 0 :: .ref h18 :: .int 0 :: .int 0 :: .int 0 :: .ref h19 :: .ref h20 :: .ref h21 :: .ref h22 :: .int 0 :: .ref h23 :: .ref h24 :: []))), (h1, .inl (c 2, 400, .inl f_663))])) (va_A [(h0, .inr (10, (.ref h1 :: .int 16 :: .int 0 :: .ref h2 :: .ref h3 :: .ref h4 :: .ref h5 :: .int 0 :: .int 0 :: .ref h6 :: .ref h7 :: .int 0 :: .int 0 :: .int 0 :: .int 0 :: .int 0 :: .int 0 :: .int 0 :: .ref h8 :: .int 0 :: .ref h9 :: .int 0 :: .ref h10 :: .ref h11 :: .ref h12 :: .ref h13 :: .ref h14 :: .ref h15 :: .ref h16 :: .int 0 :: .ref h17 :: .int 0 :: .ref h18 :: .int 0 :: .int 0 :: .int 0 :: .ref h19 :: .ref h20 :: .ref h21 :: .ref h22 :: .int 0 :: .ref h23 :: .ref h24 :: []))), (h1, .inl (c 2, 400, .inl f0))] sz)) 0 0 (va_A [(h0, .inr (10, (.ref h1 :: .int 16 :: .int 0 :: .ref h2 :: .ref h3 :: .ref h4 :: .ref h5 :: .int 0 :: .int 0 :: .ref h6 :: .ref h7 :: .int 0 :: .int 0 :: .int 0 :: .int 0 :: .int 0 :: .int 0 :: .int 0 :: .ref h8 :: .int 0 :: .ref h9 :: .int 0 :: .ref h10 :: .ref h11 :: .ref h12 :: .ref h13 :: .ref h14 :: .ref h15 :: .ref h16 :: .int 0 :: .ref h17 :: .int 0 :: .ref h18 :: .int 0 :: .int 0 :: .int 0 :: .ref h19 :: .ref h20 :: .ref h21 :: .ref h22 :: .int 0 :: .ref h23 :: .ref h24 :: []))), (h1, .inl (c 2, 400, .inl f0))] sz) := by
  refine start (by decide +kernel) (Nat.le_of_ble_eq_true rfl) ?_
  intro p e s m below meth cd A ls hx hb hr hml hts hown hlocks hin hA hS hK hP hD hN hl
  have hown : s.vm.findClass RX11 = some m.cls := hown
  have hl : lv_has ls 3 [(0, .ref h0), (1, .int v0)] := hl
  have hP : va_P D vwCl [(h0, .inr (10, (.ref h1 :: .int 16 :: .int 0 :: .ref h2 :: .ref h3 :: .ref h4 :: .ref h5 :: .int 0 :: .int 0 :: .ref h6 :: .ref h7 :: .int 0 :: .int 0 :: .int 0 :: .int 0 :: .int 0 :: .int 0 :: .int 0 :: .ref h8 :: .int 0 :: .ref h9 :: .int 0 :: .ref h10 :: .ref h11 :: .ref h12 :: .ref h13 :: .ref h14 :: .ref h15 :: .ref h16 :: .int 0 :: .ref h17 :: .int 0 :: .ref h18 :: .int 0 :: .int 0 :: .int 0 :: .ref h19 :: .ref h20 :: .ref h21 :: .ref h22 :: .int 0 :: .ref h23 :: .ref h24 :: []))), (h1, .inl (c 2, 400, .inl f0))] s.heap := hP
  refine lv_bipush (v := 24) hx hb dX11_four_0 (by decide) ?_
  refine lv_istore_n (lv' := [(2, .int 24), (0, .ref h0), (1, .int v0)]) hx hb dX11_four_2 rfl hl (by decide) rfl (fun ls hl => ?_)
  refine lv_iload_n hx hb dX11_four_3 rfl (lv_at hl 0 rfl) ?_
  refine F_if_lt hx hb 36 dX11_four_4 (by decide) (by decide) ?_
  refine lv_aload_n hx hb dX11_four_7 rfl (lv_at hl 1 rfl) ?_
  refine va_get (D := D) (ci := 10) (v := .ref h1) (C := RX11) (T := TX11) (N := 43) hx hb hts i_X11 hown hK hP 0 rfl rfl 0 (by decide) (hts _ kw_1203) (fun _ h9 => h9) rfl dX11_four_8 ?_
  refine lv_aload_n hx hb dX11_four_11 rfl (lv_at hl 1 rfl) ?_
  refine va_get (D := D) (ci := 10) (v := .int 16) (C := RX11) (T := TX11) (N := 43) hx hb hts i_X11 hown hK hP 0 rfl rfl 1 (by decide) (hts _ kw_1204) (fun _ h9 => h9) rfl dX11_four_12 ?_
  refine lv_iload_n hx hb dX11_four_15 rfl (lv_at hl 2 rfl) ?_
  refine lv_iload_n hx hb dX11_four_16 rfl (lv_at hl 0 rfl) ?_
  refine lv_ishr hx hb dX11_four_17 ?_
  refine lv_topi (fun z_652 ez_652 => ?_)
  refine lv_i2b hx hb dX11_four_18 rfl ?_
  refine lv_topi (fun z_653 ez_653 => ?_)
  refine va_bast hx hb hK hP hD hS 1 2 rfl rfl (vpi (by decide)) dX11_four_19 (fun H locs hP hD hS => ?_)
  obtain ⟨f_654, hP, hD⟩ : ∃ f_654 : Nat → Int32, va_P D vwCl [(h0, .inr (10, (.ref h1 :: .int 16 :: .int 0 :: .ref h2 :: .ref h3 :: .ref h4 :: .ref h5 :: .int 0 :: .int 0 :: .ref h6 :: .ref h7 :: .int 0 :: .int 0 :: .int 0 :: .int 0 :: .int 0 :: .int 0 :: .int 0 :: .ref h8 :: .int 0 :: .ref h9 :: .int 0 :: .ref h10 :: .ref h11 :: .ref h12 :: .ref h13 :: .ref h14 :: .ref h15 :: .ref h16 :: .int 0 :: .ref h17 :: .int 0 :: .ref h18 :: .int 0 :: .int 0 :: .int 0 :: .ref h19 :: .ref h20 :: .ref h21 :: .ref h22 :: .int 0 :: .ref h23 :: .ref h24 :: []))), (h1, .inl (c 2, 400, .inl f_654))] H ∧ va_D A [(h0, .inr (10, (.ref h1 :: .int 16 :: .int 0 :: .ref h2 :: .ref h3 :: .ref h4 :: .ref h5 :: .int 0 :: .int 0 :: .ref h6 :: .ref h7 :: .int 0 :: .int 0 :: .int 0 :: .int 0 :: .int 0 :: .int 0 :: .int 0 :: .ref h8 :: .int 0 :: .ref h9 :: .int 0 :: .ref h10 :: .ref h11 :: .ref h12 :: .ref h13 :: .ref h14 :: .ref h15 :: .ref h16 :: .int 0 :: .ref h17 :: .int 0 :: .ref h18 :: .int 0 :: .int 0 :: .int 0 :: .ref h19 :: .ref h20 :: .ref h21 :: .ref h22 :: .int 0 :: .ref h23 :: .ref h24 :: []))), (h1, .inl (c 2, 400, .inl f_654))] := ⟨upd f0 (Int32.toNatClampNeg 16) (vp_nar .byte z_653), hP, hD⟩
  refine lv_aload_n hx hb dX11_four_20 rfl (lv_at hl 1 rfl) ?_
  refine lv_dup hx hb dX11_four_21 rfl ?_
  refine va_get (D := D) (ci := 10) (v := .int 16) (C := RX11) (T := TX11) (N := 43) hx hb hts i_X11 hown hK hP 0 rfl rfl 1 (by decide) (hts _ kw_1204) (fun _ h9 => h9) rfl dX11_four_22 ?_
  refine lv_iconst (v := 1) hx hb dX11_four_25 (by decide) ?_
  refine lv_iadd hx hb dX11_four_26 ?_
  refine tpi 17 (by decide) ?_
  refine va_put (D := D) (ci := 10) (v := .int 17) (ty := .int) (C := RX11) (T := TX11) (N := 43) hx hb hts i_X11 tyX11 tyX11_ok nmX11 hown hK hP hD hS 0 rfl rfl 1 (by decide) (hts _ kw_1204) (fun _ h9 => h9) rfl (tyX11_ok 1 (by decide)) rfl rfl (Nat.le_of_ble_eq_true rfl) dX11_four_27 (fun H locs hP hD hS => ?_)
  have hP : va_P D vwCl [(h0, .inr (10, (.ref h1 :: .int 17 :: .int 0 :: .ref h2 :: .ref h3 :: .ref h4 :: .ref h5 :: .int 0 :: .int 0 :: .ref h6 :: .ref h7 :: .int 0 :: .int 0 :: .int 0 :: .int 0 :: .int 0 :: .int 0 :: .int 0 :: .ref h8 :: .int 0 :: .ref h9 :: .int 0 :: .ref h10 :: .ref h11 :: .ref h12 :: .ref h13 :: .ref h14 :: .ref h15 :: .ref h16 :: .int 0 :: .ref h17 :: .int 0 :: .ref h18 :: .int 0 :: .int 0 :: .int 0 :: .ref h19 :: .ref h20 :: .ref h21 :: .ref h22 :: .int 0 :: .ref h23 :: .ref h24 :: []))), (h1, .inl (c 2, 400, .inl f_654))] H := hP
  have hD : va_D A [(h0, .inr (10, (.ref h1 :: .int 17 :: .int 0 :: .ref h2 :: .ref h3 :: .ref h4 :: .ref h5 :: .int 0 :: .int 0 :: .ref h6 :: .ref h7 :: .int 0 :: .int 0 :: .int 0 :: .int 0 :: .int 0 :: .int 0 :: .int 0 :: .ref h8 :: .int 0 :: .ref h9 :: .int 0 :: .ref h10 :: .ref h11 :: .ref h12 :: .ref h13 :: .ref h14 :: .ref h15 :: .ref h16 :: .int 0 :: .ref h17 :: .int 0 :: .ref h18 :: .int 0 :: .int 0 :: .int 0 :: .ref h19 :: .ref h20 :: .ref h21 :: .ref h22 :: .int 0 :: .ref h23 :: .ref h24 :: []))), (h1, .inl (c 2, 400, .inl f_654))] := hD
  refine lv_iinc (v := 16) (lv' := [(2, .int 16), (0, .ref h0), (1, .int v0)]) hx hb dX11_four_30 hl (k := 0) rfl (by decide) (by decide) rfl (fun ls hl => ?_)
  refine lv_goto (tgt := 3) hx hb dX11_four_33 (by decide) ?_
  refine lv_iload_n hx hb dX11_four_3 rfl (lv_at hl 0 rfl) ?_
  refine F_if_lt hx hb 36 dX11_four_4 (by decide) (by decide) ?_
  refine lv_aload_n hx hb dX11_four_7 rfl (lv_at hl 1 rfl) ?_
  refine va_get (D := D) (ci := 10) (v := .ref h1) (C := RX11) (T := TX11) (N := 43) hx hb hts i_X11 hown hK hP 0 rfl rfl 0 (by decide) (hts _ kw_1203) (fun _ h9 => h9) rfl dX11_four_8 ?_
  refine lv_aload_n hx hb dX11_four_11 rfl (lv_at hl 1 rfl) ?_
  refine va_get (D := D) (ci := 10) (v := .int 17) (C := RX11) (T := TX11) (N := 43) hx hb hts i_X11 hown hK hP 0 rfl rfl 1 (by decide) (hts _ kw_1204) (fun _ h9 => h9) rfl dX11_four_12 ?_
  refine lv_iload_n hx hb dX11_four_15 rfl (lv_at hl 2 rfl) ?_
  refine lv_iload_n hx hb dX11_four_16 rfl (lv_at hl 0 rfl) ?_
  refine lv_ishr hx hb dX11_four_17 ?_
  refine lv_topi (fun z_655 ez_655 => ?_)
  refine lv_i2b hx hb dX11_four_18 rfl ?_
  refine lv_topi (fun z_656 ez_656 => ?_)
  refine va_bast hx hb hK hP hD hS 1 2 rfl rfl (vpi (by decide)) dX11_four_19 (fun H locs hP hD hS => ?_)
  obtain ⟨f_657, hP, hD⟩ : ∃ f_657 : Nat → Int32, va_P D vwCl [(h0, .inr (10, (.ref h1 :: .int 17 :: .int 0 :: .ref h2 :: .ref h3 :: .ref h4 :: .ref h5 :: .int 0 :: .int 0 :: .ref h6 :: .ref h7 :: .int 0 :: .int 0 :: .int 0 :: .int 0 :: .int 0 :: .int 0 :: .int 0 :: .ref h8 :: .int 0 :: .ref h9 :: .int 0 :: .ref h10 :: .ref h11 :: .ref h12 :: .ref h13 :: .ref h14 :: .ref h15 :: .ref h16 :: .int 0 :: .ref h17 :: .int 0 :: .ref h18 :: .int 0 :: .int 0 :: .int 0 :: .ref h19 :: .ref h20 :: .ref h21 :: .ref h22 :: .int 0 :: .ref h23 :: .ref h24 :: []))), (h1, .inl (c 2, 400, .inl f_657))] H ∧ va_D A [(h0, .inr (10, (.ref h1 :: .int 17 :: .int 0 :: .ref h2 :: .ref h3 :: .ref h4 :: .ref h5 :: .int 0 :: .int 0 :: .ref h6 :: .ref h7 :: .int 0 :: .int 0 :: .int 0 :: .int 0 :: .int 0 :: .int 0 :: .int 0 :: .ref h8 :: .int 0 :: .ref h9 :: .int 0 :: .ref h10 :: .ref h11 :: .ref h12 :: .ref h13 :: .ref h14 :: .ref h15 :: .ref h16 :: .int 0 :: .ref h17 :: .int 0 :: .ref h18 :: .int 0 :: .int 0 :: .int 0 :: .ref h19 :: .ref h20 :: .ref h21 :: .ref h22 :: .int 0 :: .ref h23 :: .ref h24 :: []))), (h1, .inl (c 2, 400, .inl f_657))] := ⟨upd f_654 (Int32.toNatClampNeg 17) (vp_nar .byte z_656), hP, hD⟩
  refine lv_aload_n hx hb dX11_four_20 rfl (lv_at hl 1 rfl) ?_
  refine lv_dup hx hb dX11_four_21 rfl ?_
  refine va_get (D := D) (ci := 10) (v := .int 17) (C := RX11) (T := TX11) (N := 43) hx hb hts i_X11 hown hK hP 0 rfl rfl 1 (by decide) (hts _ kw_1204) (fun _ h9 => h9) rfl dX11_four_22 ?_
  refine lv_iconst (v := 1) hx hb dX11_four_25 (by decide) ?_
  refine lv_iadd hx hb dX11_four_26 ?_
  refine tpi 18 (by decide) ?_
  refine va_put (D := D) (ci := 10) (v := .int 18) (ty := .int) (C := RX11) (T := TX11) (N := 43) hx hb hts i_X11 tyX11 tyX11_ok nmX11 hown hK hP hD hS 0 rfl rfl 1 (by decide) (hts _ kw_1204) (fun _ h9 => h9) rfl (tyX11_ok 1 (by decide)) rfl rfl (Nat.le_of_ble_eq_true rfl) dX11_four_27 (fun H locs hP hD hS => ?_)
  have hP : va_P D vwCl [(h0, .inr (10, (.ref h1 :: .int 18 :: .int 0 :: .ref h2 :: .ref h3 :: .ref h4 :: .ref h5 :: .int 0 :: .int 0 :: .ref h6 :: .ref h7 :: .int 0 :: .int 0 :: .int 0 :: .int 0 :: .int 0 :: .int 0 :: .int 0 :: .ref h8 :: .int 0 :: .ref h9 :: .int 0 :: .ref h10 :: .ref h11 :: .ref h12 :: .ref h13 :: .ref h14 :: .ref h15 :: .ref h16 :: .int 0 :: .ref h17 :: .int 0 :: .ref h18 :: .int 0 :: .int 0 :: .int 0 :: .ref h19 :: .ref h20 :: .ref h21 :: .ref h22 :: .int 0 :: .ref h23 :: .ref h24 :: []))), (h1, .inl (c 2, 400, .inl f_657))] H := hP
  have hD : va_D A [(h0, .inr (10, (.ref h1 :: .int 18 :: .int 0 :: .ref h2 :: .ref h3 :: .ref h4 :: .ref h5 :: .int 0 :: .int 0 :: .ref h6 :: .ref h7 :: .int 0 :: .int 0 :: .int 0 :: .int 0 :: .int 0 :: .int 0 :: .int 0 :: .ref h8 :: .int 0 :: .ref h9 :: .int 0 :: .ref h10 :: .ref h11 :: .ref h12 :: .ref h13 :: .ref h14 :: .ref h15 :: .ref h16 :: .int 0 :: .ref h17 :: .int 0 :: .ref h18 :: .int 0 :: .int 0 :: .int 0 :: .ref h19 :: .ref h20 :: .ref h21 :: .ref h22 :: .int 0 :: .ref h23 :: .ref h24 :: []))), (h1, .inl (c 2, 400, .inl f_657))] := hD
  refine lv_iinc (v := 8) (lv' := [(2, .int 8), (0, .ref h0), (1, .int v0)]) hx hb dX11_four_30 hl (k := 0) rfl (by decide) (by decide) rfl (fun ls hl => ?_)
  refine lv_goto (tgt := 3) hx hb dX11_four_33 (by decide) ?_
  refine lv_iload_n hx hb dX11_four_3 rfl (lv_at hl 0 rfl) ?_
  refine F_if_lt hx hb 36 dX11_four_4 (by decide) (by decide) ?_
  refine lv_aload_n hx hb dX11_four_7 rfl (lv_at hl 1 rfl) ?_
  refine va_get (D := D) (ci := 10) (v := .ref h1) (C := RX11) (T := TX11) (N := 43) hx hb hts i_X11 hown hK hP 0 rfl rfl 0 (by decide) (hts _ kw_1203) (fun _ h9 => h9) rfl dX11_four_8 ?_
  refine lv_aload_n hx hb dX11_four_11 rfl (lv_at hl 1 rfl) ?_
  refine va_get (D := D) (ci := 10) (v := .int 18) (C := RX11) (T := TX11) (N := 43) hx hb hts i_X11 hown hK hP 0 rfl rfl 1 (by decide) (hts _ kw_1204) (fun _ h9 => h9) rfl dX11_four_12 ?_
  refine lv_iload_n hx hb dX11_four_15 rfl (lv_at hl 2 rfl) ?_
  refine lv_iload_n hx hb dX11_four_16 rfl (lv_at hl 0 rfl) ?_
  refine lv_ishr hx hb dX11_four_17 ?_
  refine lv_topi (fun z_658 ez_658 => ?_)
  refine lv_i2b hx hb dX11_four_18 rfl ?_
  refine lv_topi (fun z_659 ez_659 => ?_)
  refine va_bast hx hb hK hP hD hS 1 2 rfl rfl (vpi (by decide)) dX11_four_19 (fun H locs hP hD hS => ?_)
  obtain ⟨f_660, hP, hD⟩ : ∃ f_660 : Nat → Int32, va_P D vwCl [(h0, .inr (10, (.ref h1 :: .int 18 :: .int 0 :: .ref h2 :: .ref h3 :: .ref h4 :: .ref h5 :: .int 0 :: .int 0 :: .ref h6 :: .ref h7 :: .int 0 :: .int 0 :: .int 0 :: .int 0 :: .int 0 :: .int 0 :: .int 0 :: .ref h8 :: .int 0 :: .ref h9 :: .int 0 :: .ref h10 :: .ref h11 :: .ref h12 :: .ref h13 :: .ref h14 :: .ref h15 :: .ref h16 :: .int 0 :: .ref h17 :: .int 0 :: .ref h18 :: .int 0 :: .int 0 :: .int 0 :: .ref h19 :: .ref h20 :: .ref h21 :: .ref h22 :: .int 0 :: .ref h23 :: .ref h24 :: []))), (h1, .inl (c 2, 400, .inl f_660))] H ∧ va_D A [(h0, .inr (10, (.ref h1 :: .int 18 :: .int 0 :: .ref h2 :: .ref h3 :: .ref h4 :: .ref h5 :: .int 0 :: .int 0 :: .ref h6 :: .ref h7 :: .int 0 :: .int 0 :: .int 0 :: .int 0 :: .int 0 :: .int 0 :: .int 0 :: .ref h8 :: .int 0 :: .ref h9 :: .int 0 :: .ref h10 :: .ref h11 :: .ref h12 :: .ref h13 :: .ref h14 :: .ref h15 :: .ref h16 :: .int 0 :: .ref h17 :: .int 0 :: .ref h18 :: .int 0 :: .int 0 :: .int 0 :: .ref h19 :: .ref h20 :: .ref h21 :: .ref h22 :: .int 0 :: .ref h23 :: .ref h24 :: []))), (h1, .inl (c 2, 400, .inl f_660))] := ⟨upd f_657 (Int32.toNatClampNeg 18) (vp_nar .byte z_659), hP, hD⟩
  refine lv_aload_n hx hb dX11_four_20 rfl (lv_at hl 1 rfl) ?_
  refine lv_dup hx hb dX11_four_21 rfl ?_
  refine va_get (D := D) (ci := 10) (v := .int 18) (C := RX11) (T := TX11) (N := 43) hx hb hts i_X11 hown hK hP 0 rfl rfl 1 (by decide) (hts _ kw_1204) (fun _ h9 => h9) rfl dX11_four_22 ?_
  refine lv_iconst (v := 1) hx hb dX11_four_25 (by decide) ?_
  refine lv_iadd hx hb dX11_four_26 ?_
  refine tpi 19 (by decide) ?_
  refine va_put (D := D) (ci := 10) (v := .int 19) (ty := .int) (C := RX11) (T := TX11) (N := 43) hx hb hts i_X11 tyX11 tyX11_ok nmX11 hown hK hP hD hS 0 rfl rfl 1 (by decide) (hts _ kw_1204) (fun _ h9 => h9) rfl (tyX11_ok 1 (by decide)) rfl rfl (Nat.le_of_ble_eq_true rfl) dX11_four_27 (fun H locs hP hD hS => ?_)
  have hP : va_P D vwCl [(h0, .inr (10, (.ref h1 :: .int 19 :: .int 0 :: .ref h2 :: .ref h3 :: .ref h4 :: .ref h5 :: .int 0 :: .int 0 :: .ref h6 :: .ref h7 :: .int 0 :: .int 0 :: .int 0 :: .int 0 :: .int 0 :: .int 0 :: .int 0 :: .ref h8 :: .int 0 :: .ref h9 :: .int 0 :: .ref h10 :: .ref h11 :: .ref h12 :: .ref h13 :: .ref h14 :: .ref h15 :: .ref h16 :: .int 0 :: .ref h17 :: .int 0 :: .ref h18 :: .int 0 :: .int 0 :: .int 0 :: .ref h19 :: .ref h20 :: .ref h21 :: .ref h22 :: .int 0 :: .ref h23 :: .ref h24 :: []))), (h1, .inl (c 2, 400, .inl f_660))] H := hP
  have hD : va_D A [(h0, .inr (10, (.ref h1 :: .int 19 :: .int 0 :: .ref h2 :: .ref h3 :: .ref h4 :: .ref h5 :: .int 0 :: .int 0 :: .ref h6 :: .ref h7 :: .int 0 :: .int 0 :: .int 0 :: .int 0 :: .int 0 :: .int 0 :: .int 0 :: .ref h8 :: .int 0 :: .ref h9 :: .int 0 :: .ref h10 :: .ref h11 :: .ref h12 :: .ref h13 :: .ref h14 :: .ref h15 :: .ref h16 :: .int 0 :: .ref h17 :: .int 0 :: .ref h18 :: .int 0 :: .int 0 :: .int 0 :: .ref h19 :: .ref h20 :: .ref h21 :: .ref h22 :: .int 0 :: .ref h23 :: .ref h24 :: []))), (h1, .inl (c 2, 400, .inl f_660))] := hD
  refine lv_iinc (v := 0) (lv' := [(2, .int 0), (0, .ref h0), (1, .int v0)]) hx hb dX11_four_30 hl (k := 0) rfl (by decide) (by decide) rfl (fun ls hl => ?_)
  refine lv_goto (tgt := 3) hx hb dX11_four_33 (by decide) ?_
  refine lv_iload_n hx hb dX11_four_3 rfl (lv_at hl 0 rfl) ?_
  refine F_if_lt hx hb 36 dX11_four_4 (by decide) (by decide) ?_
  refine lv_aload_n hx hb dX11_four_7 rfl (lv_at hl 1 rfl) ?_
  refine va_get (D := D) (ci := 10) (v := .ref h1) (C := RX11) (T := TX11) (N := 43) hx hb hts i_X11 hown hK hP 0 rfl rfl 0 (by decide) (hts _ kw_1203) (fun _ h9 => h9) rfl dX11_four_8 ?_
  refine lv_aload_n hx hb dX11_four_11 rfl (lv_at hl 1 rfl) ?_
  refine va_get (D := D) (ci := 10) (v := .int 19) (C := RX11) (T := TX11) (N := 43) hx hb hts i_X11 hown hK hP 0 rfl rfl 1 (by decide) (hts _ kw_1204) (fun _ h9 => h9) rfl dX11_four_12 ?_
  refine lv_iload_n hx hb dX11_four_15 rfl (lv_at hl 2 rfl) ?_
  refine lv_iload_n hx hb dX11_four_16 rfl (lv_at hl 0 rfl) ?_
  refine lv_ishr hx hb dX11_four_17 ?_
  refine lv_topi (fun z_661 ez_661 => ?_)
  refine lv_i2b hx hb dX11_four_18 rfl ?_
  refine lv_topi (fun z_662 ez_662 => ?_)
  refine va_bast hx hb hK hP hD hS 1 2 rfl rfl (vpi (by decide)) dX11_four_19 (fun H locs hP hD hS => ?_)
  obtain ⟨f_663, hP, hD⟩ : ∃ f_663 : Nat → Int32, va_P D vwCl [(h0, .inr (10, (.ref h1 :: .int 19 :: .int 0 :: .ref h2 :: .ref h3 :: .ref h4 :: .ref h5 :: .int 0 :: .int 0 :: .ref h6 :: .ref h7 :: .int 0 :: .int 0 :: .int 0 :: .int 0 :: .int 0 :: .int 0 :: .int 0 :: .ref h8 :: .int 0 :: .ref h9 :: .int 0 :: .ref h10 :: .ref h11 :: .ref h12 :: .ref h13 :: .ref h14 :: .ref h15 :: .ref h16 :: .int 0 :: .ref h17 :: .int 0 :: .ref h18 :: .int 0 :: .int 0 :: .int 0 :: .ref h19 :: .ref h20 :: .ref h21 :: .ref h22 :: .int 0 :: .ref h23 :: .ref h24 :: []))), (h1, .inl (c 2, 400, .inl f_663))] H ∧ va_D A [(h0, .inr (10, (.ref h1 :: .int 19 :: .int 0 :: .ref h2 :: .ref h3 :: .ref h4 :: .ref h5 :: .int 0 :: .int 0 :: .ref h6 :: .ref h7 :: .int 0 :: .int 0 :: .int 0 :: .int 0 :: .int 0 :: .int 0 :: .int 0 :: .ref h8 :: .int 0 :: .ref h9 :: .int 0 :: .ref h10 :: .ref h11 :: .ref h12 :: .ref h13 :: .ref h14 :: .ref h15 :: .ref h16 :: .int 0 :: .ref h17 :: .int 0 :: .ref h18 :: .int 0 :: .int 0 :: .int 0 :: .ref h19 :: .ref h20 :: .ref h21 :: .ref h22 :: .int 0 :: .ref h23 :: .ref h24 :: []))), (h1, .inl (c 2, 400, .inl f_663))] := ⟨upd f_660 (Int32.toNatClampNeg 19) (vp_nar .byte z_662), hP, hD⟩
  refine lv_aload_n hx hb dX11_four_20 rfl (lv_at hl 1 rfl) ?_
  refine lv_dup hx hb dX11_four_21 rfl ?_
  refine va_get (D := D) (ci := 10) (v := .int 19) (C := RX11) (T := TX11) (N := 43) hx hb hts i_X11 hown hK hP 0 rfl rfl 1 (by decide) (hts _ kw_1204) (fun _ h9 => h9) rfl dX11_four_22 ?_
  refine lv_iconst (v := 1) hx hb dX11_four_25 (by decide) ?_
  refine lv_iadd hx hb dX11_four_26 ?_
  refine tpi 20 (by decide) ?_
  refine va_put (D := D) (ci := 10) (v := .int 20) (ty := .int) (C := RX11) (T := TX11) (N := 43) hx hb hts i_X11 tyX11 tyX11_ok nmX11 hown hK hP hD hS 0 rfl rfl 1 (by decide) (hts _ kw_1204) (fun _ h9 => h9) rfl (tyX11_ok 1 (by decide)) rfl rfl (Nat.le_of_ble_eq_true rfl) dX11_four_27 (fun H locs hP hD hS => ?_)
  have hP : va_P D vwCl [(h0, .inr (10, (.ref h1 :: .int 20 :: .int 0 :: .ref h2 :: .ref h3 :: .ref h4 :: .ref h5 :: .int 0 :: .int 0 :: .ref h6 :: .ref h7 :: .int 0 :: .int 0 :: .int 0 :: .int 0 :: .int 0 :: .int 0 :: .int 0 :: .ref h8 :: .int 0 :: .ref h9 :: .int 0 :: .ref h10 :: .ref h11 :: .ref h12 :: .ref h13 :: .ref h14 :: .ref h15 :: .ref h16 :: .int 0 :: .ref h17 :: .int 0 :: .ref h18 :: .int 0 :: .int 0 :: .int 0 :: .ref h19 :: .ref h20 :: .ref h21 :: .ref h22 :: .int 0 :: .ref h23 :: .ref h24 :: []))), (h1, .inl (c 2, 400, .inl f_663))] H := hP
  have hD : va_D A [(h0, .inr (10, (.ref h1 :: .int 20 :: .int 0 :: .ref h2 :: .ref h3 :: .ref h4 :: .ref h5 :: .int 0 :: .int 0 :: .ref h6 :: .ref h7 :: .int 0 :: .int 0 :: .int 0 :: .int 0 :: .int 0 :: .int 0 :: .int 0 :: .ref h8 :: .int 0 :: .ref h9 :: .int 0 :: .ref h10 :: .ref h11 :: .ref h12 :: .ref h13 :: .ref h14 :: .ref h15 :: .ref h16 :: .int 0 :: .ref h17 :: .int 0 :: .ref h18 :: .int 0 :: .int 0 :: .int 0 :: .ref h19 :: .ref h20 :: .ref h21 :: .ref h22 :: .int 0 :: .ref h23 :: .ref h24 :: []))), (h1, .inl (c 2, 400, .inl f_663))] := hD
  refine lv_iinc (v := (-8)) (lv' := [(2, .int (-8)), (0, .ref h0), (1, .int v0)]) hx hb dX11_four_30 hl (k := 0) rfl (by decide) (by decide) rfl (fun ls hl => ?_)
  refine lv_goto (tgt := 3) hx hb dX11_four_33 (by decide) ?_
  refine lv_iload_n hx hb dX11_four_3 rfl (lv_at hl 0 rfl) ?_
  refine T_if_lt (tgt := 36) hx hb dX11_four_4 (by decide) (by decide) ?_
  exact retV hx hb hr hlocks hS (by decide) (by decide) dX11_four_36 (fun t ht => ⟨f_663, by rw [ht]; exact hP, hD⟩)
