theorem sl_neg {L : Nat} (h : L < 6) : (Int32.ofNat L - 6 : Int32) < 0 := by
  rcases (show L = 0 ∨ L = 1 ∨ L = 2 ∨ L = 3 ∨ L = 4 ∨ L = 5 by omega) with rfl | rfl | rfl | rfl | rfl | rfl <;> decide
theorem arr_known {args : Array Value} {s : State} {ty : FieldType} (hp : ∀ C, ty ≠ .object C) (h : (Cond.arrayClass ty).before args s = true) : ∃ cA : ClassId, ArrOfT s cA ty ∧ va_RA s cA ty := by
  obtain ⟨cA, kA, comp, h1, h2, h3⟩ := Cond.arrayClass_spec h
  refine ⟨cA, fun n z => ⟨fun k h => (by cases h), kA, h2, comp, h3⟩, ?_⟩
  cases ty with
  | object C => exact absurd rfl (hp C)
  | _ => exact h1
theorem arq_known {s : State} {C : String} (h : va_AO C s) : ∃ cA : ClassId, ArrOfT s cA (.object C) ∧ va_RA s cA (.object C) := by
  obtain ⟨comp, cA, kA, f1, -, f3, f4, f5⟩ := Cond.arrayOver_spec h
  exact ⟨cA, fun n z => ⟨fun k h => (by cases h), kA, f3, comp, f4⟩, kA, comp, f3, f4, f1, f5⟩
set_option maxHeartbeats 4000000 in
theorem K_start {args : Array Value} {s : State} (hts : ∀ w ∈ TB, w.before args s = true) (hN : NN s) : ∃ (D : va_G) (c : Nat → ClassId), va_K D vwCl (kT c) s := by
  obtain ⟨c0, j0, hk0⟩ := u_known (C := RX0) (T := TX0) (N := 8) (n := 8) hts i_X0 (hts _ kw_438)
  obtain ⟨c1, j1, hk1⟩ := u_known (C := RX1) (T := TX1) (N := 8) (n := 8) hts i_X1 (hts _ kw_268)
  obtain ⟨c2, j2, hk2⟩ := u_known (C := RX3) (T := TX3) (N := 7) (n := 7) hts i_X3 (hts _ kw_366)
  obtain ⟨c3, j3, hk3⟩ := u_known (C := RX4) (T := TX4) (N := 9) (n := 9) hts i_X4 (hts _ kw_207)
  obtain ⟨c4, j4, hk4⟩ := u_known (C := RX5) (T := TX5) (N := 5) (n := 5) hts i_X5 (hts _ kw_682)
  obtain ⟨c5, j5, hk5⟩ := u_known (C := RX6) (T := TX6) (N := 5) (n := 5) hts i_X6 (hts _ kw_177)
  obtain ⟨c6, j6, hk6⟩ := u_known (C := RX7) (T := TX7) (N := 12) (n := 12) hts i_X7 (hts _ kw_395)
  obtain ⟨c7, j7, hk7⟩ := u_known (C := RX8) (T := TX8) (N := 8) (n := 8) hts i_X8 (hts _ kw_201)
  obtain ⟨c8, j8, hk8⟩ := u_known (C := RX9) (T := TX9) (N := 6) (n := 6) hts i_X9 (hts _ kw_142)
  obtain ⟨c9, j9, hk9⟩ := u_known (C := RX10) (T := TX10) (N := 10) (n := 10) hts i_X10 (hts _ kw_134)
  obtain ⟨c10, j10, hk10⟩ := u_known (C := RX11) (T := TX11) (N := 43) (n := 43) hts i_X11 (hts _ kw_1197)
  obtain ⟨b0, hb0⟩ := arr_known (ty := .int) (by intro C h; cases h) (hts _ kw_175)
  obtain ⟨b1, hb1⟩ := arr_known (ty := .long) (by intro C h; cases h) (hts _ kw_393)
  obtain ⟨b2, hb2⟩ := arr_known (ty := .byte) (by intro C h; cases h) (hts _ kw_636)
  obtain ⟨b3, hb3⟩ := arr_known (ty := .boolean) (by intro C h; cases h) (hts _ kw_1333)
  obtain ⟨b4, hb4⟩ := arq_known hN.2.1
  obtain ⟨b5, hb5⟩ := arq_known hN.2.2
  refine ⟨(fun k => if k = 0 then c0 else if k = 1 then c1 else if k = 2 then c2 else if k = 3 then c3 else if k = 4 then c4 else if k = 5 then c5 else if k = 6 then c6 else if k = 7 then c7 else if k = 8 then c8 else if k = 9 then c9 else c10, fun k => if k = 0 then j0 else if k = 1 then j1 else if k = 2 then j2 else if k = 3 then j3 else if k = 4 then j4 else if k = 5 then j5 else if k = 6 then j6 else if k = 7 then j7 else if k = 8 then j8 else if k = 9 then j9 else j10), fun k => if k = 0 then b0 else if k = 1 then b1 else if k = 2 then b2 else if k = 3 then b3 else if k = 4 then b4 else b5, ?_, ?_⟩
  · intro k q hq
    match k, hq with
    | 0, hq => cases hq; exact hk0
    | 1, hq => cases hq; exact hk1
    | 2, hq => cases hq; exact hk2
    | 3, hq => cases hq; exact hk3
    | 4, hq => cases hq; exact hk4
    | 5, hq => cases hq; exact hk5
    | 6, hq => cases hq; exact hk6
    | 7, hq => cases hq; exact hk7
    | 8, hq => cases hq; exact hk8
    | 9, hq => cases hq; exact hk9
    | 10, hq => cases hq; exact hk10
    | k + 11, hq => simp [vwCl] at hq
  · intro k q hq
    match k, hq with
    | 0, hq => cases hq; exact hb0
    | 1, hq => cases hq; exact hb1
    | 2, hq => cases hq; exact hb2
    | 3, hq => cases hq; exact hb3
    | 4, hq => cases hq; exact hb4
    | 5, hq => cases hq; exact hb5
    | k + 6, hq => simp [kT] at hq
theorem N_start {args : Array Value} {s : State} (hts : ∀ w ∈ lw_tbl, w.before args s = true) : NN s := by
  have at_ : ∀ (w : Cond) (i : Nat), lw_tbl[i]? = some w → w.before args s = true := fun w i h => hts w (List.mem_of_getElem? h)
  refine ⟨?_, va_AO.of (at_ _ 199 (by decide +kernel)), va_AO.of (at_ _ 364 (by decide +kernel))⟩
  intro q hq
  simp only [nestL, List.mem_cons, List.not_mem_nil, or_false] at hq
  rcases hq with rfl | rfl | rfl | rfl | rfl | rfl | rfl | rfl
  · exact va_Nw.of rfl (at_ _ 143 (by decide +kernel))
  · exact va_Nw.of rfl (at_ _ 202 (by decide +kernel))
  · exact va_Nw.of rfl (at_ _ 208 (by decide +kernel))
  · exact va_Nw.of rfl (at_ _ 269 (by decide +kernel))
  · exact va_Nw.of rfl (at_ _ 367 (by decide +kernel))
  · exact va_Nw.of rfl (at_ _ 944 (by decide +kernel))
  · exact va_Nw.of rfl (at_ _ 609 (by decide +kernel))
  · exact va_Nw.of rfl (at_ _ 885 (by decide +kernel))
def wBy : List Int32 := [119, 97, 121, 32, 32, 32, 32, 32, 109, 105, 110, 117, 116, 101, 115, 32, 103, 111, 110, 101, 32, 32, 32, 32, 108, 97, 115, 116, 32, 32, 32, 32, 116, 111, 32, 32, 32, 32, 32, 32, 102, 97, 114, 32, 32, 32, 32, 32, 111, 117, 116, 32, 32, 32, 32, 32, 116, 104, 101, 114, 101, 32, 32, 32, 103, 111, 101, 114, 32, 32, 32, 32, 97, 105, 109, 32, 32, 32, 32, 32, 99, 108, 111, 99, 107, 32, 32, 32, 111, 110, 32, 32, 32, 32, 32, 32, 116, 97, 107, 101, 32, 32, 32, 32, 119, 97, 105, 116, 32, 32, 32, 32, 105, 102, 32, 32, 32, 32, 32, 32, 97, 110, 100, 32, 32, 32, 32, 32, 111, 114, 32, 32, 32, 32, 32, 32, 110, 111, 116, 32, 32, 32, 32, 32]
set_option maxHeartbeats 4000000 in
set_option maxRecDepth 100000 in
theorem el_at : ∀ j : Nat, j < 144 → (flatC (Jvm.Cond.and given_1 narrow_1))[35 + j]? = some (Cond.eq (.elem (.field (.string "TurningRoads$Tape" 39) "java/lang/String" "value" "[B") (.int (Int32.ofNat j))) (.int (wBy.getD j 0))) := by decide +kernel
set_option maxHeartbeats 4000000 in
set_option maxRecDepth 100000 in
theorem E_start {b : Nat} {s : State} {A : Nat → Prop} (hts : ∀ w ∈ lw_tbl, w.before #[Value.ref b] s = true) (hgv : (Jvm.Cond.and given_1 narrow_1).before #[Value.ref b] s = true) (hA : ∀ a : Nat, a < s.heap.size → ¬ A a) : ∃ (kS vS : Nat) (fS : Nat → Int32), SX kS vS fS A s s.heap := by
  have hs := flat_of_before _ hgv
  have at_ : ∀ (w : Cond) (i : Nat), lw_tbl[i]? = some w → w.before #[Value.ref b] s = true := fun w i h => hts w (List.mem_of_getElem? h)
  have hex : (Cond.exactly (.string "TurningRoads$Tape" 39) "java/lang/String").before #[Value.ref b] s = true := hs _ (List.mem_of_getElem? (i := 31) (by decide +kernel))
  have hco : (Cond.eq (.field (.string "TurningRoads$Tape" 39) "java/lang/String" "coder" "B") (.int 0)).before #[Value.ref b] s = true := hs _ (List.mem_of_getElem? (i := 32) (by decide +kernel))
  have har : (Cond.arrayOf (.field (.string "TurningRoads$Tape" 39) "java/lang/String" "value" "[B") .byte).before #[Value.ref b] s = true := hs _ (List.mem_of_getElem? (i := 33) (by decide +kernel))
  have hle : (Cond.eq (.length (.field (.string "TurningRoads$Tape" 39) "java/lang/String" "value" "[B")) (.int (Int32.ofNat 144))).before #[Value.ref b] s = true := hs _ (List.mem_of_getElem? (i := 34) (by decide +kernel))
  obtain ⟨adK, adV, hS, hev⟩ := vk_Sof (args := #[Value.ref b]) (s := s) (N := 1) (tm := fun _ => .string "TurningRoads$Tape" 39) (len := [144]) (byt := [wBy]) (A := A)
    (fun i hi => by have : i = 0 := by omega
                    subst this; decide) (fun i hi => hex) (fun i hi => hco) (fun i hi => har)
    (fun i hi => by have : i = 0 := by omega
                    subst this; exact hle)
    (fun i hi j hj => by have : i = 0 := by omega
                         subst this; exact hs _ (List.mem_of_getElem? (i := 35 + j) (el_at j hj)))
    (fun i j hi hj hn => absurd (show i = j by omega) hn) hA
  have h0 := hS.1 0 (by decide)
  refine ⟨adK 0, adV 0, fun j => wBy.getD j 0, vk_R.of (A := #[Value.ref b]) (at_ _ 547 (by decide +kernel)) (hev 0 (by decide)), h0.1, h0.2.1, h0.2.2.1, h0.2.2.2, ?_, ?_⟩
  · exact va_Zof (at_ (Cond.laysStatic "java/lang/String" "COMPACT_STRINGS" "Z") 557 (by decide +kernel)) (at_ (Cond.initialized "java/lang/String") 124 (by decide +kernel)) (va_eqt (hs _ (List.mem_of_getElem? (i := 4) (by decide +kernel)))) hA
  · exact va_Zqof (at_ (Cond.laysStatic "jdk/internal/util/Preconditions" "SIOOBE_FORMATTER" "Ljava/util/function/BiFunction;") 565 (by decide +kernel)) (at_ (Cond.initialized "jdk/internal/util/Preconditions") 126 (by decide +kernel)) (hs _ (List.mem_of_getElem? (i := 5) (by decide +kernel))) hA
