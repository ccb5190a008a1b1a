
def sg (v : Int) : Int := if v < 0 then 0 else 1
def wg (v : Int) : Int := if v < 0 then 8 else v
theorem sg_in (v : Int) : 0 ≤ sg v ∧ sg v ≤ 1 := by unfold sg; split <;> omega
theorem sg_neg {v : Int} (h : v < 0) : sg v = 0 := by unfold sg; rw [if_pos h]
theorem sg_nn {v : Int} (h : 0 ≤ v) : sg v = 1 := by unfold sg; rw [if_neg (by omega)]
theorem wg_nn (v : Int) : 0 ≤ wg v := by unfold wg; split <;> omega
/-- how many are come to; what is left to come nearer -/
def NA (f : Nat → Int32) : Int := sg (f 0).toInt + sg (f 1).toInt + sg (f 2).toInt + sg (f 3).toInt + sg (f 4).toInt + sg (f 5).toInt + sg (f 6).toInt + sg (f 7).toInt
def MF (f : Nat → Int32) : Int := wg (f 0).toInt + wg (f 1).toInt + wg (f 2).toInt + wg (f 3).toInt + wg (f 4).toInt + wg (f 5).toInt + wg (f 6).toInt + wg (f 7).toInt
theorem NA_in (f : Nat → Int32) : 0 ≤ NA f ∧ NA f ≤ 8 := by
  have h := fun i => sg_in (f i).toInt
  have h0 := h 0; have h1 := h 1; have h2 := h 2; have h3 := h 3; have h4 := h 4; have h5 := h 5; have h6 := h 6; have h7 := h 7
  unfold NA
  omega
theorem MF_nn (f : Nat → Int32) : 0 ≤ MF f := by
  have h := fun i => wg_nn (f i).toInt
  have h0 := h 0; have h1 := h 1; have h2 := h 2; have h3 := h 3; have h4 := h 4; have h5 := h 5; have h6 := h 6; have h7 := h 7
  unfold MF
  omega
theorem NA_put {f : Nat → Int32} {b : Nat} {v : Int32} (hb : b < 8) : NA (upd f b v) = NA f - sg (f b).toInt + sg v.toInt := by
  rcases (show b = 0 ∨ b = 1 ∨ b = 2 ∨ b = 3 ∨ b = 4 ∨ b = 5 ∨ b = 6 ∨ b = 7 by omega) with rfl | rfl | rfl | rfl | rfl | rfl | rfl | rfl <;> simp [NA, upd] <;> omega
theorem MF_put {f : Nat → Int32} {b : Nat} {v : Int32} (hb : b < 8) : MF (upd f b v) = MF f - wg (f b).toInt + wg v.toInt := by
  rcases (show b = 0 ∨ b = 1 ∨ b = 2 ∨ b = 3 ∨ b = 4 ∨ b = 5 ∨ b = 6 ∨ b = 7 by omega) with rfl | rfl | rfl | rfl | rfl | rfl | rfl | rfl <;> simp [MF, upd] <;> omega
def FarOK (f : Nat → Int32) : Prop := ∀ j : Nat, j < 8 → 0 ≤ (f j).toInt → (f j).toInt < NA f
theorem far_put {f : Nat → Int32} {a b : Nat} {v : Int32} (h : FarOK f) (ha : a < 8) (hb : b < 8) (h0 : 0 ≤ (f a).toInt) (h1 : (f b).toInt < 0 ∨ (f a).toInt + 1 < (f b).toInt) (hv : v.toInt = (f a).toInt + 1) : FarOK (upd f b v) ∧ v.toInt ≤ 7 ∧ MF (upd f b v) < MF f := by
  have q := h a ha h0
  have e := NA_put (f := f) (v := v) hb
  have e2 := MF_put (f := f) (v := v) hb
  have s1 : sg v.toInt = 1 := sg_nn (by omega)
  have r := NA_in (upd f b v)
  have r2 := sg_in (f b).toInt
  have key : v.toInt < NA (upd f b v) := by
    rcases h1 with h1 | h1
    · rw [sg_neg h1] at e; omega
    · have := h b hb (by omega)
      omega
  refine ⟨fun j hj hj0 => ?_, by omega, ?_⟩
  · by_cases hjb : j = b
    · subst hjb; rw [pk_us]; exact key
    · rw [pk_un hjb] at hj0 ⊢
      have := h j hj hj0
      omega
  · have w1 : wg v.toInt = v.toInt := by unfold wg; rw [if_neg (by omega)]
    have w2 : v.toInt < wg (f b).toInt := by
      unfold wg
      split <;> omega
    omega
theorem far_start {f : Nat → Int32} {b : Nat} {v : Int32} (h : ∀ j : Nat, j < 8 → (f j).toInt = -1) (hb : b < 8) (hv : v.toInt = 0) : FarOK (upd f b v) := by
  have e := NA_put (f := f) (v := v) hb
  have s1 : sg v.toInt = 1 := sg_nn (by omega)
  have s2 : sg (f b).toInt = 0 := sg_neg (by have := h b hb; omega)
  have r := NA_in f
  intro j hj hj0
  by_cases hjb : j = b
  · subst hjb; rw [pk_us]; omega
  · rw [pk_un hjb] at hj0
    have := h j hj
    omega
theorem neg_put {f : Nat → Int32} {i z : Int32} (h : ∀ j : Nat, (j : Int) < i.toInt → (f j).toInt = -1) (h0 : 0 ≤ i.toInt) (hz : z.toInt = i.toInt + 1) : ∀ j : Nat, (j : Int) < z.toInt → (upd f i.toNatClampNeg (-1) j).toInt = -1 := by
  intro j hj
  by_cases e : j = i.toNatClampNeg
  · subst e; rw [pk_us]; decide
  · rw [pk_un e]
    have := cl_int h0
    exact h j (by omega)
theorem neg_none {f : Nat → Int32} : ∀ j : Nat, (j : Int) < (0 : Int32).toInt → (f j).toInt = -1 := fun j hj => by
  have q : (0 : Int32).toInt = 0 := by decide
  omega
