
/-- the code from p on brings the stack from the height h to e -/
def SegT (f : Nat → Int32) (p b h e : Nat) : Prop := p ≤ b ∧ ∃ hs : Nat → Nat, hs p = h ∧ hs b = e ∧ ∀ i, p ≤ i → i < b → okS (f i).toInt (hs i) (hs (i + 1))
theorem Seg.t {f : Nat → Int32} {a b h : Nat} (s : Seg f a b h) : SegT f a b 0 h := s
theorem SegT.cg3 {f : Nat → Int32} {p p' b h h' e : Nat} (s : SegT f p b h e) (e0 : p = p') (e1 : h = h') : SegT f p' b h' e := by subst e0; subst e1; exact s
theorem SegT.step {f : Nat → Int32} {p b h e : Nat} (s : SegT f p b h e) (hp : p < b) : ∃ h' : Nat, okS (f p).toInt h h' ∧ SegT f (p + 1) b h' e := by
  obtain ⟨hab, hs, h0, h1, h2⟩ := s
  refine ⟨hs (p + 1), ?_, by omega, hs, rfl, h1, fun i g1 g2 => h2 i (by omega) g2⟩
  rw [← h0]
  exact h2 p (by omega) hp
theorem SegT.fin {f : Nat → Int32} {p b h e : Nat} (s : SegT f p b h e) (hp : b ≤ p) : h = e := by
  obtain ⟨hab, hs, h0, h1, h2⟩ := s
  have : p = b := by omega
  subst this
  rw [← h0, ← h1]
/-- the SUM of a take CLAUSE -/
def TkOK (f cl : Nat → Int32) (t r : Int32) : Prop := 0 ≤ (cl (r.toInt.toNat + 1)).toInt ∧ 0 ≤ (cl (r.toInt.toNat + 2)).toInt ∧ (cl (r.toInt.toNat + 2)).toInt ≤ 400 ∧ Seg f (400 * t.toInt.toNat + (cl (r.toInt.toNat + 1)).toInt.toNat) (400 * t.toInt.toNat + (cl (r.toInt.toNat + 2)).toInt.toNat) 1
theorem TkOK.of {f cl : Nat → Int32} {t r : Int32} {T c : Nat} (h : 0 ≤ (cl (60 * T + 5 * c + 1)).toInt ∧ 0 ≤ (cl (60 * T + 5 * c + 2)).toInt ∧ (cl (60 * T + 5 * c + 2)).toInt ≤ 400 ∧ Seg f (400 * T + (cl (60 * T + 5 * c + 1)).toInt.toNat) (400 * T + (cl (60 * T + 5 * c + 2)).toInt.toNat) 1) (hr : r.toInt = 60 * (T : Int) + 5 * (c : Int) ∧ T = t.toInt.toNat) : TkOK f cl t r := by
  obtain ⟨hr, rfl⟩ := hr
  have e : r.toInt.toNat = 60 * t.toInt.toNat + 5 * c := by omega
  unfold TkOK
  rw [e]
  exact h
theorem RlOK.at {f cl cs : Nat → Int32} {n : Nat} {t : Int32} (h : RlOK f cl cs n) (h0 : 0 ≤ t.toInt) (ht : t.toInt < n) : TxOK f cl t.toInt.toNat (cs t.toNatClampNeg).toInt 400 := by
  have cz := cl_int h0
  rw [show t.toNatClampNeg = t.toInt.toNat by omega]
  exact h _ (by omega)
