
/-- what a code does to the height of the stack -/
def okS (v : Int) (h h' : Nat) : Prop := 0 ≤ v ∧ h' ≤ 60 ∧ ((v % 16 = 0 ∧ h' = h + 1) ∨ (v % 16 = 1 ∧ v / 16 ≤ 11 ∧ h' = h + 1) ∨ (v % 16 = 11 ∧ 1 ≤ h ∧ h' = h) ∨ (v % 16 ≠ 0 ∧ v % 16 ≠ 1 ∧ v % 16 ≠ 11 ∧ 2 ≤ h ∧ h' + 1 = h))
def Seg (f : Nat → Int32) (a b h : Nat) : Prop := a ≤ b ∧ ∃ hs : Nat → Nat, hs a = 0 ∧ hs b = h ∧ ∀ i, a ≤ i → i < b → okS (f i).toInt (hs i) (hs (i + 1))
theorem Seg.nil (f : Nat → Int32) (a : Nat) : Seg f a a 0 := ⟨Nat.le_refl a, fun _ => 0, rfl, rfl, fun i h1 h2 => by omega⟩
theorem Seg.push {f : Nat → Int32} {a b h h' : Nat} {v : Int32} (s : Seg f a b h) (ok : okS v.toInt h h') : Seg (upd f b v) a (b + 1) h' := by
  obtain ⟨hab, hs, h0, h1, h2⟩ := s
  refine ⟨by omega, fun i => if i = b + 1 then h' else hs i, ?_, ?_, fun i g1 g2 => ?_⟩
  · show (if a = b + 1 then h' else hs a) = 0
    rw [if_neg (by omega)]; exact h0
  · show (if b + 1 = b + 1 then h' else hs (b + 1)) = h'
    rw [if_pos rfl]
  · show okS (upd f b v i).toInt (if i = b + 1 then h' else hs i) (if i + 1 = b + 1 then h' else hs (i + 1))
    rw [if_neg (by omega)]
    by_cases e : i = b
    · subst e; rw [pk_us, if_pos rfl, h1]; exact ok
    · rw [pk_un e, if_neg (by omega)]; exact h2 i g1 (by omega)
/-- what stands ahead of a place stays -/
def FrS (f g : Nat → Int32) (b : Nat) : Prop := ∀ i : Nat, i < b → f i = g i
theorem FrS.refl (f : Nat → Int32) (b : Nat) : FrS f f b := fun _ _ => rfl
theorem FrS.trans {f g h : Nat → Int32} {b c : Nat} (a1 : FrS f g c) (a2 : FrS g h b) (hb : b ≤ c) : FrS f h b := fun i hi => (a1 i (by omega)).trans (a2 i hi)
theorem FrS.less {f g : Nat → Int32} {b c : Nat} (a1 : FrS f g c) (hb : b ≤ c) : FrS f g b := fun i hi => a1 i (by omega)
theorem FrS.put {f g : Nat → Int32} {b i : Nat} {v : Int32} (a1 : FrS f g b) (hb : b ≤ i) : FrS (upd f i v) g b := fun j hj => by rw [pk_un (by omega)]; exact a1 j hj
theorem Seg.fr {f g : Nat → Int32} {a b h c : Nat} (s : Seg g a b h) (r : FrS f g c) (hb : b ≤ c) : Seg f a b h := by
  obtain ⟨hab, hs, h0, h1, h2⟩ := s
  exact ⟨hab, hs, h0, h1, fun i g1 g2 => by rw [r i (by omega)]; exact h2 i g1 g2⟩
theorem Seg.cg {f : Nat → Int32} {a b b' h h' : Nat} (s : Seg f a b h) (e1 : b = b') (e2 : h = h') : Seg f a b' h' := by subst e1; subst e2; exact s
/-- how many of the open signs join two -/
def nb (f : Nat → Int32) : Nat → Nat
  | 0 => 0
  | k + 1 => nb f k + (if f k = 12 ∨ f k = 13 then 1 else 0)
theorem nb_cg {f g : Nat → Int32} : ∀ k : Nat, (∀ j, j < k → f j = g j) → nb f k = nb g k
  | 0, _ => rfl
  | k + 1, h => by
    show nb f k + _ = nb g k + _
    rw [nb_cg k (fun j hj => h j (by omega)), h k (by omega)]
theorem nb_put {f : Nat → Int32} {k i : Nat} {v : Int32} (h : k ≤ i) : nb (upd f i v) k = nb f k := nb_cg k (fun j hj => pk_un (by omega))
theorem nb_two {f : Nat → Int32} {k : Nat} (h : f k = 12 ∨ f k = 13) : nb f (k + 1) = nb f k + 1 := by
  show nb f k + _ = _
  rw [if_pos h]
theorem nb_one {f : Nat → Int32} {k : Nat} (h : ¬ (f k = 12 ∨ f k = 13)) : nb f (k + 1) = nb f k := by
  show nb f k + _ = _
  rw [if_neg h]; rfl
/-- the open signs are such -/
def OpV (f : Nat → Int32) (k : Int32) : Prop := ∀ j : Nat, (j : Int) < k.toInt → (f j).toInt = 11 ∨ (f j).toInt = 12 ∨ (f j).toInt = 13 ∨ (f j).toInt = 91
theorem OpV.less {f : Nat → Int32} {k m : Int32} (h : OpV f k) (hm : m.toInt ≤ k.toInt) : OpV f m := fun j hj => h j (by omega)
theorem OpV.put {f : Nat → Int32} {k m v : Int32} (h : OpV f k) (h0 : 0 ≤ k.toInt) (hm : m.toInt = k.toInt + 1) (hv : v.toInt = 11 ∨ v.toInt = 12 ∨ v.toInt = 13 ∨ v.toInt = 91) : OpV (upd f k.toNatClampNeg v) m := by
  intro j hj
  have ck := cl_int h0
  by_cases e : j = k.toNatClampNeg
  · subst e; rw [pk_us]; exact hv
  · rw [pk_un e]; exact h j (by omega)
theorem i_eq {x : Int32} {y : Int32} (h : x.toInt = y.toInt) : x = y := Int32.toInt_inj.mp h
theorem nb_at {f : Nat → Int32} {k m : Int32} (h0 : 0 ≤ m.toInt) (hm : k.toInt = m.toInt + 1) (hv : (f m.toNatClampNeg).toInt = 12 ∨ (f m.toNatClampNeg).toInt = 13) : nb f k.toInt.toNat = nb f m.toInt.toNat + 1 := by
  have ck := cl_int h0
  rw [show k.toInt.toNat = m.toInt.toNat + 1 by omega]
  refine nb_two ?_
  rw [show m.toInt.toNat = m.toNatClampNeg by omega]
  rcases hv with hv | hv
  · exact Or.inl (i_eq (by rw [hv]; decide))
  · exact Or.inr (i_eq (by rw [hv]; decide))
theorem nb_at1 {f : Nat → Int32} {k m : Int32} (h0 : 0 ≤ m.toInt) (hm : k.toInt = m.toInt + 1) (hv : (f m.toNatClampNeg).toInt ≠ 12 ∧ (f m.toNatClampNeg).toInt ≠ 13) : nb f k.toInt.toNat = nb f m.toInt.toNat := by
  have ck := cl_int h0
  rw [show k.toInt.toNat = m.toInt.toNat + 1 by omega]
  refine nb_one ?_
  rw [show m.toInt.toNat = m.toNatClampNeg by omega]
  intro q
  rcases q with q | q
  · exact hv.1 (by rw [q]; decide)
  · exact hv.2 (by rw [q]; decide)
/-- a CLAUSE of a RULE of the reference, its codes below L -/
def ClL (f cl : Nat → Int32) (t c : Nat) (L : Int) : Prop :=
  ((cl (60 * t + 5 * c)).toInt = 0 → 0 ≤ (cl (60 * t + 5 * c + 1)).toInt ∧ 0 ≤ (cl (60 * t + 5 * c + 2)).toInt ∧ (cl (60 * t + 5 * c + 2)).toInt ≤ L ∧ Seg f (400 * t + (cl (60 * t + 5 * c + 1)).toInt.toNat) (400 * t + (cl (60 * t + 5 * c + 2)).toInt.toNat) 1) ∧
  ((cl (60 * t + 5 * c + 3)).toInt < 0 ∨ (0 ≤ (cl (60 * t + 5 * c + 4)).toInt ∧ (cl (60 * t + 5 * c + 4)).toInt ≤ L ∧ Seg f (400 * t + (cl (60 * t + 5 * c + 3)).toInt.toNat) (400 * t + (cl (60 * t + 5 * c + 4)).toInt.toNat) 1))
def TxOK (f cl : Nat → Int32) (t : Nat) (n L : Int) : Prop := ∀ c : Nat, (c : Int) < n → ClL f cl t c L
/-- all CLAUSES of the RULES below n -/
def RlOK (f cl cs : Nat → Int32) (n : Nat) : Prop := ∀ t : Nat, t < n → TxOK f cl t (cs t).toInt 400
theorem ClL.fr {f g cl dl : Nat → Int32} {t c : Nat} {L L' : Int} (h : ClL g dl t c L) {b : Nat} (r : FrS f g b) (hb : 400 * (t : Int) + L ≤ b) (e : ∀ j : Nat, 60 * t + 5 * c ≤ j → j < 60 * t + 5 * c + 5 → cl j = dl j) (hL : L ≤ L') : ClL f cl t c L' := by
  unfold ClL
  rw [e _ (by omega) (by omega), e (60 * t + 5 * c + 1) (by omega) (by omega), e (60 * t + 5 * c + 2) (by omega) (by omega), e (60 * t + 5 * c + 3) (by omega) (by omega), e (60 * t + 5 * c + 4) (by omega) (by omega)]
  obtain ⟨h1, h2⟩ := h
  refine ⟨fun q => ?_, ?_⟩
  · obtain ⟨a1, a2, a3, a4⟩ := h1 q
    exact ⟨a1, a2, by omega, a4.fr r (by omega)⟩
  · rcases h2 with h2 | ⟨a1, a2, a3⟩
    · exact Or.inl h2
    · exact Or.inr ⟨a1, by omega, a3.fr r (by omega)⟩
theorem TxOK.fr {f g cl dl : Nat → Int32} {t : Nat} {n L L' : Int} (h : TxOK g dl t n L) {b d : Nat} (r : FrS f g b) (hb : 400 * (t : Int) + L ≤ b) (e : FrS cl dl d) (hd : 60 * (t : Int) + 5 * n ≤ d) (hL : L ≤ L') : TxOK f cl t n L' := fun c hc => (h c hc).fr r hb (fun j h1 h2 => e j (by omega)) hL
theorem TxOK.none {f cl : Nat → Int32} {t : Nat} {n L : Int} (h : n ≤ 0) : TxOK f cl t n L := fun c hc => by omega
theorem TxOK.add {f cl : Nat → Int32} {t c : Nat} {n m L : Int} (h : TxOK f cl t n L) (hc : (c : Int) = n) (h1 : ClL f cl t c L) (hm : m = n + 1) : TxOK f cl t m L := fun k hk => by
  by_cases e : k = c
  · subst e; exact h1
  · exact h k (by omega)
/-- all but one stay -/
def FrX (f g : Nat → Int32) (t : Int32) : Prop := ∀ j : Nat, j ≠ t.toNatClampNeg → f j = g j
theorem FrX.refl (f : Nat → Int32) (t : Int32) : FrX f f t := fun _ _ => rfl
theorem FrX.trans {f g h : Nat → Int32} {t : Int32} (a : FrX f g t) (b : FrX g h t) : FrX f h t := fun j hj => (a j hj).trans (b j hj)
theorem FrX.put {f g : Nat → Int32} {t v : Int32} (a : FrX f g t) : FrX (upd f t.toNatClampNeg v) g t := fun j hj => by rw [pk_un hj]; exact a j hj
theorem RlOK.fr {f g cl dl cs ds : Nat → Int32} {n : Nat} {t : Int32} {b d : Nat} (h : RlOK g dl ds n) (r : FrS f g b) (hb : 400 * n ≤ b) (e : FrS cl dl d) (hd : 60 * n ≤ d) (x : FrX cs ds t) (ht : (n : Int) ≤ t.toInt) (hc : ∀ j : Nat, j < n → (ds j).toInt ≤ 12) : RlOK f cl cs n := by
  intro k hk
  have cz := cl_int (x := t) (by omega)
  rw [x k (by omega)]
  have q := hc k hk
  exact (h k hk).fr r (by omega) e (by omega) (by omega)
theorem RlOK.add {f cl cs : Nat → Int32} {n m : Nat} (h : RlOK f cl cs n) (h1 : TxOK f cl n (cs n).toInt 400) (hm : m = n + 1) : RlOK f cl cs m := fun k hk => by
  by_cases e : k = n
  · subst e; exact h1
  · exact h k (by omega)
theorem TxOK.up {f cl : Nat → Int32} {t : Nat} {n L L' : Int} (h : TxOK f cl t n L) (hL : L ≤ L') : TxOK f cl t n L' := fun c hc => (h c hc).fr (b := 400 * t + L.toNat) (FrS.refl f _) (by omega) (fun _ _ _ => rfl) hL
/-- no blank stands there -/
def StB (t : Nat → Int32) (n tp : Int32) : Prop := ¬ (n.toInt < tp.toInt ∧ (t n.toNatClampNeg).toInt = 32)
/-- a bracket is open -/
def Ins (f : Nat → Int32) (k : Int32) : Prop := ∃ j : Nat, (j : Int) < k.toInt ∧ (f j).toInt = 91
/-- no bracket was taken off -/
def KB (f : Nat → Int32) (k m : Int32) : Prop := ∀ j : Nat, (j : Int) < k.toInt → (f j).toInt = 91 → (j : Int) < m.toInt
theorem nb_mono {f : Nat → Int32} : ∀ {a b : Nat}, a ≤ b → nb f a ≤ nb f b := by
  intro a b h
  induction b with
  | zero => rw [show a = 0 by omega]; exact Nat.le_refl _
  | succ b ih =>
    by_cases e : a = b + 1
    · rw [e]; exact Nat.le_refl _
    · have := ih (by omega)
      show nb f a ≤ nb f b + _
      omega
theorem okS_pop {f : Nat → Int32} {k m s : Int32} (h0 : 0 ≤ m.toInt) (hm : k.toInt = m.toInt + 1) (hs : s.toInt = (f m.toNatClampNeg).toInt) (hv : s.toInt = 11 ∨ s.toInt = 12 ∨ s.toInt = 13) (h60 : nb f k.toInt.toNat + 1 ≤ 60) : okS (s.toInt + 16 * (0 : Int32).toInt) (nb f k.toInt.toNat + 1) (nb f m.toInt.toNat + 1) := by
  have e0 : (0 : Int32).toInt = 0 := by decide
  have mono := nb_mono (f := f) (show m.toInt.toNat ≤ k.toInt.toNat by omega)
  rcases hv with hv | hv | hv
  · have := nb_at1 (f := f) h0 hm (by omega)
    unfold okS
    omega
  · have := nb_at (f := f) h0 hm (by omega)
    unfold okS
    omega
  · have := nb_at (f := f) h0 hm (by omega)
    unfold okS
    omega
/-- a letter stands there -/
def LT (t : Nat → Int32) (n tp : Int32) : Prop := n.toInt < tp.toInt ∧ 97 ≤ (t n.toNatClampNeg).toInt ∧ (t n.toNatClampNeg).toInt ≤ 122
def DG (t : Nat → Int32) (n tp : Int32) : Prop := n.toInt < tp.toInt ∧ 48 ≤ (t n.toNatClampNeg).toInt ∧ (t n.toNatClampNeg).toInt ≤ 57
theorem LT.cg {t : Nat → Int32} {n m tp : Int32} (h : LT t n tp) (e : m.toInt = n.toInt) : LT t m tp := by
  rw [i_eq e]; exact h
theorem LT.stb {t : Nat → Int32} {n tp : Int32} (h : LT t n tp) : StB t n tp := fun q => by
  have := h.2.1
  omega
theorem FrS.tr {f g h : Nat → Int32} {b : Nat} (a1 : FrS f g b) (a2 : FrS g h b) : FrS f h b := fun i hi => (a1 i hi).trans (a2 i hi)
/-- the uppermost open sign is a bracket -/
def TopB (f : Nat → Int32) (k : Int32) : Prop := ∃ x : Int32, x.toInt + 1 = k.toInt ∧ 0 ≤ x.toInt ∧ (f x.toNatClampNeg).toInt = 91
theorem TopB.nb {f : Nat → Int32} {k m : Int32} (h : TopB f k) (h0 : 0 ≤ m.toInt) (hm : k.toInt = m.toInt + 1) : nb f k.toInt.toNat = nb f m.toInt.toNat := by
  obtain ⟨x, h1, h2, h3⟩ := h
  obtain rfl : x = m := i_eq (by omega)
  exact nb_at1 h0 hm (by omega)
theorem TopB.ins {f : Nat → Int32} {k m : Int32} (h : TopB f k) (hm : k.toInt ≤ m.toInt) : Ins f m := by
  obtain ⟨x, h1, h2, h3⟩ := h
  have cz := cl_int h2
  exact ⟨x.toNatClampNeg, by omega, h3⟩
theorem Ins.kept {f : Nat → Int32} {k m : Int32} (h : Ins f k) (hb : KB f k m) : 1 ≤ m.toInt := by
  obtain ⟨j, h1, h2⟩ := h
  have := hb j h1 h2
  omega
theorem KB.less {f : Nat → Int32} {k m x : Int32} (h : KB f k m) (h0 : 0 ≤ x.toInt) (hx : m.toInt = x.toInt + 1) (hn : (f x.toNatClampNeg).toInt ≠ 91) : KB f k x := by
  intro j h1 h2
  have q := h j h1 h2
  have cz := cl_int h0
  by_cases e : j = x.toNatClampNeg
  · subst e; exact absurd h2 hn
  · omega
theorem OpV.none {f : Nat → Int32} {k : Int32} (h : k.toInt ≤ 0) : OpV f k := fun j hj => by omega
theorem no_none {f : Nat → Int32} : ∀ j : Nat, (j : Int) < (0 : Int32).toInt → (f j).toInt ≠ 91 := fun j hj => by
  have q : (0 : Int32).toInt = 0 := by decide
  omega
theorem no_put {f : Nat → Int32} {i z : Int32} (h : ∀ j : Nat, (j : Int) < i.toInt → (f j).toInt ≠ 91) (h0 : 0 ≤ i.toInt) (hz : z.toInt = i.toInt + 1) (hn : (f i.toNatClampNeg).toInt ≠ 91) : ∀ j : Nat, (j : Int) < z.toInt → (f j).toInt ≠ 91 := by
  intro j hj
  have cz := cl_int h0
  by_cases e : j = i.toNatClampNeg
  · subst e; exact hn
  · exact h j (by omega)
theorem Seg.cg3 {f : Nat → Int32} {a a' b b' h h' : Nat} (s : Seg f a b h) (e0 : a = a') (e1 : b = b') (e2 : h = h') : Seg f a' b' h' := by subst e0; subst e1; subst e2; exact s
/-- what was read of WAYS and GOERS: their PLACES are such -/
def WrN (f : Nat → Int32) : Prop := ∀ j : Nat, j % 3 < 2 → 0 ≤ (f j).toInt ∧ (f j).toInt ≤ 7
theorem WrN.put {f : Nat → Int32} {i : Nat} {v : Int32} (h : WrN f) (hv : i % 3 < 2 → 0 ≤ v.toInt ∧ v.toInt ≤ 7) : WrN (upd f i v) := by
  intro j hj
  by_cases e : j = i
  · subst e; rw [pk_us]; exact hv hj
  · rw [pk_un e]; exact h j hj
theorem WrN.zero : WrN (fun _ => 0) := fun _ _ => ⟨show (0 : Int) ≤ (0 : Int32).toInt by decide, show (0 : Int32).toInt ≤ (7 : Int) by decide⟩
/-- the ends of the WAYS read are unlike -/
def UnR (f : Nat → Int32) (n : Int32) : Prop := ∀ w : Nat, (w : Int) < n.toInt → f (3 * w) ≠ f (3 * w + 1)
theorem UnR.out {f : Nat → Int32} {n v : Int32} {i : Nat} (h : UnR f n) (hi : 3 * n.toInt ≤ i) : UnR (upd f i v) n := by
  intro w hw
  rw [pk_un (by omega), pk_un (by omega)]
  exact h w hw
theorem UnR.add {f : Nat → Int32} {n m : Int32} (h : UnR f n) (h0 : 0 ≤ n.toInt) (hm : m.toInt = n.toInt + 1) (hn : f (3 * n.toInt.toNat) ≠ f (3 * n.toInt.toNat + 1)) : UnR f m := by
  intro w hw
  by_cases e : w = n.toInt.toNat
  · subst e; exact hn
  · exact h w (by omega)
theorem UnR.none {f : Nat → Int32} {n : Int32} (h : n.toInt ≤ 0) : UnR f n := fun w hw => by omega
/-- of the WAYS read w lie in the state, and k fields of the next -/
def WyC (s r : Nat → Int32) (w k : Int32) : Prop := (∀ v : Nat, (v : Int) < w.toInt → s (10 + 5 * v) = r (3 * v) ∧ s (11 + 5 * v) = r (3 * v + 1)) ∧ (1 ≤ k.toInt → s (10 + 5 * w.toInt.toNat) = r (3 * w.toInt.toNat)) ∧ (2 ≤ k.toInt → s (11 + 5 * w.toInt.toNat) = r (3 * w.toInt.toNat + 1))
theorem WyC.zero {s r : Nat → Int32} : WyC s r 0 0 := by
  have q : (0 : Int32).toInt = 0 := by decide
  exact ⟨fun v hv => by omega, fun h => by omega, fun h => by omega⟩
theorem WyC.next {s r : Nat → Int32} {w k z : Int32} (h : WyC s r w k) (hw : 0 ≤ w.toInt) (hk : 2 ≤ k.toInt) (hz : z.toInt = w.toInt + 1) : WyC s r z 0 := by
  have q : (0 : Int32).toInt = 0 := by decide
  refine ⟨fun v hv => ?_, fun h => by omega, fun h => by omega⟩
  by_cases e : v = w.toInt.toNat
  · subst e; exact ⟨h.2.1 (by omega), h.2.2 hk⟩
  · exact h.1 v (by omega)
theorem WyC.put {s r : Nat → Int32} {w k k' x i : Int32} (h : WyC s r w k) (hw : 0 ≤ w.toInt) (hk : 0 ≤ k.toInt) (h3 : k.toInt < 3) (hk' : k'.toInt = k.toInt + 1) (hi : (i.toNatClampNeg : Int) = 10 + 5 * w.toInt + k.toInt) (hx : x = r (3 * w.toInt.toNat + k.toInt.toNat)) : WyC (upd s i.toNatClampNeg x) r w k' := by
  refine ⟨fun v hv => ?_, fun h1 => ?_, fun h2 => ?_⟩
  · rw [pk_un (by omega), pk_un (by omega)]; exact h.1 v hv
  · by_cases e : k.toInt = 0
    · rw [show 10 + 5 * w.toInt.toNat = i.toNatClampNeg by omega, pk_us, hx]; congr 1; omega
    · rw [pk_un (by omega)]; exact h.2.1 (by omega)
  · by_cases e : k.toInt = 1
    · rw [show 11 + 5 * w.toInt.toNat = i.toNatClampNeg by omega, pk_us, hx]; congr 1; omega
    · rw [pk_un (by omega)]; exact h.2.2 (by omega)
theorem WyC.un {s r : Nat → Int32} {w k n : Int32} (h : WyC s r w k) (h0 : s 0 = n) (hu : UnR r n) (hn : n.toInt ≤ w.toInt) : UnOK s := by
  intro v _ hv
  rw [h0] at hv
  obtain ⟨a, b⟩ := h.1 v (by omega)
  rw [a, b]
  exact hu v hv
/-- of the GOERS read g lie in the state, and k fields of the next -/
def GoC (s : Nat → Int32) (g k : Int32) : Prop := (∀ v : Nat, (v : Int) < g.toInt → (s (83 + 7 * v)).toInt = -1 ∧ (s (80 + 7 * v)).toInt ≤ 7) ∧ (1 ≤ k.toInt → (s (80 + 7 * g.toInt.toNat)).toInt ≤ 7)
theorem GoC.zero {s : Nat → Int32} : GoC s 0 0 := by
  have q : (0 : Int32).toInt = 0 := by decide
  exact ⟨fun v hv => by omega, fun h => by omega⟩
theorem GoC.next {s : Nat → Int32} {g k z : Int32} (h : GoC s g k) (hg : 0 ≤ g.toInt) (hk : 1 ≤ k.toInt) (hz : z.toInt = g.toInt + 1) (hn : (s (83 + 7 * g.toInt.toNat)).toInt = -1) : GoC s z 0 := by
  have q : (0 : Int32).toInt = 0 := by decide
  refine ⟨fun v hv => ?_, fun h => by omega⟩
  by_cases e : v = g.toInt.toNat
  · subst e; exact ⟨hn, h.2 hk⟩
  · exact h.1 v (by omega)
theorem GoC.put {s : Nat → Int32} {g k k' x i : Int32} (h : GoC s g k) (hg : 0 ≤ g.toInt) (hk : 0 ≤ k.toInt) (hk' : k'.toInt = k.toInt + 1) (hi : (i.toNatClampNeg : Int) = 80 + 7 * g.toInt + k.toInt ∧ k.toInt < 3) (hx : k.toInt = 0 → x.toInt ≤ 7) : GoC (upd s i.toNatClampNeg x) g k' := by
  obtain ⟨hi, h3⟩ := hi
  refine ⟨fun v hv => ?_, fun h1 => ?_⟩
  · rw [pk_un (by omega), pk_un (by omega)]; exact h.1 v hv
  · by_cases e : k.toInt = 0
    · rw [show 80 + 7 * g.toInt.toNat = i.toNatClampNeg by omega, pk_us]; exact hx e
    · rw [pk_un (by omega)]; exact h.2 (by omega)
theorem GoC.out {s : Nat → Int32} {g k x : Int32} {i : Nat} (h : GoC s g k) (hg : 0 ≤ g.toInt) (hi : 80 + 7 * g.toInt < i) : GoC (upd s i x) g k := by
  refine ⟨fun v hv => ?_, fun h1 => ?_⟩
  · rw [pk_un (by omega), pk_un (by omega)]; exact h.1 v hv
  · rw [pk_un (by omega)]; exact h.2 h1
theorem GoC.st {s : Nat → Int32} {g k n : Int32} (h : GoC s g k) (h1 : s 1 = n) (hn : n.toInt ≤ g.toInt) : StOK s := by
  intro v hv
  rw [h1] at hv
  obtain ⟨a, b⟩ := h.1 v (by omega)
  exact ⟨fun _ => b, fun q => absurd a q⟩
/-- a blank stands there -/
def Bk (t : Nat → Int32) (n tp : Int32) : Prop := n.toInt < tp.toInt ∧ (t n.toNatClampNeg).toInt = 32
theorem LT.nb {t : Nat → Int32} {n tp : Int32} (h : LT t n tp) : ¬ Bk t n tp := fun q => by
  have h1 := h.2.1
  have h2 := q.2
  omega
