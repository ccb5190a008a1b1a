
/-- what may stand at a place of the reference's state -/
def SV (i : Nat) (v : Int) : Prop := (i = 0 → 0 ≤ v ∧ v ≤ 14) ∧ (i = 1 → 0 ≤ v ∧ v ≤ 6) ∧ (i = 2 → 0 ≤ v ∧ v ≤ 16383) ∧ (i = 6 → 0 ≤ v ∧ v ≤ 40) ∧
  (10 ≤ i → i < 80 → i % 5 < 2 → 0 ≤ v ∧ v ≤ 7) ∧ (80 ≤ i → i < 122 → (i - 80) % 7 = 0 → 0 ≤ v ∧ v ≤ 8) ∧ (80 ≤ i → i < 122 → (i - 80) % 7 = 1 → 0 ≤ v ∧ v ≤ 7) ∧ (80 ≤ i → i < 122 → (i - 80) % 7 = 3 → -1 ≤ v ∧ v ≤ 13) ∧ (80 ≤ i → i < 122 → (i - 80) % 7 = 6 → -1 ≤ v ∧ v ≤ 7) ∧
  (122 ≤ i → i % 2 = 0 → 0 ≤ v ∧ v ≤ 5) ∧ (122 ≤ i → i % 2 = 1 → 0 ≤ v ∧ v ≤ 13)
def SaidN (f : Nat → Int32) : Prop := ∀ i : Nat, i < 202 → SV i (f i).toInt
theorem SV.zero (i : Nat) : SV i 0 := by
  unfold SV
  omega
theorem SaidN.zero : SaidN (fun _ => 0) := fun i _ => SV.zero i
theorem SaidN.put {f : Nat → Int32} {i : Nat} {v : Int32} (h : SaidN f) (ok : SV i v.toInt) : SaidN (upd f i v) := by
  intro j hj
  by_cases e : j = i
  · subst e; rw [pk_us]; exact ok
  · rw [pk_un e]; exact h j hj
/-- the same up to the end of the state -/
def EqU (f g : Nat → Int32) : Prop := ∀ j : Nat, j < 202 → f j = g j
theorem EqU.n {f g : Nat → Int32} (e : EqU f g) (h : SaidN g) : SaidN f := fun i hi => by rw [e i hi]; exact h i hi
theorem SaidN.way {f : Nat → Int32} (h : SaidN f) {w k : Nat} (hw : w < 14) (hk : k < 2) : 0 ≤ (f (10 + 5 * w + k)).toInt ∧ (f (10 + 5 * w + k)).toInt ≤ 7 := by
  have q := (h (10 + 5 * w + k) (by omega)).2.2.2.2.1
  exact q (by omega) (by omega) (by omega)
/-- who stands, stands at a PLACE; who is on a WAY, goes to a PLACE -/
def StOK (f : Nat → Int32) : Prop := ∀ g : Nat, (g : Int) < (f 1).toInt → ((f (83 + 7 * g)).toInt = -1 → (f (80 + 7 * g)).toInt ≤ 7) ∧ ((f (83 + 7 * g)).toInt ≠ -1 → 0 ≤ (f (86 + 7 * g)).toInt)
/-- a WAY's ends are unlike -/
def UnOK (f : Nat → Int32) : Prop := ∀ w : Nat, w < 14 → (w : Int) < (f 0).toInt → f (10 + 5 * w) ≠ f (11 + 5 * w)
theorem EqU.st {f g : Nat → Int32} (e : EqU f g) (hn : SaidN g) (h : StOK g) : StOK f := by
  intro k hk
  have h1 := (hn 1 (by omega)).2.1 rfl
  rw [e 1 (by omega)] at hk
  rw [e (83 + 7 * k) (by omega), e (80 + 7 * k) (by omega), e (86 + 7 * k) (by omega)]
  exact h k hk
theorem EqU.un {f g : Nat → Int32} (e : EqU f g) (h : UnOK g) : UnOK f := by
  intro w hw hk
  rw [e 0 (by omega)] at hk
  rw [e (10 + 5 * w) (by omega), e (11 + 5 * w) (by omega)]
  exact h w hw hk
theorem StOK.out {f : Nat → Int32} {i : Nat} {v : Int32} (h : StOK f) (h1 : i ≠ 1) (hi : i < 80 ∨ 122 ≤ i ∨ (i % 7 ≠ 3 ∧ i % 7 ≠ 6 ∧ i % 7 ≠ 2)) (hn : SaidN f) : StOK (upd f i v) := by
  intro g hg
  have h0 := (hn 1 (by omega)).2.1 rfl
  rw [pk_un (by omega)] at hg
  rw [pk_un (by omega), pk_un (by omega), pk_un (by omega)]
  exact h g hg
theorem UnOK.out {f : Nat → Int32} {i : Nat} {v : Int32} (h : UnOK f) (h0 : i ≠ 0) (hi : i < 10 ∨ 80 ≤ i ∨ 2 ≤ i % 5) : UnOK (upd f i v) := by
  intro w hw hk
  rw [pk_un (by omega)] at hk
  rw [pk_un (by omega), pk_un (by omega)]
  exact h w hw hk
/-- a PLACE is put -/
theorem StOK.place {f : Nat → Int32} {i g : Nat} {v : Int32} (h : StOK f) (hi : i = 80 + 7 * g) (hv : v.toInt ≤ 7) : StOK (upd f i v) := by
  intro k hk
  rw [pk_un (by omega)] at hk
  have q := h k hk
  rw [pk_un (show 83 + 7 * k ≠ i by omega), pk_un (show 86 + 7 * k ≠ i by omega)]
  refine ⟨fun hon => ?_, q.2⟩
  by_cases e : 80 + 7 * k = i
  · rw [e, pk_us]; exact hv
  · rw [pk_un e]; exact q.1 hon
theorem StOK.onNone {f : Nat → Int32} {i g : Nat} {v : Int32} (h : StOK f) (hi : i = 83 + 7 * g) (hv : v.toInt = -1) (hp : (f (80 + 7 * g)).toInt ≤ 7) : StOK (upd f i v) := by
  intro k hk
  rw [pk_un (by omega)] at hk
  have q := h k hk
  rw [pk_un (show 80 + 7 * k ≠ i by omega), pk_un (show 86 + 7 * k ≠ i by omega)]
  by_cases e : 83 + 7 * k = i
  · have : k = g := by omega
    subst this
    rw [e, pk_us]
    exact ⟨fun _ => hp, fun hn => absurd hv hn⟩
  · rw [pk_un e]; exact q
theorem StOK.headNone {f : Nat → Int32} {i g : Nat} {v : Int32} (h : StOK f) (hi : i = 86 + 7 * g) (hon : (f (83 + 7 * g)).toInt = -1) : StOK (upd f i v) := by
  intro k hk
  rw [pk_un (by omega)] at hk
  have q := h k hk
  rw [pk_un (show 80 + 7 * k ≠ i by omega), pk_un (show 83 + 7 * k ≠ i by omega)]
  refine ⟨q.1, fun hn => ?_⟩
  by_cases e : 86 + 7 * k = i
  · have : k = g := by omega
    subst this
    exact absurd hon hn
  · rw [pk_un e]; exact q.2 hn
/-- a GOER comes on a WAY -/
theorem StOK.enter {f f' : Nat → Int32} {g : Nat} (h : StOK f) (h1 : f' 1 = f 1) (hon : (f' (83 + 7 * g)).toInt ≠ -1) (hh : 0 ≤ (f' (86 + 7 * g)).toInt) (ho : ∀ k : Nat, k ≠ g → f' (80 + 7 * k) = f (80 + 7 * k) ∧ f' (83 + 7 * k) = f (83 + 7 * k) ∧ f' (86 + 7 * k) = f (86 + 7 * k)) : StOK f' := by
  intro k hk
  rw [h1] at hk
  by_cases e : k = g
  · subst e
    exact ⟨fun q => absurd q hon, fun _ => hh⟩
  · obtain ⟨a, b, c⟩ := ho k e
    rw [a, b, c]
    exact h k hk
/-- one field of a GOER, by its number -/
def GO (f : Nat → Int32) (g k : Int32) : Int := (f (80 + 7 * g.toInt.toNat + k.toInt.toNat)).toInt
theorem StOK.go {f : Nat → Int32} {g : Int32} (h : StOK f) (h0 : 0 ≤ g.toInt) (h1 : g.toInt < (f 1).toInt) (ho : GO f g 3 = -1) : GO f g 0 ≤ 7 := by
  have e3 : (3 : Int32).toInt.toNat = 3 := by decide
  have e0 : (0 : Int32).toInt.toNat = 0 := by decide
  unfold GO at ho ⊢
  rw [e3] at ho
  rw [e0]
  refine (h g.toInt.toNat (by omega)).1 ?_
  rw [← ho]
  congr 2
  omega
theorem StOK.head {f : Nat → Int32} {g : Int32} (h : StOK f) (h0 : 0 ≤ g.toInt) (h1 : g.toInt < (f 1).toInt) (ho : GO f g 3 ≠ -1) : 0 ≤ GO f g 6 := by
  have e3 : (3 : Int32).toInt.toNat = 3 := by decide
  have e0 : (6 : Int32).toInt.toNat = 6 := by decide
  unfold GO at ho ⊢
  rw [e3] at ho
  rw [e0]
  have q := (h g.toInt.toNat (by omega)).2
  rw [show 83 + 7 * g.toInt.toNat = 80 + 7 * g.toInt.toNat + 3 by omega, show 86 + 7 * g.toInt.toNat = 80 + 7 * g.toInt.toNat + 6 by omega] at q
  exact q ho
theorem GO.out {f : Nat → Int32} {g k : Int32} {i : Nat} {v : Int32} (hi : i ≠ 80 + 7 * g.toInt.toNat + k.toInt.toNat) : GO (upd f i v) g k = GO f g k := by
  unfold GO
  rw [pk_un (Ne.symm hi)]
theorem SaidN.at {f : Nat → Int32} (h : SaidN f) {x : Int32} (I : Nat) (hi : x.toInt = (I : Int)) (hl : I < 202) : SV I (f x.toNatClampNeg).toInt := by
  have e : x.toNatClampNeg = I := by
    have := cl_int (x := x) (by omega)
    omega
  rw [e]
  exact h I hl
theorem GO.of {f : Nat → Int32} {x g k z : Int32} (hz : z = f x.toNatClampNeg) (hx : x.toInt = 80 + 7 * g.toInt + k.toInt) (hg : 0 ≤ g.toInt) (hk : 0 ≤ k.toInt) : z.toInt = GO f g k := by
  have e : x.toNatClampNeg = 80 + 7 * g.toInt.toNat + k.toInt.toNat := by
    have := cl_int (x := x) (by omega)
    omega
  unfold GO
  rw [hz, e]
theorem s7 {f fe : Nat → Int32} {i : Nat} {v : Int32} (h : f 7 = fe 7) (hi : i ≠ 7) : upd f i v 7 = fe 7 := by rw [pk_un (Ne.symm hi)]; exact h
theorem EqU.refl (f : Nat → Int32) : EqU f f := fun _ _ => rfl
theorem EqU.trans {f g h : Nat → Int32} (a : EqU f g) (b : EqU g h) : EqU f h := fun j hj => (a j hj).trans (b j hj)
theorem cpy_put {f g : Nat → Int32} {i z y : Int32} (h : ∀ j : Nat, (j : Int) < i.toInt → f j = g j) (h0 : 0 ≤ i.toInt) (hz : z.toInt = i.toInt + 1) (hy : y = g i.toNatClampNeg) : ∀ j : Nat, (j : Int) < z.toInt → upd f i.toNatClampNeg y j = g j := by
  intro j hj
  by_cases e : j = i.toNatClampNeg
  · subst e; rw [pk_us]; exact hy
  · rw [pk_un e]
    have := cl_int h0
    exact h j (by omega)
theorem cpy_none {f g : Nat → Int32} : ∀ j : Nat, (j : Int) < (0 : Int32).toInt → f j = g j := fun j hj => by
  have q : (0 : Int32).toInt = 0 := by decide
  omega
theorem EqU.of {f g : Nat → Int32} {i : Int32} (h : ∀ j : Nat, (j : Int) < i.toInt → f j = g j) (hi : 202 ≤ i.toInt) : EqU f g := fun j hj => h j (by omega)
/-- IMAGE k of the reference -/
def blk (f : Nat → Int32) (k : Nat) : Nat → Int32 := fun j => f (202 * k + j)
def ImN (f : Nat → Int32) : Prop := ∀ k : Nat, k < 4 → SaidN (blk f k) ∧ StOK (blk f k) ∧ UnOK (blk f k)
/-- i ints of s lie in the IMAGE k, the others are as they were -/
def CpB (fe f s : Nat → Int32) (k i : Int32) : Prop := (∀ j : Nat, (j : Int) < i.toInt → f (202 * k.toInt.toNat + j) = s j) ∧ ∀ m : Nat, (m < 202 * k.toInt.toNat ∨ 202 * k.toInt.toNat + 202 ≤ m) → f m = fe m
theorem CpB.zero {f s : Nat → Int32} {k : Int32} : CpB f f s k 0 := by
  have q : (0 : Int32).toInt = 0 := by decide
  exact ⟨fun j hj => by omega, fun _ _ => rfl⟩
theorem CpB.put {fe f s : Nat → Int32} {k i z x y : Int32} (h : CpB fe f s k i) (h0 : 0 ≤ i.toInt) (h1 : i.toInt < 202) (hk : 0 ≤ k.toInt) (hz : z.toInt = i.toInt + 1) (hx : x.toInt = 202 * k.toInt + i.toInt) (hy : y = s i.toNatClampNeg) : CpB fe (upd f x.toNatClampNeg y) s k z := by
  have cx := cl_int (x := x) (by omega)
  have ci := cl_int h0
  refine ⟨fun j hj => ?_, fun m hm => ?_⟩
  · by_cases e : 202 * k.toInt.toNat + j = x.toNatClampNeg
    · have : j = i.toNatClampNeg := by omega
      subst this
      rw [e, pk_us]; exact hy
    · rw [pk_un e]; exact h.1 j (by omega)
  · rw [pk_un (by omega)]; exact h.2 m hm
theorem CpB.im {fe f s : Nat → Int32} {k i : Int32} (h : CpB fe f s k i) (hi : i.toInt = 202) (hk : 0 ≤ k.toInt) (h4 : k.toInt ≤ 3) (hf : ImN fe) (h1 : SaidN s) (h2 : StOK s) (h3 : UnOK s) : ImN f := by
  intro j hj
  by_cases e : j = k.toInt.toNat
  · subst e
    have q : EqU (blk f k.toInt.toNat) s := fun m hm => h.1 m (by omega)
    exact ⟨q.n h1, q.st h1 h2, q.un h3⟩
  · obtain ⟨a, b, c⟩ := hf j hj
    have q : EqU (blk f j) (blk fe j) := fun m hm => h.2 (202 * j + m) (by omega)
    exact ⟨q.n a, q.st a b, q.un c⟩
