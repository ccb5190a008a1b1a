
/-- unlike numbers below m are m at most -/
theorem pigeon : ∀ (m n : Nat) (f : Nat → Nat), (∀ i, i < n → f i < m) → (∀ i j, i < n → j < n → f i = f j → i = j) → n ≤ m := by
  intro m
  induction m with
  | zero =>
    intro n f h1 _
    cases n with
    | zero => exact Nat.le_refl _
    | succ n => exact absurd (h1 0 (by omega)) (by omega)
  | succ m ih =>
    intro n f h1 h2
    by_cases he : ∃ k, k < n ∧ f k = m
    · obtain ⟨k, hk, hfk⟩ := he
      have hh : n - 1 ≤ m := by
        refine ih (n - 1) (fun i => if i < k then f i else f (i + 1)) (fun i hi => ?_) (fun i j hi hj hij => ?_)
        · show (if i < k then f i else f (i + 1)) < m
          by_cases c : i < k
          · rw [if_pos c]
            have a := h1 i (by omega)
            have b : f i ≠ m := fun q => by
              have := h2 i k (by omega) hk (by omega)
              omega
            omega
          · rw [if_neg c]
            have a := h1 (i + 1) (by omega)
            have b : f (i + 1) ≠ m := fun q => by
              have := h2 (i + 1) k (by omega) hk (by omega)
              omega
            omega
        · have hij : (if i < k then f i else f (i + 1)) = (if j < k then f j else f (j + 1)) := hij
          by_cases c : i < k
          · by_cases d : j < k
            · rw [if_pos c, if_pos d] at hij
              exact h2 i j (by omega) (by omega) hij
            · rw [if_pos c, if_neg d] at hij
              have := h2 i (j + 1) (by omega) (by omega) hij
              omega
          · by_cases d : j < k
            · rw [if_neg c, if_pos d] at hij
              have := h2 (i + 1) j (by omega) (by omega) hij
              omega
            · rw [if_neg c, if_neg d] at hij
              have := h2 (i + 1) (j + 1) (by omega) (by omega) hij
              omega
      omega
    · have hh := ih n f (fun i hi => by
        have a := h1 i hi
        have b : f i ≠ m := fun q => he ⟨i, hi, q⟩
        omega) h2
      omega
/-- each STATE that was met knows its number -/
def MtOK (st mt : Nat → Int32) (n : Int32) : Prop := ∀ k : Nat, (k : Int) < n.toInt → (mt (st k).toInt.toNat).toInt = (k : Int) + 1
/-- each came from an earlier one -/
def FrOK (fr : Nat → Int32) (n : Int32) : Prop := ∀ k : Nat, (k : Int) < n.toInt → (fr k).toInt < (k : Int)
def ParOK (P : Int32 → Int32 → Prop) (st fr : Nat → Int32) (n : Int32) : Prop := ∀ k : Nat, (k : Int) < n.toInt → 0 ≤ (fr k).toInt → P (st (fr k).toInt.toNat) (st k)
theorem MtOK.none {st mt : Nat → Int32} {n : Int32} (h : n.toInt ≤ 0) : MtOK st mt n := fun k hk => by omega
theorem FrOK.none {fr : Nat → Int32} {n : Int32} (h : n.toInt ≤ 0) : FrOK fr n := fun k hk => by omega
theorem ParOK.none {P : Int32 → Int32 → Prop} {st fr : Nat → Int32} {n : Int32} (h : n.toInt ≤ 0) : ParOK P st fr n := fun k hk => by omega
theorem MtOK.room {st mt : Nat → Int32} {n s : Int32} (h : MtOK st mt n) (hr : Rg st 0 1048575) (hs0 : 0 ≤ s.toInt) (hs1 : s.toInt ≤ 1048575) (hm : (mt s.toNatClampNeg).toInt ≤ 0) : n.toInt < 1048576 := by
  have cs := cl_int hs0
  have key : ∀ k : Nat, (k : Int) < n.toInt → (st k).toInt.toNat ≠ s.toInt.toNat := fun k hk q => by
    have a := h k hk
    rw [q, show s.toInt.toNat = s.toNatClampNeg by omega] at a
    omega
  have hp : n.toInt.toNat + 1 ≤ 1048576 := by
    refine pigeon 1048576 (n.toInt.toNat + 1) (fun k => if (k : Int) < n.toInt then (st k).toInt.toNat else s.toInt.toNat) (fun i hi => ?_) (fun i j hi hj hij => ?_)
    · show (if (i : Int) < n.toInt then (st i).toInt.toNat else s.toInt.toNat) < 1048576
      have := hr i
      split <;> omega
    · have hij : (if (i : Int) < n.toInt then (st i).toInt.toNat else s.toInt.toNat) = (if (j : Int) < n.toInt then (st j).toInt.toNat else s.toInt.toNat) := hij
      by_cases c : (i : Int) < n.toInt
      · by_cases d : (j : Int) < n.toInt
        · rw [if_pos c, if_pos d] at hij
          have x := h i c
          have y := h j d
          rw [hij] at x
          omega
        · rw [if_pos c, if_neg d] at hij
          exact absurd hij (key i c)
      · by_cases d : (j : Int) < n.toInt
        · rw [if_neg c, if_pos d] at hij
          exact absurd hij.symm (key j d)
        · omega
  omega
theorem MtOK.add {st mt : Nat → Int32} {n m s : Int32} (h : MtOK st mt n) (hs0 : 0 ≤ s.toInt) (hn0 : 0 ≤ n.toInt) (hm : m.toInt = n.toInt + 1) (h0 : (mt s.toNatClampNeg).toInt ≤ 0) : MtOK (upd st n.toNatClampNeg s) (upd mt s.toNatClampNeg m) m := by
  have cs := cl_int hs0
  have cn := cl_int hn0
  intro k hk
  by_cases e : k = n.toNatClampNeg
  · subst e
    rw [pk_us, show s.toInt.toNat = s.toNatClampNeg by omega, pk_us]
    omega
  · rw [pk_un e]
    have a := h k (by omega)
    have b : (st k).toInt.toNat ≠ s.toNatClampNeg := fun q => by
      rw [q] at a
      omega
    rw [pk_un b]
    exact a
theorem FrOK.add {fr : Nat → Int32} {n m v : Int32} (h : FrOK fr n) (hn0 : 0 ≤ n.toInt) (hm : m.toInt = n.toInt + 1) (hv : v.toInt < n.toInt) : FrOK (upd fr n.toNatClampNeg v) m := by
  have cn := cl_int hn0
  intro k hk
  by_cases e : k = n.toNatClampNeg
  · subst e
    rw [pk_us]
    omega
  · rw [pk_un e]
    exact h k (by omega)
theorem ParOK.add {P : Int32 → Int32 → Prop} {st fr : Nat → Int32} {n m s v : Int32} (h : ParOK P st fr n) (hf : FrOK fr n) (hn0 : 0 ≤ n.toInt) (hm : m.toInt = n.toInt + 1) (hv : v.toInt < n.toInt) (hp : 0 ≤ v.toInt → P (st v.toInt.toNat) s) : ParOK P (upd st n.toNatClampNeg s) (upd fr n.toNatClampNeg v) m := by
  have cn := cl_int hn0
  intro k hk h0
  by_cases e : k = n.toNatClampNeg
  · subst e
    have a : upd fr n.toNatClampNeg v n.toNatClampNeg = v := pk_us
    have b : upd st n.toNatClampNeg s n.toNatClampNeg = s := pk_us
    rw [a] at h0 ⊢
    rw [b, pk_un (by omega)]
    exact hp h0
  · rw [pk_un e] at h0 ⊢
    rw [pk_un e]
    have q := hf k (by omega)
    rw [pk_un (by omega)]
    exact h k (by omega) h0
/-- of a set of GOERS how many there are -/
def PC (x : Nat) : Nat := x % 2 + x / 2 % 2 + x / 4 % 2 + x / 8 % 2 + x / 16 % 2 + x / 32 % 2
theorem PC_le (x : Nat) : PC x ≤ 6 := by
  unfold PC
  omega
theorem PC_le5 {x : Nat} (h : x ≤ 31) : PC x ≤ 5 := by
  unfold PC
  omega
theorem pc_fin : ∀ k, k < 64 → 0 < k → PC ((nI k &&& (nI k - 1)).toInt.toNat) + 1 = PC k ∧ (nI k &&& (nI k - 1)).toInt < (k : Int) ∧ 0 ≤ (nI k &&& (nI k - 1)).toInt := by decide +kernel
theorem pc_step {s z y : Int32} (h0 : 0 < s.toInt) (h1 : s.toInt < 64) (hy : y = s - 1) (hz : z = s &&& y) : 0 ≤ z.toInt ∧ z.toInt < s.toInt ∧ PC z.toInt.toNat + 1 = PC s.toInt.toNat := by
  obtain ⟨n, hn⟩ : ∃ n : Nat, s.toInt = (n : Int) := ⟨s.toInt.toNat, by omega⟩
  have hs : s = nI n := by rw [i_of (x := s) (by omega), hn]; rfl
  have q := pc_fin n (by omega) (by omega)
  rw [hz, hy, hn, hs]
  exact ⟨q.2.2, q.2.1, q.1⟩
theorem bit_at {x y z : Int32} (hx : 0 ≤ x.toInt) (hy : 0 ≤ y.toInt) (hy2 : y.toInt < 32) (hz : z = x >>> (y &&& 31)) : z.toInt = ((x.toInt.toNat / 2 ^ y.toInt.toNat : Nat) : Int) := by
  have hyy : y = nI y.toInt.toNat := i_of hy
  have hs : ((y &&& 31).toBitVec.smod 32).toNat = y.toInt.toNat := by
    rw [hyy, sh31 _ (by omega), nI_toInt (by omega)]
    omega
  rw [hz, shr_eq _ hs]
  have : x.toInt = ((x.toInt.toNat : Nat) : Int) := by omega
  rw [this]
  simp
/-- who is of the set stands at a PLACE -/
def BtSt (f : Nat → Int32) (x : Int32) (n : Int) : Prop := ∀ j : Nat, (j : Int) < n → x.toInt.toNat / 2 ^ j % 2 = 1 → (f (80 + 7 * j)).toInt ≤ 7
theorem BtSt.none {f : Nat → Int32} {x : Int32} {n : Int} (h : n ≤ 0) : BtSt f x n := fun j hj => by omega
theorem BtSt.step {f : Nat → Int32} {x g : Int32} {n : Int} (h : BtSt f x g.toInt) (hg : 0 ≤ g.toInt) (hn : n = g.toInt + 1) (hb : x.toInt.toNat / 2 ^ g.toInt.toNat % 2 = 1 → (f (80 + 7 * g.toInt.toNat)).toInt ≤ 7) : BtSt f x n := by
  intro j hj h1
  by_cases e : j = g.toInt.toNat
  · subst e; exact hb h1
  · exact h j (by omega) h1
theorem bt_fin : ∀ g, g < 6 → ∀ j, j < 6 → 2 ^ g / 2 ^ j % 2 = 1 → j = g := by decide +kernel
theorem BtSt.one {f : Nat → Int32} {x g : Int32} {n : Int} (hg : 0 ≤ g.toInt) (hg5 : g.toInt ≤ 5) (hn : n ≤ 6) (hx : x = 1 <<< (g &&& 31)) (hp : (f (80 + 7 * g.toInt.toNat)).toInt ≤ 7) : BtSt f x n := by
  intro j hj h1
  have e1 : (1 : Int32).toInt = 1 := by decide
  have hp2 : 2 ^ g.toInt.toNat ≤ 2 ^ 5 := Nat.pow_le_pow_right (by omega) (by omega)
  have h3 := shl_eq (x := 1) (y := g) (Y := g.toInt.toNat) (by decide) (by omega) (by omega) (by rw [e1]; omega)
  rw [e1, ← hx] at h3
  have h4 : x.toInt.toNat = 2 ^ g.toInt.toNat := by rw [h3, Int.one_mul]; exact Int.toNat_natCast _
  rw [h4] at h1
  have := bt_fin g.toInt.toNat (by omega) j (by omega) h1
  rw [this]
  exact hp
/-- the bits of the first k -/
def NBt (x : Nat) : Nat → Nat
  | 0 => 0
  | k + 1 => NBt x k + x / 2 ^ k % 2
theorem NBt_le (x : Nat) : ∀ k, NBt x k ≤ k
  | 0 => Nat.le_refl _
  | k + 1 => by
    have := NBt_le x k
    show NBt x k + x / 2 ^ k % 2 ≤ k + 1
    omega
theorem NBt_fin : ∀ x, x < 64 → ∀ k, k < 7 → NBt x k ≤ PC x := by decide +kernel
theorem NBt_s {x g z : Int32} (hg : 0 ≤ g.toInt) (hz : z.toInt = g.toInt + 1) : NBt x.toInt.toNat z.toInt.toNat = NBt x.toInt.toNat g.toInt.toNat + x.toInt.toNat / 2 ^ g.toInt.toNat % 2 := by
  rw [show z.toInt.toNat = g.toInt.toNat + 1 by omega]
  rfl
/-- each of the set stands at a PLACE -/
def MvOK (f mv : Nat → Int32) (n : Int32) : Prop := ∀ k : Nat, (k : Int) < n.toInt → (f (80 + 7 * (mv k).toInt.toNat)).toInt ≤ 7
theorem MvOK.none {f mv : Nat → Int32} {n : Int32} (h : n.toInt ≤ 0) : MvOK f mv n := fun k hk => by omega
theorem MvOK.add {f mv : Nat → Int32} {n m g : Int32} (h : MvOK f mv n) (hn : 0 ≤ n.toInt) (hm : m.toInt = n.toInt + 1) (hg : (f (80 + 7 * g.toInt.toNat)).toInt ≤ 7) : MvOK f (upd mv n.toNatClampNeg g) m := by
  have cn := cl_int hn
  intro k hk
  by_cases e : k = n.toNatClampNeg
  · subst e; rw [pk_us]; exact hg
  · rw [pk_un e]; exact h k (by omega)
theorem MvOK.at {f mv : Nat → Int32} {n k z : Int32} (h : MvOK f mv n) (hk : 0 ≤ k.toInt) (hn : k.toInt < n.toInt) (hz : z = mv k.toNatClampNeg) : GO f z 0 ≤ 7 := by
  have ck := cl_int hk
  have e0 : (0 : Int32).toInt.toNat = 0 := by decide
  unfold GO
  rw [e0, hz]
  exact h _ (by omega)
/-- where one of the set stands, in a STATE -/
def PlI (s n k : Int32) : Int := ((s.toInt.toNat / 2 ^ (n.toInt.toNat + 3 * k.toInt.toNat) % 8 : Nat) : Int)
def DfP (n mv : Int32) : Int32 → Int32 → Prop := fun a b => (∃ w : Nat, (w : Int) < n.toInt ∧ a.toInt.toNat / 2 ^ w % 2 ≠ b.toInt.toNat / 2 ^ w % 2) ∧ ∃ m : Nat, (m : Int) < mv.toInt ∧ a.toInt.toNat / 2 ^ (n.toInt.toNat + 3 * m) % 8 ≠ b.toInt.toNat / 2 ^ (n.toInt.toNat + 3 * m) % 8
theorem ones_fin : ∀ a, a < 18 → ((7 * 2 ^ a) ^^^ 4294967295) / 2 ^ a % 8 = 0 ∧ ∀ w, w < a → ((7 * 2 ^ a) ^^^ 4294967295) / 2 ^ w % 2 = 1 := by decide +kernel
theorem mod8 (x : Nat) : x % 8 = x &&& 7 := (Nat.and_two_pow_sub_one_eq_mod x 3).symm
theorem nat_place {a b t k : Nat} (hb : b / 2 ^ k % 8 = 0) (ht : t < 8) : ((a &&& b) ||| t * 2 ^ k) / 2 ^ k % 8 = t := by
  rw [← Nat.shiftRight_eq_div_pow, ← Nat.shiftLeft_eq, mod8, Nat.shiftRight_or_distrib, Nat.shiftRight_and_distrib, Nat.shiftLeft_shiftRight, Nat.and_or_distrib_right, Nat.and_assoc]
  have h1 : b >>> k &&& 7 = 0 := by rw [← mod8, Nat.shiftRight_eq_div_pow]; exact hb
  have h2 : t &&& 7 = t := by rw [← mod8]; omega
  rw [h1, h2, Nat.and_zero, Nat.zero_or]
theorem tb2 (x w : Nat) : x / 2 ^ w % 2 = (x.testBit w).toNat := (Nat.toNat_testBit x w).symm
theorem nat_bit {s b t w k : Nat} (hb : b / 2 ^ w % 2 = 1) (hw : w < k) : (((s ^^^ 2 ^ w) &&& b) ||| t * 2 ^ k) / 2 ^ w % 2 ≠ s / 2 ^ w % 2 := by
  rw [tb2] at hb
  rw [tb2, tb2, ← Nat.shiftLeft_eq, Nat.testBit_or, Nat.testBit_and, Nat.testBit_xor, Nat.testBit_two_pow_self, Nat.testBit_shiftLeft]
  have hbt : b.testBit w = true := by
    cases hq : b.testBit w with
    | false => rw [hq] at hb; exact absurd hb (by decide)
    | true => rfl
  rw [hbt, show decide (w ≥ k) = false from decide_eq_false (by omega), Bool.false_and, Bool.or_false, Bool.and_true]
  cases s.testBit w <;> decide
theorem tb_nn {x : Int32} (h : 0 ≤ x.toInt) : x.toBitVec.toNat = x.toInt.toNat := by
  have := of_nn h
  omega
theorem newS {s w at' t z z1 z2 z3 z4 z5 z6 : Int32} (hs0 : 0 ≤ s.toInt) (hw0 : 0 ≤ w.toInt) (hw : w.toInt < at'.toInt) (ha : at'.toInt ≤ 17) (ht0 : 0 ≤ t.toInt) (ht : t.toInt ≤ 7) (h1 : z1 = 1 <<< (w &&& 31)) (h2 : z2 = s ^^^ z1) (h3 : z3 = 7 <<< (at' &&& 31)) (h4 : z4 = z3 ^^^ -1) (h5 : z5 = z2 &&& z4) (h6 : z6 = t <<< (at' &&& 31)) (hz : z = z5 ||| z6) (hz0 : 0 ≤ z.toInt) : s.toInt.toNat / 2 ^ w.toInt.toNat % 2 ≠ z.toInt.toNat / 2 ^ w.toInt.toNat % 2 ∧ z.toInt.toNat / 2 ^ at'.toInt.toNat % 8 = t.toInt.toNat := by
  have e1 : (1 : Int32).toInt = 1 := by decide
  have e7 : (7 : Int32).toInt = 7 := by decide
  have pw : 2 ^ w.toInt.toNat ≤ 2 ^ 17 := Nat.pow_le_pow_right (by omega) (by omega)
  have pa : 2 ^ at'.toInt.toNat ≤ 2 ^ 17 := Nat.pow_le_pow_right (by omega) (by omega)
  have tl : t.toInt.toNat * 2 ^ at'.toInt.toNat ≤ 7 * 2 ^ 17 := Nat.mul_le_mul (by omega) pa
  have q1 := shl_eq (x := 1) (y := w) (Y := w.toInt.toNat) (by decide) (by omega) (by omega) (by rw [e1]; omega)
  have q3 := shl_eq (x := 7) (y := at') (Y := at'.toInt.toNat) (by decide) (by omega) (by omega) (by rw [e7]; omega)
  have tq : t.toInt * ((2 ^ at'.toInt.toNat : Nat) : Int) = ((t.toInt.toNat * 2 ^ at'.toInt.toNat : Nat) : Int) := by
    rw [Int.natCast_mul, show ((t.toInt.toNat : Nat) : Int) = t.toInt by omega]
  have q6 := shl_eq (x := t) (y := at') (Y := at'.toInt.toNat) ht0 (by omega) (by omega) (by rw [tq]; omega)
  rw [← h1, e1] at q1
  rw [← h3, e7] at q3
  rw [← h6, tq] at q6
  have r1 : z1.toInt = ((2 ^ w.toInt.toNat : Nat) : Int) := by rw [q1, Int.one_mul]
  have r3 : z3.toInt = ((7 * 2 ^ at'.toInt.toNat : Nat) : Int) := by rw [q3, Int.natCast_mul]; rfl
  have n1 : z1.toBitVec.toNat = 2 ^ w.toInt.toNat := by rw [tb_nn (by rw [r1]; exact Int.natCast_nonneg _), r1]; exact Int.toNat_natCast _
  have n3 : z3.toBitVec.toNat = 7 * 2 ^ at'.toInt.toNat := by rw [tb_nn (by rw [r3]; exact Int.natCast_nonneg _), r3]; exact Int.toNat_natCast _
  have n6 : z6.toBitVec.toNat = t.toInt.toNat * 2 ^ at'.toInt.toNat := by rw [tb_nn (by rw [q6]; exact Int.natCast_nonneg _), q6]; exact Int.toNat_natCast _
  have n4 : z4.toBitVec.toNat = (7 * 2 ^ at'.toInt.toNat) ^^^ 4294967295 := by
    rw [h4, Int32.toBitVec_xor, BitVec.toNat_xor, n3]; rfl
  have n2 : z2.toBitVec.toNat = s.toInt.toNat ^^^ 2 ^ w.toInt.toNat := by rw [h2, Int32.toBitVec_xor, BitVec.toNat_xor, n1, tb_nn hs0]
  have nz : z.toInt.toNat = ((s.toInt.toNat ^^^ 2 ^ w.toInt.toNat) &&& ((7 * 2 ^ at'.toInt.toNat) ^^^ 4294967295)) ||| t.toInt.toNat * 2 ^ at'.toInt.toNat := by
    rw [← tb_nn hz0, hz, Int32.toBitVec_or, BitVec.toNat_or, h5, Int32.toBitVec_and, BitVec.toNat_and, n2, n4, n6]
  obtain ⟨o1, o2⟩ := ones_fin at'.toInt.toNat (by omega)
  rw [nz]
  exact ⟨(nat_bit (o2 _ (by omega)) (by omega)).symm, nat_place o1 (by omega)⟩
/-- from a STATE back to that it came from, j times -/
def itr (fr : Nat → Int32) : Nat → Int32 → Int32
  | 0, a => a
  | j + 1, a => fr (itr fr j a).toInt.toNat
def LnOK (fr : Nat → Int32) (a n : Int32) : Prop := ∀ j : Nat, (j : Int) ≤ n.toInt → 0 ≤ (itr fr j a).toInt ∧ (itr fr j a).toInt ≤ a.toInt
theorem LnOK.zero {fr : Nat → Int32} {a n : Int32} (h : 0 ≤ a.toInt) (hn : n.toInt = 0) : LnOK fr a n := fun j hj => by
  have : j = 0 := by omega
  subst this
  exact ⟨h, Int.le_refl _⟩
theorem LnOK.step {fr : Nat → Int32} {a n m i : Int32} (h : LnOK fr a n) (hm : m.toInt = n.toInt + 1) (hi : i = itr fr m.toInt.toNat a) (h0 : 0 ≤ i.toInt) (h1 : i.toInt ≤ a.toInt) : LnOK fr a m := fun j hj => by
  by_cases e : j = m.toInt.toNat
  · subst e; rw [← hi]; exact ⟨h0, h1⟩
  · exact h j (by omega)
theorem itr_s {fr : Nat → Int32} {a i z : Int32} {n : Nat} (h : i = itr fr n a) (hi : 0 ≤ i.toInt) (hz : z = fr i.toNatClampNeg) : z = itr fr (n + 1) a := by
  have ci := cl_int hi
  show z = fr (itr fr n a).toInt.toNat
  rw [← h, hz, show i.toNatClampNeg = i.toInt.toNat by omega]
theorem DfP.of {n mv s z w at' t : Int32} {m : Int32} (hn : 0 ≤ n.toInt) (hw : 0 ≤ w.toInt) (hwn : w.toInt < n.toInt) (hm : 0 ≤ m.toInt) (hmv : m.toInt < mv.toInt) (ha : at'.toInt = n.toInt + 3 * m.toInt) (h1 : s.toInt.toNat / 2 ^ w.toInt.toNat % 2 ≠ z.toInt.toNat / 2 ^ w.toInt.toNat % 2) (h2 : z.toInt.toNat / 2 ^ at'.toInt.toNat % 8 = t.toInt.toNat) (h3 : t.toInt ≠ PlI s n m) (ht : 0 ≤ t.toInt) : DfP n mv s z := by
  refine ⟨⟨w.toInt.toNat, by omega, h1⟩, m.toInt.toNat, by omega, ?_⟩
  have e : n.toInt.toNat + 3 * m.toInt.toNat = at'.toInt.toNat := by omega
  unfold PlI at h3
  rw [e] at h3 ⊢
  rw [h2]
  omega
theorem GO0 {f : Nat → Int32} {g : Int32} : GO f g 0 = (f (80 + 7 * g.toInt.toNat)).toInt := by
  unfold GO
  rw [show (0 : Int32).toInt.toNat = 0 by decide]
  rfl
def EnB (d w : Int32) : Prop := ((d >>> (w &&& 31)) &&& 1).toInt = 1
theorem endNe {f : Nat → Int32} {d w a b : Int32} (hU : UnOK f) (h0 : 0 ≤ w.toInt) (h1 : w.toInt < (f 0).toInt) (h2 : w.toInt < 14) (ha : (EnB d w ∧ a = f (10 + 5 * w.toInt.toNat + 1)) ∨ (¬ EnB d w ∧ a = f (10 + 5 * w.toInt.toNat + 0))) (hb : (EnB d w ∧ b = f (10 + 5 * w.toInt.toNat + 0)) ∨ (¬ EnB d w ∧ b = f (10 + 5 * w.toInt.toNat + 1))) : a.toInt ≠ b.toInt := by
  have q := hU w.toInt.toNat (by omega) (by omega)
  rw [show 11 + 5 * w.toInt.toNat = 10 + 5 * w.toInt.toNat + 1 by omega] at q
  intro e
  have e := i_eq e
  rcases ha with ⟨p1, rfl⟩ | ⟨p1, rfl⟩ <;> rcases hb with ⟨p2, rfl⟩ | ⟨p2, rfl⟩
  · exact q e.symm
  · exact p2 p1
  · exact p1 p2
  · exact q e
