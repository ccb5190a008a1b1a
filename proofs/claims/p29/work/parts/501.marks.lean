
/-- the mark of a STATE within a word of marks -/
def MkN (w : Int32) (k : Nat) : Nat := w.toBitVec.toNat / 2 ^ (2 * k) % 4
def MkV (mk : Nat → Int32) (x : Int32) : Nat := MkN (mk (x.toInt.toNat / 16)) (x.toInt.toNat % 16)
theorem mk_at {w y z : Int32} {k : Nat} (hk : k < 16) (hy : y.toInt = 2 * (k : Int)) (hz : z = w >>> (y &&& 31)) : z.toInt % 4 = ((MkN w k : Nat) : Int) := by
  have hs : ((y &&& 31).toBitVec.smod 32).toNat = 2 * k := by
    have hyy : y = nI (2 * k) := by
      rw [i_of (x := y) (by omega), show y.toInt.toNat = 2 * k by omega]
    rw [hyy, sh31 _ (by omega)]
  rw [hz, shr_eq _ hs]
  have h1 := tI w
  have h2 := tN w
  unfold MkN
  obtain ⟨A, hA⟩ : ∃ A : Nat, w.toBitVec.toNat = A := ⟨_, rfl⟩
  rw [hA] at h1 h2 ⊢
  rcases (show k = 0 ∨ k = 1 ∨ k = 2 ∨ k = 3 ∨ k = 4 ∨ k = 5 ∨ k = 6 ∨ k = 7 ∨ k = 8 ∨ k = 9 ∨ k = 10 ∨ k = 11 ∨ k = 12 ∨ k = 13 ∨ k = 14 ∨ k = 15 by omega) with rfl | rfl | rfl | rfl | rfl | rfl | rfl | rfl | rfl | rfl | rfl | rfl | rfl | rfl | rfl | rfl <;> simp only [Nat.reduceMul, Nat.reducePow] <;> (split at h1 <;> omega)
theorem mk_or (a b : Int32) (k : Nat) : MkN (a ||| b) k = MkN a k ||| MkN b k := by
  have m4 : ∀ x : Nat, x % 4 = x &&& 3 := fun x => (Nat.and_two_pow_sub_one_eq_mod x 2).symm
  unfold MkN
  rw [Int32.toBitVec_or, BitVec.toNat_or, m4, m4, m4, ← Nat.shiftRight_eq_div_pow, ← Nat.shiftRight_eq_div_pow, ← Nat.shiftRight_eq_div_pow, Nat.shiftRight_or_distrib, Nat.and_or_distrib_right]
theorem mk_bit_fin : ∀ m, m < 4 → ∀ k, k < 16 → MkN (nI m <<< (nI (2 * k) &&& 31)) k = m := by decide +kernel
theorem mk_bit {m y z : Int32} {k : Nat} (hk : k < 16) (hy : y.toInt = 2 * (k : Int)) (h0 : 0 ≤ m.toInt) (h3 : m.toInt ≤ 3) (hz : z = m <<< (y &&& 31)) : MkN z k = m.toInt.toNat := by
  have hyy : y = nI (2 * k) := by
    rw [i_of (x := y) (by omega), show y.toInt.toNat = 2 * k by omega]
  have q := mk_bit_fin m.toInt.toNat (by omega) k hk
  rw [hz, hyy]
  rw [← i_of h0] at q
  exact q
def MkUp (f g : Nat → Int32) : Prop := ∀ x : Int32, MkV f x ≠ 0 → MkV g x ≠ 0
theorem MkUp.put {mk : Nat → Int32} {i : Nat} {w b : Int32} (hw : w = mk i ||| b) : MkUp mk (upd mk i w) := by
  intro x hx
  unfold MkV at hx ⊢
  by_cases e : x.toInt.toNat / 16 = i
  · rw [e] at hx ⊢
    rw [pk_us, hw, mk_or]
    have : MkN (mk i) (x.toInt.toNat % 16) ≤ MkN (mk i) (x.toInt.toNat % 16) ||| MkN b (x.toInt.toNat % 16) := Nat.left_le_or
    omega
  · rw [pk_un e]; exact hx
theorem mk_put {mk : Nat → Int32} {i : Nat} {x w b : Int32} (hi : i = x.toInt.toNat / 16) (hw : w = mk i ||| b) (hb : MkN b (x.toInt.toNat % 16) ≠ 0) : MkV (upd mk i w) x ≠ 0 := by
  unfold MkV
  rw [← hi, pk_us, hw, mk_or]
  have : MkN b (x.toInt.toNat % 16) ≤ MkN (mk i) (x.toInt.toNat % 16) ||| MkN b (x.toInt.toNat % 16) := Nat.right_le_or
  omega
/-- what the queue holds: STATES with room for their marks, marked, unlike -/
def QOK (mk q : Nat → Int32) (n : Int32) (nm : Nat) : Prop := (∀ i : Nat, (i : Int) < n.toInt → 0 ≤ (q i).toInt ∧ (q i).toInt < 16 * (nm : Int)) ∧ (∀ i : Nat, (i : Int) < n.toInt → MkV mk (q i) ≠ 0) ∧ ∀ i j : Nat, (i : Int) < n.toInt → (j : Int) < n.toInt → q i = q j → i = j
def NewQ (q : Nat → Int32) (n x : Int32) : Prop := ∀ i : Nat, (i : Int) < n.toInt → q i ≠ x
theorem QOK.none {mk q : Nat → Int32} {n : Int32} {nm : Nat} (h : n.toInt ≤ 0) : QOK mk q n nm := ⟨fun i hi => by omega, fun i hi => by omega, fun i j hi => by omega⟩
theorem NewQ.none {q : Nat → Int32} {n x : Int32} (h : n.toInt ≤ 0) : NewQ q n x := fun i hi => by omega
theorem QOK.new {mk q : Nat → Int32} {n x : Int32} {nm : Nat} (h : QOK mk q n nm) (hx : MkV mk x = 0) : NewQ q n x := fun i hi e => h.2.1 i hi (by rw [e]; exact hx)
theorem QOK.at {mk q : Nat → Int32} {n i z : Int32} {nm : Nat} (h : QOK mk q n nm) (h0 : 0 ≤ i.toInt) (h1 : i.toInt < n.toInt) (hz : z = q i.toNatClampNeg) : 0 ≤ z.toInt ∧ z.toInt < 16 * (nm : Int) := by
  have ci := cl_int h0
  rw [hz]
  exact h.1 _ (by omega)
theorem QOK.room {mk q : Nat → Int32} {n x : Int32} {nm : Nat} (h : QOK mk q n nm) (hN : NewQ q n x) (h0 : 0 ≤ x.toInt) (h1 : x.toInt < 16 * (nm : Int)) : n.toInt < 16 * (nm : Int) := by
  have hp : n.toInt.toNat + 1 ≤ 16 * nm := by
    refine pigeon (16 * nm) (n.toInt.toNat + 1) (fun k => if (k : Int) < n.toInt then (q k).toInt.toNat else x.toInt.toNat) (fun i hi => ?_) (fun i j hi hj hij => ?_)
    · show (if (i : Int) < n.toInt then (q i).toInt.toNat else x.toInt.toNat) < 16 * nm
      by_cases c : (i : Int) < n.toInt
      · rw [if_pos c]
        have := h.1 i c
        omega
      · rw [if_neg c]; omega
    · have hij : (if (i : Int) < n.toInt then (q i).toInt.toNat else x.toInt.toNat) = (if (j : Int) < n.toInt then (q j).toInt.toNat else x.toInt.toNat) := hij
      by_cases c : (i : Int) < n.toInt
      · have a := h.1 i c
        by_cases d : (j : Int) < n.toInt
        · have b := h.1 j d
          rw [if_pos c, if_pos d] at hij
          exact h.2.2 i j c d (i_eq (by omega))
        · rw [if_pos c, if_neg d] at hij
          exact absurd (i_eq (by omega)) (hN i c)
      · by_cases d : (j : Int) < n.toInt
        · have b := h.1 j d
          rw [if_neg c, if_pos d] at hij
          exact absurd (i_eq (by omega)) (hN j d)
        · omega
  omega
theorem QOK.put {mk mk' q q' : Nat → Int32} {n m x : Int32} {nm : Nat} (h : QOK mk q n nm) (hN : NewQ q n x) (h0 : 0 ≤ x.toInt) (h1 : x.toInt < 16 * (nm : Int)) (hn : 0 ≤ n.toInt) (hm : m.toInt = n.toInt + 1) (hup : MkUp mk mk') (hx : MkV mk' x ≠ 0) (hq : ∀ i : Nat, (i : Int) < n.toInt → q' i = q i) (hqn : q' n.toInt.toNat = x) : QOK mk' q' m nm := by
  refine ⟨fun i hi => ?_, fun i hi => ?_, fun i j hi hj hij => ?_⟩
  · by_cases c : (i : Int) < n.toInt
    · rw [hq i c]; exact h.1 i c
    · rw [show i = n.toInt.toNat by omega, hqn]; exact ⟨h0, h1⟩
  · by_cases c : (i : Int) < n.toInt
    · rw [hq i c]; exact hup _ (h.2.1 i c)
    · rw [show i = n.toInt.toNat by omega, hqn]; exact hx
  · by_cases c : (i : Int) < n.toInt
    · by_cases d : (j : Int) < n.toInt
      · rw [hq i c, hq j d] at hij; exact h.2.2 i j c d hij
      · rw [hq i c, show j = n.toInt.toNat by omega, hqn] at hij
        exact absurd hij (hN i c)
    · by_cases d : (j : Int) < n.toInt
      · rw [hq j d, show i = n.toInt.toNat by omega, hqn] at hij
        exact absurd hij.symm (hN j d)
      · omega
/-- how long queue and marks are -/
def Pq (n : Nat) : Prop := ∃ k : Nat, k ≤ 12 ∧ n = 256 * 2 ^ k
theorem Pq.le {n : Nat} (h : Pq n) : 256 ≤ n ∧ n ≤ 1048576 := by
  obtain ⟨k, hk, rfl⟩ := h
  have a := Nat.pow_le_pow_right (n := 2) (by omega) hk
  have b := Nat.two_pow_pos k
  omega
theorem Pq.two {n m : Nat} (h : Pq n) (hn : n < 1048576) (hm : m = 2 * n) : Pq m := by
  obtain ⟨k, hk, rfl⟩ := h
  refine ⟨k + 1, ?_, by rw [hm, Nat.pow_succ]; omega⟩
  by_cases e : k = 12
  · subst e; omega
  · omega
theorem Pq.first : Pq 256 := ⟨0, by omega, rfl⟩
def Pq0 (n : Nat) : Prop := n = 0 ∨ Pq n
def Pm (nm : Nat) (B : Int) : Prop := ∃ K : Nat, 16 * nm = 2 ^ K ∧ B ≤ (K : Int) ∧ K ≤ 20 ∧ 4 ≤ K
def Pm0 (n : Nat) : Prop := n = 0 ∨ Pm n 0
theorem Pm.le {nm : Nat} {B : Int} (h : Pm nm B) : 1 ≤ nm ∧ nm ≤ 65536 ∧ B ≤ 20 := by
  obtain ⟨K, h1, h2, h3, h4⟩ := h
  have a := Nat.pow_le_pow_right (n := 2) (by omega) h3
  have b := Nat.two_pow_pos K
  omega
theorem Pm.less {nm : Nat} {B C : Int} (h : Pm nm B) (hC : C ≤ B) : Pm nm C := by
  obtain ⟨K, h1, h2, h3, h4⟩ := h
  exact ⟨K, h1, by omega, h3, h4⟩
theorem Pm0.le {nm : Nat} (h : Pm0 nm) : nm ≤ 65536 := by
  rcases h with h | h
  · omega
  · exact h.le.2.1
theorem Pq0.le {n : Nat} (h : Pq0 n) : n ≤ 1048576 ∧ (n = 0 ∨ 256 ≤ n) := by
  rcases h with h | h
  · omega
  · have := h.le
    omega
theorem words_fin : ∀ b, b < 21 → 16 * ((2 ^ b + 15) / 16) = 2 ^ (if b < 4 then 4 else b) := by decide +kernel
theorem Pm.words {w b : Nat} (hb : b ≤ 20) (hw : w = (2 ^ b + 15) / 16) : Pm w (b : Int) := by
  refine ⟨if b < 4 then 4 else b, by rw [hw]; exact words_fin b (by omega), ?_, ?_, ?_⟩ <;> split <;> omega
/-- marks that are long enough serve -/
theorem Pm.raise {nm w : Nat} {B : Int} (h : Pm0 nm) (hw : Pm w B) (hl : w ≤ nm) : Pm nm B := by
  obtain ⟨K, a1, a2, a3, a4⟩ := hw
  rcases h with h | ⟨L, b1, b2, b3, b4⟩
  · have := Nat.two_pow_pos K
    omega
  · refine ⟨L, b1, ?_, b3, b4⟩
    have : 2 ^ K ≤ 2 ^ L := by omega
    have := (Nat.pow_le_pow_iff_right (a := 2) (by omega)).mp this
    omega
theorem Pm.grow {nm w : Nat} {B : Int} (h : Pm0 nm) (hw : Pm w B) (hl : nm < w) : 2 * nm ≤ w := by
  obtain ⟨K, a1, a2, a3, a4⟩ := hw
  rcases h with h | ⟨L, b1, b2, b3, b4⟩
  · omega
  · have h1 : 2 ^ L < 2 ^ K := by omega
    have h2 := (Nat.pow_lt_pow_iff_right (a := 2) (by omega)).mp h1
    have h3 := Nat.pow_le_pow_right (n := 2) (by omega) (show L + 1 ≤ K by omega)
    rw [Nat.pow_succ] at h3
    omega
/-- a number's lowest bit -/
theorem low_ex : ∀ (m A : Nat), 0 < A → A < 2 ^ m → ∃ i, A.testBit i = true ∧ (2 ^ m - A).testBit i = true := by
  intro m
  induction m with
  | zero => intro A h1 h2; exact absurd h2 (by omega)
  | succ m ih =>
    intro A h1 h2
    have hp : 2 ^ (m + 1) = 2 * 2 ^ m := by rw [Nat.pow_succ]; omega
    by_cases ho : A % 2 = 1
    · refine ⟨0, ?_, ?_⟩
      · rw [Nat.testBit_zero]; exact decide_eq_true ho
      · rw [Nat.testBit_zero]; exact decide_eq_true (by omega)
    · obtain ⟨i, a, b⟩ := ih (A / 2) (by omega) (by omega)
      refine ⟨i + 1, ?_, ?_⟩
      · rw [Nat.testBit_succ]; exact a
      · rw [Nat.testBit_succ, show (2 ^ (m + 1) - A) / 2 = 2 ^ m - A / 2 by omega]; exact b
theorem low_nz {x : Int32} (h : 0 < x.toInt) : 0 < (x &&& -x).toInt := by
  have nn := and_nn' (x := x) (y := -x) (by omega)
  have ox := of_nn (x := x) (by omega)
  have hx := i32_hi x
  by_cases e : (x &&& -x).toInt = 0
  · exfalso
    have oz := of_nn (x := x &&& -x) (by omega)
    obtain ⟨i, a, b⟩ := low_ex 32 x.toBitVec.toNat (by omega) (by omega)
    have hn : (-x).toBitVec.toNat = 2 ^ 32 - x.toBitVec.toNat := by
      rw [Int32.toBitVec_neg, BitVec.toNat_neg]
      omega
    have hz : x.toBitVec.toNat &&& (2 ^ 32 - x.toBitVec.toNat) = 0 := by
      rw [← hn, ← BitVec.toNat_and, ← Int32.toBitVec_and]
      omega
    have ht := Nat.testBit_and x.toBitVec.toNat (2 ^ 32 - x.toBitVec.toNat) i
    rw [hz, a, b, Nat.zero_testBit] at ht
    exact absurd ht (by decide)
  · omega
def ush (x y : Int32) : Int32 := (x.toUInt32 >>> (y.toUInt32 &&& Int32.toUInt32 31)).toInt32
def bc1 (a : Int32) : Int32 := a - (ush a 1 &&& 1431655765)
def bc2 (a : Int32) : Int32 := (a &&& 858993459) + (ush a 2 &&& 858993459)
def bc3 (a : Int32) : Int32 := (a + ush a 4) &&& 252645135
def bc4 (a : Int32) : Int32 := a + ush a 8
def bc5 (a : Int32) : Int32 := a + ush a 16
def BC (a : Int32) : Int32 := bc5 (bc4 (bc3 (bc2 (bc1 a)))) &&& 63
theorem bc_fin : ∀ a, a < 128 → ∀ b, b < 128 → (BC (nI (128 * a + b))).toInt.toNat ≤ Nat.log2 (128 * a + b + 1) ∧ 0 ≤ (BC (nI (128 * a + b))).toInt := by decide +kernel
theorem bc_pc : ∀ a, a < 64 → (BC (nI a)).toInt = ((PC a : Nat) : Int) := by decide +kernel
theorem BC_pc {x r : Int32} (h0 : 0 ≤ x.toInt) (h1 : x.toInt < 64) (hr : r = BC x) : r.toInt = ((PC x.toInt.toNat : Nat) : Int) := by
  have q := bc_pc x.toInt.toNat (by omega)
  rw [← i_of h0] at q
  rw [hr]
  exact q
theorem low_lt {x y v r n : Int32} (h0 : 0 < x.toInt) (hn : n.toInt ≤ 14) (hx : x.toInt < P2 n) (hy : y = x &&& -x) (hv : v = y - 1) (hr : r = BC v) : 0 ≤ r.toInt ∧ r.toInt < n.toInt := by
  have nz := low_nz h0
  have nn := and_nn' (x := x) (y := -x) (by omega)
  rw [← hy] at nz nn
  have e1 : (1 : Int32).toInt = 1 := by decide
  have hyh := i32_hi y
  have hvi : v.toInt = y.toInt - 1 := by rw [hv]; exact sb_int rfl e1 (by omega) (by omega)
  have h14 := P2_14 hn
  have q := bc_fin (v.toInt.toNat / 128) (by omega) (v.toInt.toNat % 128) (by omega)
  rw [show 128 * (v.toInt.toNat / 128) + v.toInt.toNat % 128 = v.toInt.toNat by omega, ← i_of (x := v) (by omega), ← hr] at q
  have hl : Nat.log2 (v.toInt.toNat + 1) < n.toInt.toNat := by
    rw [Nat.log2_lt (by omega)]
    unfold P2 at hx
    omega
  omega
/-- numbers below a power of two, shifted -/
theorem shl_lt {x y z : Int32} {a K : Nat} (h0 : 0 ≤ x.toInt) (h1 : x.toInt < ((2 ^ a : Nat) : Int)) (hy : 0 ≤ y.toInt) (hK : (a : Int) + y.toInt ≤ (K : Int)) (hK2 : K ≤ 30) (hz : z = x <<< (y &&& 31)) : 0 ≤ z.toInt ∧ z.toInt < ((2 ^ K : Nat) : Int) := by
  obtain ⟨X, hX⟩ : ∃ X : Nat, x.toInt = (X : Int) := ⟨x.toInt.toNat, by omega⟩
  have hl : X * 2 ^ y.toInt.toNat < 2 ^ K := by
    have a1 : X * 2 ^ y.toInt.toNat < 2 ^ a * 2 ^ y.toInt.toNat := Nat.mul_lt_mul_of_pos_right (by omega) (Nat.two_pow_pos _)
    rw [← Nat.pow_add] at a1
    have a2 := Nat.pow_le_pow_right (n := 2) (by omega) (show a + y.toInt.toNat ≤ K by omega)
    omega
  have h30 := Nat.pow_le_pow_right (n := 2) (by omega) hK2
  have e : x.toInt * ((2 ^ y.toInt.toNat : Nat) : Int) = ((X * 2 ^ y.toInt.toNat : Nat) : Int) := by rw [hX, Int.natCast_mul]
  have q := shl_eq (x := x) (y := y) (Y := y.toInt.toNat) h0 (by omega) (by omega) (by rw [e]; omega)
  rw [← hz, e] at q
  rw [q]
  exact ⟨Int.natCast_nonneg _, by omega⟩
theorem one_shl {y z : Int32} (h0 : 0 ≤ y.toInt) (h1 : y.toInt ≤ 30) (hz : z = 1 <<< (y &&& 31)) : z.toInt = ((2 ^ y.toInt.toNat : Nat) : Int) := by
  have e1 : (1 : Int32).toInt = 1 := by decide
  have hp := Nat.pow_le_pow_right (n := 2) (by omega) (show y.toInt.toNat ≤ 30 by omega)
  have q := shl_eq (x := 1) (y := y) (Y := y.toInt.toNat) (by decide) (by omega) (by omega) (by rw [e1]; omega)
  rw [← hz, e1, Int.one_mul] at q
  exact q
theorem Pm.p2 {nm : Nat} {y : Int32} (h : Pm nm y.toInt) : P2 y ≤ 16 * (nm : Int) := by
  obtain ⟨K, h1, h2, h3, h4⟩ := h
  have := Nat.pow_le_pow_right (n := 2) (by omega) (show y.toInt.toNat ≤ K by omega)
  unfold P2
  omega
/-- where a search starts: DIRECTIONS and where the set stands -/
def SB (s w k : Int32) : Prop := 0 ≤ s.toInt ∧ s.toInt < ((2 ^ (w.toInt.toNat + 3 * k.toInt.toNat) : Nat) : Int)
theorem SB.p2 {s w k y : Int32} (h : SB s w k) (hw : 0 ≤ w.toInt) (hk : 0 ≤ k.toInt) (hy : y.toInt = w.toInt + 3 * k.toInt) : s.toInt < P2 y := by
  unfold P2
  rw [show y.toInt.toNat = w.toInt.toNat + 3 * k.toInt.toNat by omega]
  exact h.2
theorem SB.first {s w k : Int32} (h : DrOK w s) (hk : k.toInt = 0) : SB s w k := by
  refine ⟨h.1, ?_⟩
  rw [show w.toInt.toNat + 3 * k.toInt.toNat = w.toInt.toNat by omega]
  exact h.2
theorem SB.cg {s w v k : Int32} (h : SB s w k) (e : w.toInt = v.toInt) : SB s v k := by
  rw [← i_eq e]; exact h
theorem SB.add {s w k k' x y z r : Int32} (h : SB s w k) (hw : 0 ≤ w.toInt) (hk : 0 ≤ k.toInt) (hk' : k'.toInt = k.toInt + 1) (h20 : w.toInt + 3 * k.toInt ≤ 17) (hx : 0 ≤ x.toInt) (hx7 : x.toInt ≤ 7) (hy : y.toInt = w.toInt + 3 * k.toInt) (hz : z = x <<< (y &&& 31)) (hr : r = s ||| z) : SB r w k' := by
  have h8 : ((2 ^ 3 : Nat) : Int) = 8 := by decide
  have b := shl_lt (x := x) (y := y) (z := z) (a := 3) (K := w.toInt.toNat + 3 * k'.toInt.toNat) hx (by omega) (by omega) (by omega) (by omega) hz
  have hs : s.toInt < ((2 ^ (w.toInt.toNat + 3 * k'.toInt.toNat) : Nat) : Int) := by
    have := Nat.pow_le_pow_right (n := 2) (by omega) (show w.toInt.toNat + 3 * k.toInt.toNat ≤ w.toInt.toNat + 3 * k'.toInt.toNat by omega)
    have := h.2
    omega
  have hp := Nat.pow_le_pow_right (n := 2) (by omega) (show w.toInt.toNat + 3 * k'.toInt.toNat ≤ 31 by omega)
  rw [hr]
  exact or_lt _ hp h.1 hs b.1 b.2
/-- what lies behind the noted ones, while a queue is gone through and noted anew -/
def Tl (q : Nat → Int32) (n i to : Int32) (nm : Nat) : Prop := (∀ j : Nat, i.toInt ≤ (j : Int) → (j : Int) < to.toInt → 0 ≤ (q j).toInt ∧ (q j).toInt < 16 * (nm : Int)) ∧ (∀ j k : Nat, i.toInt ≤ (j : Int) → (j : Int) < to.toInt → i.toInt ≤ (k : Int) → (k : Int) < to.toInt → q j = q k → j = k) ∧ ∀ a j : Nat, (a : Int) < n.toInt → i.toInt ≤ (j : Int) → (j : Int) < to.toInt → q a ≠ q j
theorem Tl.start {mk q : Nat → Int32} {n m i : Int32} {nm : Nat} (h : QOK mk q n nm) (hm : m.toInt ≤ 0) : Tl q m i n nm := ⟨fun j _ h2 => h.1 j h2, fun j k _ h2 _ h4 e => h.2.2 j k h2 h4 e, fun a j h1 => by omega⟩
theorem Tl.step {q : Nat → Int32} {n i i' to : Int32} {nm : Nat} (h : Tl q n i to nm) (hi : i'.toInt = i.toInt + 1) : Tl q n i' to nm := ⟨fun j h1 h2 => h.1 j (by omega) h2, fun j k h1 h2 h3 h4 e => h.2.1 j k (by omega) h2 (by omega) h4 e, fun a j h1 h2 h3 => h.2.2 a j h1 (by omega) h3⟩
theorem Tl.note {q q' : Nat → Int32} {n n' i i' to x : Int32} {nm nq : Nat} (h : Tl q n i to nm) (h0 : 0 ≤ n.toInt) (hni : n.toInt ≤ i.toInt) (hit : i.toInt < to.toInt) (hx : x = q i.toNatClampNeg) (hi : i'.toInt = i.toInt + 1) (hn : n'.toInt = n.toInt + 1) (hto : to.toInt ≤ (nq : Int)) (hf : ∀ j : Nat, j ≠ n.toInt.toNat → j < nq → q' j = q j) (hqn : q' n.toInt.toNat = x) : Tl q' n' i' to nm := by
  have ci := cl_int (x := i) (by omega)
  refine ⟨fun j h1 h2 => ?_, fun j k h1 h2 h3 h4 e => ?_, fun a j h1 h2 h3 e => ?_⟩
  · rw [hf j (by omega) (by omega)]; exact h.1 j (by omega) h2
  · rw [hf j (by omega) (by omega), hf k (by omega) (by omega)] at e
    exact h.2.1 j k (by omega) h2 (by omega) h4 e
  · rw [hf j (by omega) (by omega)] at e
    by_cases c : a = n.toInt.toNat
    · subst c
      rw [hqn, hx] at e
      have := h.2.1 i.toNatClampNeg j (by omega) (by omega) (by omega) h3 e
      omega
    · rw [hf a c (by omega)] at e
      exact h.2.2 a j (by omega) (by omega) h3 e
theorem Tl.at {q : Nat → Int32} {n i to z : Int32} {nm : Nat} (h : Tl q n i to nm) (h0 : 0 ≤ i.toInt) (h1 : i.toInt < to.toInt) (hz : z = q i.toNatClampNeg) : (0 ≤ z.toInt ∧ z.toInt < 16 * (nm : Int)) ∧ NewQ q n z := by
  have ci := cl_int h0
  rw [hz]
  exact ⟨h.1 _ (by omega) (by omega), fun a ha => h.2.2 a _ ha (by omega) (by omega)⟩
