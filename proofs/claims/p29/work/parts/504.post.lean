
theorem post_lt {s w k x y z r b : Int32} (h : SB s w k) (hk : k.toInt = 1) (hw : 0 ≤ w.toInt) (hw9 : w.toInt ≤ 9) (hx : 0 ≤ x.toInt) (hx2 : x.toInt ≤ 255) (hy : y.toInt = w.toInt + 3) (hz : z = x <<< (y &&& 31)) (hr : r = s ||| z) (hb : b.toInt = w.toInt + 11) : 0 ≤ r.toInt ∧ r.toInt < P2 b := by
  have h256 : ((2 ^ 8 : Nat) : Int) = 256 := by decide
  have b1 := shl_lt (x := x) (y := y) (z := z) (a := 8) (K := b.toInt.toNat) hx (by omega) (by omega) (by omega) (by omega) hz
  have hs : s.toInt < ((2 ^ b.toInt.toNat : Nat) : Int) := by
    have := Nat.pow_le_pow_right (n := 2) (by omega) (show w.toInt.toNat + 3 * k.toInt.toNat ≤ b.toInt.toNat by omega)
    have := h.2
    omega
  have hp := Nat.pow_le_pow_right (n := 2) (by omega) (show b.toInt.toNat ≤ 31 by omega)
  rw [hr]
  exact or_lt _ hp h.1 hs b1.1 b1.2
