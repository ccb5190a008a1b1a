
theorem one_fin : ∀ g, g < 6 → PC (2 ^ g) = 1 ∧ ∀ n, n < 7 → g < n → NBt (2 ^ g) n = 1 := by decide +kernel
theorem PC_one {g z : Int32} (h0 : 0 ≤ g.toInt) (h1 : g.toInt ≤ 5) (hz : z = 1 <<< (g &&& 31)) : PC z.toInt.toNat = 1 := by
  have q := one_shl h0 (by omega) hz
  rw [show z.toInt.toNat = 2 ^ g.toInt.toNat by rw [q]; exact Int.toNat_natCast _]
  exact (one_fin g.toInt.toNat (by omega)).1
theorem NBt_one {g z n : Int32} (h0 : 0 ≤ g.toInt) (h1 : g.toInt < n.toInt) (h2 : n.toInt ≤ 6) (hz : z = 1 <<< (g &&& 31)) : NBt z.toInt.toNat n.toInt.toNat = 1 := by
  have q := one_shl h0 (by omega) hz
  rw [show z.toInt.toNat = 2 ^ g.toInt.toNat by rw [q]; exact Int.toNat_natCast _]
  exact (one_fin g.toInt.toNat (by omega)).2 _ (by omega) (by omega)
