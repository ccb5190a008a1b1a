theorem i_X0 : ∀ w ∈ u_ws RX0 TX0 8, w ∈ TB := by decide +kernel
theorem df_X0 : ∀ j, j < 8 → defaultValue (tyX0 j) = vp_V [.int 0, .int 0, .null, .null, .null, .int 0, .null, .null] j := by
  intro j hj
  rcases (show j = 0 ∨ j = 1 ∨ j = 2 ∨ j = 3 ∨ j = 4 ∨ j = 5 ∨ j = 6 ∨ j = 7 by omega) with rfl | rfl | rfl | rfl | rfl | rfl | rfl | rfl <;> rfl
theorem i_X1 : ∀ w ∈ u_ws RX1 TX1 8, w ∈ TB := by decide +kernel
theorem df_X1 : ∀ j, j < 8 → defaultValue (tyX1 j) = vp_V [.int 0, .null, .null, .null, .null, .null, .null, .null] j := by
  intro j hj
  rcases (show j = 0 ∨ j = 1 ∨ j = 2 ∨ j = 3 ∨ j = 4 ∨ j = 5 ∨ j = 6 ∨ j = 7 by omega) with rfl | rfl | rfl | rfl | rfl | rfl | rfl | rfl <;> rfl
theorem i_X3 : ∀ w ∈ u_ws RX3 TX3 7, w ∈ TB := by decide +kernel
theorem df_X3 : ∀ j, j < 7 → defaultValue (tyX3 j) = vp_V [.null, .null, .null, .null, .null, .null, .int 0] j := by
  intro j hj
  rcases (show j = 0 ∨ j = 1 ∨ j = 2 ∨ j = 3 ∨ j = 4 ∨ j = 5 ∨ j = 6 by omega) with rfl | rfl | rfl | rfl | rfl | rfl | rfl <;> rfl
theorem i_X4 : ∀ w ∈ u_ws RX4 TX4 9, w ∈ TB := by decide +kernel
theorem df_X4 : ∀ j, j < 9 → defaultValue (tyX4 j) = vp_V [.int 0, .int 0, .null, .null, .null, .null, .null, .null, .null] j := by
  intro j hj
  rcases (show j = 0 ∨ j = 1 ∨ j = 2 ∨ j = 3 ∨ j = 4 ∨ j = 5 ∨ j = 6 ∨ j = 7 ∨ j = 8 by omega) with rfl | rfl | rfl | rfl | rfl | rfl | rfl | rfl | rfl <;> rfl
theorem i_X5 : ∀ w ∈ u_ws RX5 TX5 5, w ∈ TB := by decide +kernel
theorem df_X5 : ∀ j, j < 5 → defaultValue (tyX5 j) = vp_V [.null, .null, .int 0, .int 0, .int 0] j := by
  intro j hj
  rcases (show j = 0 ∨ j = 1 ∨ j = 2 ∨ j = 3 ∨ j = 4 by omega) with rfl | rfl | rfl | rfl | rfl <;> rfl
theorem i_X6 : ∀ w ∈ u_ws RX6 TX6 5, w ∈ TB := by decide +kernel
theorem df_X6 : ∀ j, j < 5 → defaultValue (tyX6 j) = vp_V [.null, .null, .null, .int 0, .int 0] j := by
  intro j hj
  rcases (show j = 0 ∨ j = 1 ∨ j = 2 ∨ j = 3 ∨ j = 4 by omega) with rfl | rfl | rfl | rfl | rfl <;> rfl
theorem i_X7 : ∀ w ∈ u_ws RX7 TX7 12, w ∈ TB := by decide +kernel
theorem df_X7 : ∀ j, j < 12 → defaultValue (tyX7 j) = vp_V [.null, .null, .int 0, .int 0, .null, .int 0, .null, .null, .int 0, .int 0, .int 0, .int 0] j := by
  intro j hj
  rcases (show j = 0 ∨ j = 1 ∨ j = 2 ∨ j = 3 ∨ j = 4 ∨ j = 5 ∨ j = 6 ∨ j = 7 ∨ j = 8 ∨ j = 9 ∨ j = 10 ∨ j = 11 by omega) with rfl | rfl | rfl | rfl | rfl | rfl | rfl | rfl | rfl | rfl | rfl | rfl <;> rfl
theorem i_X8 : ∀ w ∈ u_ws RX8 TX8 8, w ∈ TB := by decide +kernel
theorem df_X8 : ∀ j, j < 8 → defaultValue (tyX8 j) = vp_V [.null, .null, .int 0, .int 0, .int 0, .int 0, .int 0, .null] j := by
  intro j hj
  rcases (show j = 0 ∨ j = 1 ∨ j = 2 ∨ j = 3 ∨ j = 4 ∨ j = 5 ∨ j = 6 ∨ j = 7 by omega) with rfl | rfl | rfl | rfl | rfl | rfl | rfl | rfl <;> rfl
theorem i_X9 : ∀ w ∈ u_ws RX9 TX9 6, w ∈ TB := by decide +kernel
theorem df_X9 : ∀ j, j < 6 → defaultValue (tyX9 j) = vp_V [.null, .int 0, .int 0, .int 0, .int 0, .int 0] j := by
  intro j hj
  rcases (show j = 0 ∨ j = 1 ∨ j = 2 ∨ j = 3 ∨ j = 4 ∨ j = 5 by omega) with rfl | rfl | rfl | rfl | rfl | rfl <;> rfl
theorem i_X10 : ∀ w ∈ u_ws RX10 TX10 10, w ∈ TB := by decide +kernel
theorem df_X10 : ∀ j, j < 10 → defaultValue (tyX10 j) = vp_V [.null, .null, .null, .null, .null, .null, .null, .null, .null, .int 0] j := by
  intro j hj
  rcases (show j = 0 ∨ j = 1 ∨ j = 2 ∨ j = 3 ∨ j = 4 ∨ j = 5 ∨ j = 6 ∨ j = 7 ∨ j = 8 ∨ j = 9 by omega) with rfl | rfl | rfl | rfl | rfl | rfl | rfl | rfl | rfl | rfl <;> rfl
theorem i_X11 : ∀ w ∈ u_ws RX11 TX11 43, w ∈ TB := by decide +kernel
theorem df_X11 : ∀ j, j < 43 → defaultValue (tyX11 j) = vp_V (.null :: .int 0 :: .int 0 :: .null :: .null :: .null :: .null :: .int 0 :: .int 0 :: .null :: .null :: .int 0 :: .int 0 :: .int 0 :: .int 0 :: .int 0 :: .int 0 :: .int 0 :: .null :: .int 0 :: .null :: .int 0 :: .null :: .null :: .null :: .null :: .null :: .null :: .null :: .int 0 :: .null :: .int 0 :: .null :: .int 0 :: .int 0 :: .int 0 :: .null :: .null :: .null :: .null :: .int 0 :: .null :: .null :: []) j := by
  intro j hj
  rcases (show j = 0 ∨ j = 1 ∨ j = 2 ∨ j = 3 ∨ j = 4 ∨ j = 5 ∨ j = 6 ∨ j = 7 ∨ j = 8 ∨ j = 9 ∨ j = 10 ∨ j = 11 ∨ j = 12 ∨ j = 13 ∨ j = 14 ∨ j = 15 ∨ j = 16 ∨ j = 17 ∨ j = 18 ∨ j = 19 ∨ j = 20 ∨ j = 21 ∨ j = 22 ∨ j = 23 ∨ j = 24 ∨ j = 25 ∨ j = 26 ∨ j = 27 ∨ j = 28 ∨ j = 29 ∨ j = 30 ∨ j = 31 ∨ j = 32 ∨ j = 33 ∨ j = 34 ∨ j = 35 ∨ j = 36 ∨ j = 37 ∨ j = 38 ∨ j = 39 ∨ j = 40 ∨ j = 41 ∨ j = 42 by omega) with rfl | rfl | rfl | rfl | rfl | rfl | rfl | rfl | rfl | rfl | rfl | rfl | rfl | rfl | rfl | rfl | rfl | rfl | rfl | rfl | rfl | rfl | rfl | rfl | rfl | rfl | rfl | rfl | rfl | rfl | rfl | rfl | rfl | rfl | rfl | rfl | rfl | rfl | rfl | rfl | rfl | rfl | rfl <;> rfl
theorem ln0 {y : Int64} (h : y.toInt ≠ 0) : ¬ y = 0 := fun q => h (by rw [q]; decide)
theorem cp0 {n : Int32} {N : Nat} (h0 : 0 ≤ n.toInt) (h : n.toInt ≤ (N : Int)) : (0 : Int32).toNatClampNeg + n.toNatClampNeg ≤ N := by
  have q := cl_int h0
  have q2 : (0 : Int32).toNatClampNeg = 0 := by decide
  omega
section MN
variable {p : Program} {l : Launch} {e : Env} {R : Room} {s : State} {m : MethodId} {args : Array Value} {below : List Frame} {meth : Method} {c : Code} {H : Heap} {locs : List Loc} {cells slots : Nat} {Q : State → Prop}
variable {pc : Nat} {ls : Array Slot} {rest : List Value}
theorem o_min {x y : Int32} {X Y : Int} (hX : x.toInt = X) (hY : y.toInt = Y) (k : ∀ z : Int32, z.toInt ≤ X ∧ z.toInt ≤ Y ∧ (z.toInt = X ∨ z.toInt = Y) → W p l e R s m args below meth c H locs cells slots Q (F0 m pc ls (.int z :: rest))) : W p l e R s m args below meth c H locs cells slots Q (F0 m pc ls (.int (if y < x then y else x) :: rest)) := by
  refine k _ ?_
  by_cases h : y < x
  · rw [if_pos h]
    have h' := (tp_lt hY hX).mp h
    omega
  · rw [if_neg h]
    have h' : ¬ Y < X := fun q => h ((tp_lt hY hX).mpr q)
    omega
end MN
