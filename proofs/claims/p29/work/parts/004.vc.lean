-- ranges of what arrays hold
def Rg (f : Nat → Int32) (lo hi : Int) : Prop := ∀ j, lo ≤ (f j).toInt ∧ (f j).toInt ≤ hi
theorem Rg.upd {f : Nat → Int32} {lo hi : Int} (h : Rg f lo hi) {k : Nat} {x : Int32} (h1 : lo ≤ x.toInt) (h2 : x.toInt ≤ hi) : Rg (upd f k x) lo hi := by
  intro j
  by_cases hj : j = k
  · subst hj; rw [pk_us]; exact ⟨h1, h2⟩
  · rw [pk_un hj]; exact h j
theorem Rg.cpy {f g : Nat → Int32} {lo hi : Int} (hf : Rg f lo hi) (hg : Rg g lo hi) {sp dp n : Nat} : Rg (va_cpy f g sp dp n) lo hi := by
  intro j
  by_cases hj : dp ≤ j ∧ j < dp + n
  · rw [pk_cpy_in hj.1 hj.2]; exact hf _
  · rw [pk_cpy_out (by omega)]; exact hg j
theorem Rg.wk {f : Nat → Int32} {lo hi lo' hi' : Int} (h : Rg f lo hi) (h1 : lo' ≤ lo) (h2 : hi ≤ hi') : Rg f lo' hi' := fun j => ⟨Int.le_trans h1 (h j).1, Int.le_trans (h j).2 h2⟩
theorem Rg.const {v : Int32} {lo hi : Int} (h : lo ≤ v.toInt ∧ v.toInt ≤ hi) : Rg (fun _ => v) lo hi := fun _ => h
-- numbers
theorem tI (x : Int32) : x.toInt = if 2 * x.toBitVec.toNat < 2 ^ 32 then (x.toBitVec.toNat : Int) else (x.toBitVec.toNat : Int) - 2 ^ 32 := BitVec.toInt_eq_toNat_cond x.toBitVec
theorem tN (x : Int32) : x.toBitVec.toNat < 2 ^ 32 := x.toBitVec.isLt
theorem of_nn {x : Int32} (h : 0 ≤ x.toInt) : (x.toBitVec.toNat : Int) = x.toInt ∧ x.toBitVec.toNat < 2 ^ 31 := by
  have h1 := tI x
  have h2 := tN x
  split at h1 <;> omega
theorem nn_of {x : Int32} (h : x.toBitVec.toNat < 2 ^ 31) : x.toInt = (x.toBitVec.toNat : Int) := by
  have h1 := tI x
  split at h1 <;> omega
theorem i32_lo (x : Int32) : -2147483648 ≤ x.toInt := by
  have h1 := tI x
  have h2 := tN x
  split at h1 <;> omega
theorem i32_hi (x : Int32) : x.toInt ≤ 2147483647 := by
  have h1 := tI x
  have h2 := tN x
  split at h1 <;> omega
theorem ad_int {a b : Int32} {A B : Int} (ha : a.toInt = A) (hb : b.toInt = B) (h1 : -2147483648 ≤ A + B) (h2 : A + B ≤ 2147483647) : (a + b).toInt = A + B := by
  rw [Int32.toInt_add, ha, hb, Int.bmod_def]
  omega
theorem sb_int {a b : Int32} {A B : Int} (ha : a.toInt = A) (hb : b.toInt = B) (h1 : -2147483648 ≤ A - B) (h2 : A - B ≤ 2147483647) : (a - b).toInt = A - B := by
  rw [Int32.toInt_sub, ha, hb, Int.bmod_def]
  omega
theorem ml_int {a b : Int32} {A B C : Int} (ha : a.toInt = A) (hb : b.toInt = B) (hC : A * B = C) (h1 : -2147483648 ≤ C) (h2 : C ≤ 2147483647) : (a * b).toInt = C := by
  rw [Int32.toInt_mul, ha, hb, hC, Int.bmod_def]
  omega
theorem ng_int {a : Int32} {A : Int} (ha : a.toInt = A) (h1 : -2147483647 ≤ A) : (-a).toInt = -A := by
  have h2 := i32_hi a
  rw [Int32.toInt_neg, ha, Int.bmod_def]
  omega
theorem and_nn {x y : Int32} (h : 0 ≤ y.toInt) : 0 ≤ (x &&& y).toInt ∧ (x &&& y).toInt ≤ y.toInt := by
  have h1 := of_nn h
  have h3 : (x &&& y).toBitVec.toNat ≤ y.toBitVec.toNat := by rw [Int32.toBitVec_and, BitVec.toNat_and]; exact Nat.and_le_right
  have h4 := nn_of (x := x &&& y) (by omega)
  omega
theorem and_nn' {x y : Int32} (h : 0 ≤ x.toInt) : 0 ≤ (x &&& y).toInt ∧ (x &&& y).toInt ≤ x.toInt := by
  have h1 := of_nn h
  have h3 : (x &&& y).toBitVec.toNat ≤ x.toBitVec.toNat := by rw [Int32.toBitVec_and, BitVec.toNat_and]; exact Nat.and_le_left
  have h4 := nn_of (x := x &&& y) (by omega)
  omega
theorem or_lt {x y : Int32} (k : Nat) (hk : 2 ^ k ≤ 2 ^ 31) (h1 : 0 ≤ x.toInt) (h2 : x.toInt < ((2 ^ k : Nat) : Int)) (h3 : 0 ≤ y.toInt) (h4 : y.toInt < ((2 ^ k : Nat) : Int)) : 0 ≤ (x ||| y).toInt ∧ (x ||| y).toInt < ((2 ^ k : Nat) : Int) := by
  have a := of_nn h1
  have b := of_nn h3
  have h5 : (x ||| y).toBitVec.toNat < 2 ^ k := by rw [Int32.toBitVec_or, BitVec.toNat_or]; exact Nat.or_lt_two_pow (by omega) (by omega)
  have h6 := nn_of (x := x ||| y) (by omega)
  omega
theorem xor_lt {x y : Int32} (k : Nat) (hk : 2 ^ k ≤ 2 ^ 31) (h1 : 0 ≤ x.toInt) (h2 : x.toInt < ((2 ^ k : Nat) : Int)) (h3 : 0 ≤ y.toInt) (h4 : y.toInt < ((2 ^ k : Nat) : Int)) : 0 ≤ (x ^^^ y).toInt ∧ (x ^^^ y).toInt < ((2 ^ k : Nat) : Int) := by
  have a := of_nn h1
  have b := of_nn h3
  have h5 : (x ^^^ y).toBitVec.toNat < 2 ^ k := by rw [Int32.toBitVec_xor, BitVec.toNat_xor]; exact Nat.xor_lt_two_pow (by omega) (by omega)
  have h6 := nn_of (x := x ^^^ y) (by omega)
  omega
theorem mask_eq {x m : Int32} (k : Nat) (hm : m.toBitVec.toNat = 2 ^ k - 1) (hk : k ≤ 31) : (x &&& m).toInt = x.toInt % ((2 ^ k : Nat) : Int) := by
  have hp : 2 ^ k ≤ 2 ^ 31 := Nat.pow_le_pow_right (by omega) hk
  have h0 : 0 < 2 ^ k := Nat.two_pow_pos k
  have h1 : x.toBitVec.toNat % 2 ^ k < 2 ^ k := Nat.mod_lt _ h0
  rw [pk_and x k hm, nI_toInt (by omega)]
  have h2 := tI x
  obtain ⟨c, hc⟩ : ∃ c : Nat, 2 ^ 32 = 2 ^ k * c := ⟨2 ^ (32 - k), by rw [← Nat.pow_add]; congr 1; omega⟩
  have h3 : ((x.toBitVec.toNat : Int) - ((2 ^ k : Nat) : Int) * (c : Int)) % ((2 ^ k : Nat) : Int) = (x.toBitVec.toNat : Int) % ((2 ^ k : Nat) : Int) := Int.sub_mul_emod_self_left _ _ _
  have h4 : ((2 : Int) ^ 32) = ((2 ^ k : Nat) : Int) * (c : Int) := by
    have : ((2 ^ 32 : Nat) : Int) = ((2 ^ k * c : Nat) : Int) := by rw [hc]
    rw [Int.natCast_mul] at this
    exact this
  split at h2
  · rw [h2]; simp
  · rw [h2, h4, h3]; simp
theorem shr_eq {x s : Int32} (k : Nat) (hs : (s.toBitVec.smod 32).toNat = k) : (x >>> s).toInt = x.toInt / ((2 ^ k : Nat) : Int) := by
  rw [pk_shr x s k hs, Int.shiftRight_eq_div_pow]
theorem shr_nn {x s : Int32} (h : 0 ≤ x.toInt) : 0 ≤ (x >>> s).toInt ∧ (x >>> s).toInt ≤ x.toInt := by
  rw [shr_eq _ rfl]
  have h0 : (0 : Int) ≤ ((2 ^ (s.toBitVec.smod 32).toNat : Nat) : Int) := Int.natCast_nonneg _
  exact ⟨Int.ediv_nonneg h h0, Int.ediv_le_self _ h⟩
theorem sh31 : ∀ n, n < 32 → ((nI n &&& 31).toBitVec.smod 32).toNat = n := by decide +kernel
theorem i_of {x : Int32} (h : 0 ≤ x.toInt) : x = nI x.toInt.toNat := by
  have h1 := i32_hi x
  rw [← Int32.toInt_inj, nI_toInt (by omega)]
  omega
theorem shl_eq {x y : Int32} {Y : Nat} (h0 : 0 ≤ x.toInt) (hy : y.toInt = (Y : Int)) (hY : Y < 32) (h : x.toInt * ((2 ^ Y : Nat) : Int) < 2147483648) : (x <<< (y &&& 31)).toInt = x.toInt * ((2 ^ Y : Nat) : Int) := by
  obtain ⟨n, hn⟩ : ∃ n : Nat, x.toInt = (n : Int) := ⟨x.toInt.toNat, by omega⟩
  have hx : x = nI n := by rw [i_of h0, hn]; rfl
  have hyy : y = nI Y := by rw [i_of (x := y) (by omega), hy]; rfl
  have hm : n * 2 ^ Y < 2147483648 := by
    rw [hn] at h
    have : ((n * 2 ^ Y : Nat) : Int) < 2147483648 := by rw [Int.natCast_mul]; exact h
    omega
  rw [hn, hx, hyy, pk_shlN _ Y (sh31 Y hY) (by omega), nI_toInt (by omega), Int.natCast_mul]
theorem shl_le {x y : Int32} {a b : Nat} (h0 : 0 ≤ x.toInt) (ha : x.toInt ≤ (a : Int)) (hy0 : 0 ≤ y.toInt) (hb : y.toInt ≤ (b : Int)) (hb2 : b < 32) (h : a * 2 ^ b < 2147483648) : x.toInt ≤ (x <<< (y &&& 31)).toInt ∧ (x <<< (y &&& 31)).toInt ≤ ((a * 2 ^ b : Nat) : Int) := by
  obtain ⟨n, hn⟩ : ∃ n : Nat, x.toInt = (n : Int) := ⟨x.toInt.toNat, by omega⟩
  obtain ⟨Y, hY⟩ : ∃ n : Nat, y.toInt = (n : Int) := ⟨y.toInt.toNat, by omega⟩
  have hp : 2 ^ Y ≤ 2 ^ b := Nat.pow_le_pow_right (by omega) (by omega)
  have h1 : n * 2 ^ Y ≤ a * 2 ^ b := Nat.mul_le_mul (by omega) hp
  have h2 : n * 1 ≤ n * 2 ^ Y := Nat.mul_le_mul_left _ (Nat.two_pow_pos Y)
  have h3 : x.toInt * ((2 ^ Y : Nat) : Int) = ((n * 2 ^ Y : Nat) : Int) := by rw [hn, Int.natCast_mul]
  rw [shl_eq h0 hY (by omega) (by rw [h3]; omega), h3, hn]
  omega
theorem div_nn {x d : Int32} {D : Nat} (h : 0 ≤ x.toInt) (hd : d = nI D) (h0 : 0 < D) (h1 : D < 2 ^ 31) : (x / d).toInt = x.toInt / (D : Int) := by
  obtain ⟨n, hn⟩ : ∃ n : Nat, x.toInt = (n : Int) := ⟨x.toInt.toNat, by omega⟩
  have hx : x = nI n := by rw [i_of h, hn]; rfl
  have h2 := i32_hi x
  have h3 : n / D ≤ n := Nat.div_le_self _ _
  rw [hn, hx, hd, pk_div (by omega) h0 h1, nI_toInt (by omega)]
  simp
theorem rem_nn {x d : Int32} {D : Nat} (h : 0 ≤ x.toInt) (hd : d = nI D) (h0 : 0 < D) (h1 : D < 2 ^ 31) : (x - x / d * d).toInt = x.toInt % (D : Int) := by
  obtain ⟨n, hn⟩ : ∃ n : Nat, x.toInt = (n : Int) := ⟨x.toInt.toNat, by omega⟩
  have hx : x = nI n := by rw [i_of h, hn]; rfl
  have h2 := i32_hi x
  have h3 : n % D ≤ n := Nat.mod_le _ _
  rw [hn, hx, hd, pk_rem (by omega) h0 h1, nI_toInt (by omega)]
  simp
theorem cl_int {x : Int32} (h : 0 ≤ x.toInt) : (x.toNatClampNeg : Int) = x.toInt := by
  obtain ⟨n, hn⟩ : ∃ n : Nat, x.toInt = (n : Int) := ⟨x.toInt.toNat, by omega⟩
  have hx : x = nI n := by rw [i_of h, hn]; rfl
  have h2 := i32_hi x
  rw [hn, hx, nI_clamp (by omega)]
theorem nar_byte (x : Int32) : -128 ≤ (vp_nar .byte x).toInt ∧ (vp_nar .byte x).toInt ≤ 127 := by
  rw [vp_nar_byte]
  have h1 := Int8.le_toInt x.toInt8
  have h2 := Int8.toInt_lt x.toInt8
  rw [Int8.toInt_toInt32]
  omega
theorem tp_lt {x y : Int32} {X Y : Int} (hX : x.toInt = X) (hY : y.toInt = Y) : x < y ↔ X < Y := by rw [Int32.lt_iff_toInt_lt, hX, hY]
theorem tp_le {x y : Int32} {X Y : Int} (hX : x.toInt = X) (hY : y.toInt = Y) : x ≤ y ↔ X ≤ Y := by rw [Int32.le_iff_toInt_le, hX, hY]
theorem tp_eq {x y : Int32} {X Y : Int} (hX : x.toInt = X) (hY : y.toInt = Y) : x = y ↔ X = Y := by rw [← Int32.toInt_inj, hX, hY]
section VC
variable {p : Program} {l : Launch} {e : Env} {R : Room} {s : State} {m : MethodId} {args : Array Value} {below : List Frame} {meth : Method} {c : Code} {H : Heap} {locs : List Loc} {cells slots : Nat} {Q : State → Prop}
variable {cc : ByteArray} {pc : Nat} {ls : Array Slot} {rest : List Value}
theorem W.mono {Q' : State → Prop} {g : JFrame} (h : ∀ t, Q t → Q' t) (k : W p l e R s m args below meth c H locs cells slots Q g) : W p l e R s m args below meth c H locs cells slots Q' g := by
  intro T hT X
  obtain ⟨t, a, b⟩ := k T hT X
  exact ⟨t, a, h t b⟩
theorem lc_int {x y : Int64} {X Y : Int} (hX : x.toInt = X) (hY : y.toInt = Y) : (lg_cmp x y).toInt = if X < Y then -1 else if X = Y then 0 else 1 := by
  by_cases h1 : X < Y
  · rw [if_pos h1]
    have n1 : ¬ y < x := by rw [Int64.lt_iff_toInt_lt, hX, hY]; omega
    have n2 : ¬ x = y := fun q => by rw [q, hY] at hX; omega
    unfold lg_cmp
    rw [if_neg n1, if_neg n2]
    decide
  · rw [if_neg h1]
    have n1 : ¬ x < y := by rw [Int64.lt_iff_toInt_lt, hX, hY]; exact h1
    by_cases h2 : X = Y
    · rw [if_pos h2]
      have : x = y := by rw [← Int64.toInt_inj, hX, hY]; exact h2
      subst this
      unfold lg_cmp
      rw [if_neg n1, if_pos rfl]
      decide
    · rw [if_neg h2]
      have n2 : y < x := by rw [Int64.lt_iff_toInt_lt, hX, hY]; omega
      unfold lg_cmp
      rw [if_pos n2]
      decide
theorem lc_rg (x y : Int64) : -1 ≤ (lg_cmp x y).toInt ∧ (lg_cmp x y).toInt ≤ 1 := by
  rw [lc_int rfl rfl]
  split
  · omega
  · split <;> omega
theorem B_icmp_eq (hx : p.tables.exec = Jvm.exec) (hb : c.code = cc) {x y : Int32} {X Y : Int} {off : Int} {tgt : Nat} (hdg : decode cc pc = .ok (.if_icmp .eq off, 3)) (ht : (pc : Int) + off = (tgt : Int)) (hX : x.toInt = X) (hY : y.toInt = Y) (k1 : X = Y → W p l e R s m args below meth c H locs cells slots Q (F0 m tgt ls rest)) (k2 : X ≠ Y → W p l e R s m args below meth c H locs cells slots Q (F0 m (pc + 3) ls rest)) : W p l e R s m args below meth c H locs cells slots Q (F0 m pc ls (.int y :: .int x :: rest)) := lv_icmp_eq hx hb hdg ht (fun z => k1 ((tp_eq hX hY).mp z)) (fun z => k2 (fun q => z ((tp_eq hX hY).mpr q)))
theorem B_if_eq (hx : p.tables.exec = Jvm.exec) (hb : c.code = cc) {x : Int32} {X : Int} {off : Int} {tgt : Nat} (hdg : decode cc pc = .ok (.ifCond .eq off, 3)) (ht : (pc : Int) + off = (tgt : Int)) (hX : x.toInt = X) (k1 : X = 0 → W p l e R s m args below meth c H locs cells slots Q (F0 m tgt ls rest)) (k2 : X ≠ 0 → W p l e R s m args below meth c H locs cells slots Q (F0 m (pc + 3) ls rest)) : W p l e R s m args below meth c H locs cells slots Q (F0 m pc ls (.int x :: rest)) := by
  have z0 : (0 : Int32).toInt = 0 := by decide
  exact lv_if_eq hx hb hdg ht (fun z => k1 ((tp_eq hX z0).mp z)) (fun z => k2 (fun q => z ((tp_eq hX z0).mpr q)))
theorem B_icmp_ne (hx : p.tables.exec = Jvm.exec) (hb : c.code = cc) {x y : Int32} {X Y : Int} {off : Int} {tgt : Nat} (hdg : decode cc pc = .ok (.if_icmp .ne off, 3)) (ht : (pc : Int) + off = (tgt : Int)) (hX : x.toInt = X) (hY : y.toInt = Y) (k1 : X ≠ Y → W p l e R s m args below meth c H locs cells slots Q (F0 m tgt ls rest)) (k2 : X = Y → W p l e R s m args below meth c H locs cells slots Q (F0 m (pc + 3) ls rest)) : W p l e R s m args below meth c H locs cells slots Q (F0 m pc ls (.int y :: .int x :: rest)) := lv_icmp_ne hx hb hdg ht (fun z => k1 (fun q => z ((tp_eq hX hY).mpr q))) (fun z => k2 ((tp_eq hX hY).mp z))
theorem B_if_ne (hx : p.tables.exec = Jvm.exec) (hb : c.code = cc) {x : Int32} {X : Int} {off : Int} {tgt : Nat} (hdg : decode cc pc = .ok (.ifCond .ne off, 3)) (ht : (pc : Int) + off = (tgt : Int)) (hX : x.toInt = X) (k1 : X ≠ 0 → W p l e R s m args below meth c H locs cells slots Q (F0 m tgt ls rest)) (k2 : X = 0 → W p l e R s m args below meth c H locs cells slots Q (F0 m (pc + 3) ls rest)) : W p l e R s m args below meth c H locs cells slots Q (F0 m pc ls (.int x :: rest)) := by
  have z0 : (0 : Int32).toInt = 0 := by decide
  exact lv_if_ne hx hb hdg ht (fun z => k1 (fun q => z ((tp_eq hX z0).mpr q))) (fun z => k2 ((tp_eq hX z0).mp z))
theorem B_icmp_lt (hx : p.tables.exec = Jvm.exec) (hb : c.code = cc) {x y : Int32} {X Y : Int} {off : Int} {tgt : Nat} (hdg : decode cc pc = .ok (.if_icmp .lt off, 3)) (ht : (pc : Int) + off = (tgt : Int)) (hX : x.toInt = X) (hY : y.toInt = Y) (k1 : X < Y → W p l e R s m args below meth c H locs cells slots Q (F0 m tgt ls rest)) (k2 : Y ≤ X → W p l e R s m args below meth c H locs cells slots Q (F0 m (pc + 3) ls rest)) : W p l e R s m args below meth c H locs cells slots Q (F0 m pc ls (.int y :: .int x :: rest)) := lv_icmp_lt hx hb hdg ht (fun z => k1 ((tp_lt hX hY).mp z)) (fun z => k2 (Int.not_lt.mp (fun q => z ((tp_lt hX hY).mpr q))))
theorem B_if_lt (hx : p.tables.exec = Jvm.exec) (hb : c.code = cc) {x : Int32} {X : Int} {off : Int} {tgt : Nat} (hdg : decode cc pc = .ok (.ifCond .lt off, 3)) (ht : (pc : Int) + off = (tgt : Int)) (hX : x.toInt = X) (k1 : X < 0 → W p l e R s m args below meth c H locs cells slots Q (F0 m tgt ls rest)) (k2 : 0 ≤ X → W p l e R s m args below meth c H locs cells slots Q (F0 m (pc + 3) ls rest)) : W p l e R s m args below meth c H locs cells slots Q (F0 m pc ls (.int x :: rest)) := by
  have z0 : (0 : Int32).toInt = 0 := by decide
  exact lv_if_lt hx hb hdg ht (fun z => k1 ((tp_lt hX z0).mp z)) (fun z => k2 (Int.not_lt.mp (fun q => z ((tp_lt hX z0).mpr q))))
theorem B_icmp_ge (hx : p.tables.exec = Jvm.exec) (hb : c.code = cc) {x y : Int32} {X Y : Int} {off : Int} {tgt : Nat} (hdg : decode cc pc = .ok (.if_icmp .ge off, 3)) (ht : (pc : Int) + off = (tgt : Int)) (hX : x.toInt = X) (hY : y.toInt = Y) (k1 : Y ≤ X → W p l e R s m args below meth c H locs cells slots Q (F0 m tgt ls rest)) (k2 : X < Y → W p l e R s m args below meth c H locs cells slots Q (F0 m (pc + 3) ls rest)) : W p l e R s m args below meth c H locs cells slots Q (F0 m pc ls (.int y :: .int x :: rest)) := lv_icmp_ge hx hb hdg ht (fun z => k1 ((tp_le hY hX).mp z)) (fun z => k2 (Int.not_le.mp (fun q => z ((tp_le hY hX).mpr q))))
theorem B_if_ge (hx : p.tables.exec = Jvm.exec) (hb : c.code = cc) {x : Int32} {X : Int} {off : Int} {tgt : Nat} (hdg : decode cc pc = .ok (.ifCond .ge off, 3)) (ht : (pc : Int) + off = (tgt : Int)) (hX : x.toInt = X) (k1 : 0 ≤ X → W p l e R s m args below meth c H locs cells slots Q (F0 m tgt ls rest)) (k2 : X < 0 → W p l e R s m args below meth c H locs cells slots Q (F0 m (pc + 3) ls rest)) : W p l e R s m args below meth c H locs cells slots Q (F0 m pc ls (.int x :: rest)) := by
  have z0 : (0 : Int32).toInt = 0 := by decide
  exact lv_if_ge hx hb hdg ht (fun z => k1 ((tp_le z0 hX).mp z)) (fun z => k2 (Int.not_le.mp (fun q => z ((tp_le z0 hX).mpr q))))
theorem B_icmp_gt (hx : p.tables.exec = Jvm.exec) (hb : c.code = cc) {x y : Int32} {X Y : Int} {off : Int} {tgt : Nat} (hdg : decode cc pc = .ok (.if_icmp .gt off, 3)) (ht : (pc : Int) + off = (tgt : Int)) (hX : x.toInt = X) (hY : y.toInt = Y) (k1 : Y < X → W p l e R s m args below meth c H locs cells slots Q (F0 m tgt ls rest)) (k2 : X ≤ Y → W p l e R s m args below meth c H locs cells slots Q (F0 m (pc + 3) ls rest)) : W p l e R s m args below meth c H locs cells slots Q (F0 m pc ls (.int y :: .int x :: rest)) := lv_icmp_gt hx hb hdg ht (fun z => k1 ((tp_lt hY hX).mp z)) (fun z => k2 (Int.not_lt.mp (fun q => z ((tp_lt hY hX).mpr q))))
theorem B_if_gt (hx : p.tables.exec = Jvm.exec) (hb : c.code = cc) {x : Int32} {X : Int} {off : Int} {tgt : Nat} (hdg : decode cc pc = .ok (.ifCond .gt off, 3)) (ht : (pc : Int) + off = (tgt : Int)) (hX : x.toInt = X) (k1 : 0 < X → W p l e R s m args below meth c H locs cells slots Q (F0 m tgt ls rest)) (k2 : X ≤ 0 → W p l e R s m args below meth c H locs cells slots Q (F0 m (pc + 3) ls rest)) : W p l e R s m args below meth c H locs cells slots Q (F0 m pc ls (.int x :: rest)) := by
  have z0 : (0 : Int32).toInt = 0 := by decide
  exact lv_if_gt hx hb hdg ht (fun z => k1 ((tp_lt z0 hX).mp z)) (fun z => k2 (Int.not_lt.mp (fun q => z ((tp_lt z0 hX).mpr q))))
theorem B_icmp_le (hx : p.tables.exec = Jvm.exec) (hb : c.code = cc) {x y : Int32} {X Y : Int} {off : Int} {tgt : Nat} (hdg : decode cc pc = .ok (.if_icmp .le off, 3)) (ht : (pc : Int) + off = (tgt : Int)) (hX : x.toInt = X) (hY : y.toInt = Y) (k1 : X ≤ Y → W p l e R s m args below meth c H locs cells slots Q (F0 m tgt ls rest)) (k2 : Y < X → W p l e R s m args below meth c H locs cells slots Q (F0 m (pc + 3) ls rest)) : W p l e R s m args below meth c H locs cells slots Q (F0 m pc ls (.int y :: .int x :: rest)) := lv_icmp_le hx hb hdg ht (fun z => k1 ((tp_le hX hY).mp z)) (fun z => k2 (Int.not_le.mp (fun q => z ((tp_le hX hY).mpr q))))
theorem B_if_le (hx : p.tables.exec = Jvm.exec) (hb : c.code = cc) {x : Int32} {X : Int} {off : Int} {tgt : Nat} (hdg : decode cc pc = .ok (.ifCond .le off, 3)) (ht : (pc : Int) + off = (tgt : Int)) (hX : x.toInt = X) (k1 : X ≤ 0 → W p l e R s m args below meth c H locs cells slots Q (F0 m tgt ls rest)) (k2 : 0 < X → W p l e R s m args below meth c H locs cells slots Q (F0 m (pc + 3) ls rest)) : W p l e R s m args below meth c H locs cells slots Q (F0 m pc ls (.int x :: rest)) := by
  have z0 : (0 : Int32).toInt = 0 := by decide
  exact lv_if_le hx hb hdg ht (fun z => k1 ((tp_le hX z0).mp z)) (fun z => k2 (Int.not_le.mp (fun q => z ((tp_le hX z0).mpr q))))
theorem B_lc_lt (hx : p.tables.exec = Jvm.exec) (hb : c.code = cc) {x y : Int64} {X Y : Int} {off : Int} {tgt : Nat} (hd1 : decode cc pc = .ok (.lcmp, 1)) (hd2 : decode cc (pc + 1) = .ok (.ifCond .lt off, 3)) (ht : ((pc + 1 : Nat) : Int) + off = (tgt : Int)) (hX : x.toInt = X) (hY : y.toInt = Y) (k1 : X < Y → W p l e R s m args below meth c H locs cells slots Q (F0 m tgt ls rest)) (k2 : Y ≤ X → W p l e R s m args below meth c H locs cells slots Q (F0 m (pc + 4) ls rest)) : W p l e R s m args below meth c H locs cells slots Q (F0 m pc ls (.long y :: .long x :: rest)) := by
  refine W.lcmp hx hb hd1 ?_
  have hc : (lg_cmp x y).toInt = if X < Y then -1 else if X = Y then 0 else 1 := lc_int hX hY
  refine B_if_lt hx hb hd2 ht hc (fun z => k1 ?_) (fun z => k2 ?_) <;> (split at z <;> first | omega | (split at z <;> omega))
theorem B_lc_gt (hx : p.tables.exec = Jvm.exec) (hb : c.code = cc) {x y : Int64} {X Y : Int} {off : Int} {tgt : Nat} (hd1 : decode cc pc = .ok (.lcmp, 1)) (hd2 : decode cc (pc + 1) = .ok (.ifCond .gt off, 3)) (ht : ((pc + 1 : Nat) : Int) + off = (tgt : Int)) (hX : x.toInt = X) (hY : y.toInt = Y) (k1 : Y < X → W p l e R s m args below meth c H locs cells slots Q (F0 m tgt ls rest)) (k2 : X ≤ Y → W p l e R s m args below meth c H locs cells slots Q (F0 m (pc + 4) ls rest)) : W p l e R s m args below meth c H locs cells slots Q (F0 m pc ls (.long y :: .long x :: rest)) := by
  refine W.lcmp hx hb hd1 ?_
  have hc : (lg_cmp x y).toInt = if X < Y then -1 else if X = Y then 0 else 1 := lc_int hX hY
  refine B_if_gt hx hb hd2 ht hc (fun z => k1 ?_) (fun z => k2 ?_) <;> (split at z <;> first | omega | (split at z <;> omega))
theorem B_lc_ge (hx : p.tables.exec = Jvm.exec) (hb : c.code = cc) {x y : Int64} {X Y : Int} {off : Int} {tgt : Nat} (hd1 : decode cc pc = .ok (.lcmp, 1)) (hd2 : decode cc (pc + 1) = .ok (.ifCond .ge off, 3)) (ht : ((pc + 1 : Nat) : Int) + off = (tgt : Int)) (hX : x.toInt = X) (hY : y.toInt = Y) (k1 : Y ≤ X → W p l e R s m args below meth c H locs cells slots Q (F0 m tgt ls rest)) (k2 : X < Y → W p l e R s m args below meth c H locs cells slots Q (F0 m (pc + 4) ls rest)) : W p l e R s m args below meth c H locs cells slots Q (F0 m pc ls (.long y :: .long x :: rest)) := by
  refine W.lcmp hx hb hd1 ?_
  have hc : (lg_cmp x y).toInt = if X < Y then -1 else if X = Y then 0 else 1 := lc_int hX hY
  refine B_if_ge hx hb hd2 ht hc (fun z => k1 ?_) (fun z => k2 ?_) <;> (split at z <;> first | omega | (split at z <;> omega))
theorem B_lc_le (hx : p.tables.exec = Jvm.exec) (hb : c.code = cc) {x y : Int64} {X Y : Int} {off : Int} {tgt : Nat} (hd1 : decode cc pc = .ok (.lcmp, 1)) (hd2 : decode cc (pc + 1) = .ok (.ifCond .le off, 3)) (ht : ((pc + 1 : Nat) : Int) + off = (tgt : Int)) (hX : x.toInt = X) (hY : y.toInt = Y) (k1 : X ≤ Y → W p l e R s m args below meth c H locs cells slots Q (F0 m tgt ls rest)) (k2 : Y < X → W p l e R s m args below meth c H locs cells slots Q (F0 m (pc + 4) ls rest)) : W p l e R s m args below meth c H locs cells slots Q (F0 m pc ls (.long y :: .long x :: rest)) := by
  refine W.lcmp hx hb hd1 ?_
  have hc : (lg_cmp x y).toInt = if X < Y then -1 else if X = Y then 0 else 1 := lc_int hX hY
  refine B_if_le hx hb hd2 ht hc (fun z => k1 ?_) (fun z => k2 ?_) <;> (split at z <;> first | omega | (split at z <;> omega))
theorem B_lc_eq (hx : p.tables.exec = Jvm.exec) (hb : c.code = cc) {x y : Int64} {X Y : Int} {off : Int} {tgt : Nat} (hd1 : decode cc pc = .ok (.lcmp, 1)) (hd2 : decode cc (pc + 1) = .ok (.ifCond .eq off, 3)) (ht : ((pc + 1 : Nat) : Int) + off = (tgt : Int)) (hX : x.toInt = X) (hY : y.toInt = Y) (k1 : X = Y → W p l e R s m args below meth c H locs cells slots Q (F0 m tgt ls rest)) (k2 : X ≠ Y → W p l e R s m args below meth c H locs cells slots Q (F0 m (pc + 4) ls rest)) : W p l e R s m args below meth c H locs cells slots Q (F0 m pc ls (.long y :: .long x :: rest)) := by
  refine W.lcmp hx hb hd1 ?_
  have hc : (lg_cmp x y).toInt = if X < Y then -1 else if X = Y then 0 else 1 := lc_int hX hY
  refine B_if_eq hx hb hd2 ht hc (fun z => k1 ?_) (fun z => k2 ?_) <;> (split at z <;> first | omega | (split at z <;> omega))
theorem B_lc_ne (hx : p.tables.exec = Jvm.exec) (hb : c.code = cc) {x y : Int64} {X Y : Int} {off : Int} {tgt : Nat} (hd1 : decode cc pc = .ok (.lcmp, 1)) (hd2 : decode cc (pc + 1) = .ok (.ifCond .ne off, 3)) (ht : ((pc + 1 : Nat) : Int) + off = (tgt : Int)) (hX : x.toInt = X) (hY : y.toInt = Y) (k1 : X ≠ Y → W p l e R s m args below meth c H locs cells slots Q (F0 m tgt ls rest)) (k2 : X = Y → W p l e R s m args below meth c H locs cells slots Q (F0 m (pc + 4) ls rest)) : W p l e R s m args below meth c H locs cells slots Q (F0 m pc ls (.long y :: .long x :: rest)) := by
  refine W.lcmp hx hb hd1 ?_
  have hc : (lg_cmp x y).toInt = if X < Y then -1 else if X = Y then 0 else 1 := lc_int hX hY
  refine B_if_ne hx hb hd2 ht hc (fun z => k1 ?_) (fun z => k2 ?_) <;> (split at z <;> first | omega | (split at z <;> omega))
theorem rd {f : Nat → Int32} {i : Nat} {lo hi : Int} (h : Rg f lo hi) (k : ∀ z : Int32, z = f i → lo ≤ z.toInt ∧ z.toInt ≤ hi → W p l e R s m args below meth c H locs cells slots Q (F0 m pc ls (.int z :: rest))) : W p l e R s m args below meth c H locs cells slots Q (F0 m pc ls (.int (f i) :: rest)) := k _ rfl (h i)
theorem o_add {x y : Int32} {X Y : Int} (hX : x.toInt = X) (hY : y.toInt = Y) (h1 : -2147483648 ≤ X + Y) (h2 : X + Y ≤ 2147483647) (k : ∀ z : Int32, z.toInt = X + Y → W p l e R s m args below meth c H locs cells slots Q (F0 m pc ls (.int z :: rest))) : W p l e R s m args below meth c H locs cells slots Q (F0 m pc ls (.int (x + y) :: rest)) := k _ (ad_int hX hY h1 h2)
theorem o_sub {x y : Int32} {X Y : Int} (hX : x.toInt = X) (hY : y.toInt = Y) (h1 : -2147483648 ≤ X - Y) (h2 : X - Y ≤ 2147483647) (k : ∀ z : Int32, z.toInt = X - Y → W p l e R s m args below meth c H locs cells slots Q (F0 m pc ls (.int z :: rest))) : W p l e R s m args below meth c H locs cells slots Q (F0 m pc ls (.int (x - y) :: rest)) := k _ (sb_int hX hY h1 h2)
theorem o_mul {x y : Int32} {X Y Z : Int} (hX : x.toInt = X) (hY : y.toInt = Y) (hZ : X * Y = Z) (h1 : -2147483648 ≤ Z) (h2 : Z ≤ 2147483647) (k : ∀ z : Int32, z.toInt = Z → W p l e R s m args below meth c H locs cells slots Q (F0 m pc ls (.int z :: rest))) : W p l e R s m args below meth c H locs cells slots Q (F0 m pc ls (.int (x * y) :: rest)) := k _ (ml_int hX hY hZ h1 h2)
theorem o_neg {x : Int32} {X : Int} (hX : x.toInt = X) (h1 : -2147483647 ≤ X) (k : ∀ z : Int32, z.toInt = -X → W p l e R s m args below meth c H locs cells slots Q (F0 m pc ls (.int z :: rest))) : W p l e R s m args below meth c H locs cells slots Q (F0 m pc ls (.int (-x) :: rest)) := k _ (ng_int hX h1)
theorem o_mask {x m0 : Int32} {X M : Int} (n : Nat) (hX : x.toInt = X) (hm : m0.toBitVec.toNat = 2 ^ n - 1) (hn : n ≤ 31) (hM : M = ((2 ^ n : Nat) : Int)) (k : ∀ z : Int32, z.toInt = X % M → W p l e R s m args below meth c H locs cells slots Q (F0 m pc ls (.int z :: rest))) : W p l e R s m args below meth c H locs cells slots Q (F0 m pc ls (.int (x &&& m0) :: rest)) := k _ (by rw [mask_eq n hm hn, hX, hM])
theorem o_andr {x y : Int32} {Y : Int} (hY : y.toInt = Y) (h : 0 ≤ Y) (k : ∀ z : Int32, 0 ≤ z.toInt ∧ z.toInt ≤ Y → W p l e R s m args below meth c H locs cells slots Q (F0 m pc ls (.int z :: rest))) : W p l e R s m args below meth c H locs cells slots Q (F0 m pc ls (.int (x &&& y) :: rest)) := k _ (by subst hY; exact and_nn h)
theorem o_andl {x y : Int32} {X : Int} (hX : x.toInt = X) (h : 0 ≤ X) (k : ∀ z : Int32, 0 ≤ z.toInt ∧ z.toInt ≤ X → W p l e R s m args below meth c H locs cells slots Q (F0 m pc ls (.int z :: rest))) : W p l e R s m args below meth c H locs cells slots Q (F0 m pc ls (.int (x &&& y) :: rest)) := k _ (by subst hX; exact and_nn' h)
theorem o_or {x y : Int32} {X Y M : Int} (n : Nat) (hX : x.toInt = X) (hY : y.toInt = Y) (hn : 2 ^ n ≤ 2 ^ 31) (hM : M = ((2 ^ n : Nat) : Int)) (h1 : 0 ≤ X) (h2 : X < M) (h3 : 0 ≤ Y) (h4 : Y < M) (k : ∀ z : Int32, 0 ≤ z.toInt ∧ z.toInt < M → W p l e R s m args below meth c H locs cells slots Q (F0 m pc ls (.int z :: rest))) : W p l e R s m args below meth c H locs cells slots Q (F0 m pc ls (.int (x ||| y) :: rest)) := k _ (by subst hX; subst hY; subst hM; exact or_lt n hn h1 h2 h3 h4)
theorem o_xor {x y : Int32} {X Y M : Int} (n : Nat) (hX : x.toInt = X) (hY : y.toInt = Y) (hn : 2 ^ n ≤ 2 ^ 31) (hM : M = ((2 ^ n : Nat) : Int)) (h1 : 0 ≤ X) (h2 : X < M) (h3 : 0 ≤ Y) (h4 : Y < M) (k : ∀ z : Int32, 0 ≤ z.toInt ∧ z.toInt < M → W p l e R s m args below meth c H locs cells slots Q (F0 m pc ls (.int z :: rest))) : W p l e R s m args below meth c H locs cells slots Q (F0 m pc ls (.int (x ^^^ y) :: rest)) := k _ (by subst hX; subst hY; subst hM; exact xor_lt n hn h1 h2 h3 h4)
theorem o_shrc {x y : Int32} {X M : Int} (n : Nat) (hX : x.toInt = X) (hy : ((y &&& 31).toBitVec.smod 32).toNat = n) (hM : M = ((2 ^ n : Nat) : Int)) (k : ∀ z : Int32, z.toInt = X / M → W p l e R s m args below meth c H locs cells slots Q (F0 m pc ls (.int z :: rest))) : W p l e R s m args below meth c H locs cells slots Q (F0 m pc ls (.int (x >>> (y &&& 31)) :: rest)) := k _ (by rw [shr_eq n hy, hX, hM])
theorem o_shr {x y : Int32} {X : Int} (hX : x.toInt = X) (h : 0 ≤ X) (k : ∀ z : Int32, 0 ≤ z.toInt ∧ z.toInt ≤ X → W p l e R s m args below meth c H locs cells slots Q (F0 m pc ls (.int z :: rest))) : W p l e R s m args below meth c H locs cells slots Q (F0 m pc ls (.int (x >>> (y &&& 31)) :: rest)) := k _ (by subst hX; exact shr_nn h)
theorem o_shlc {x y : Int32} {X Z : Int} (n : Nat) (hX : x.toInt = X) (hy : y.toInt = (n : Int)) (hn : n < 32) (hZ : X * ((2 ^ n : Nat) : Int) = Z) (h0 : 0 ≤ X) (h1 : Z ≤ 2147483647) (k : ∀ z : Int32, z.toInt = Z → W p l e R s m args below meth c H locs cells slots Q (F0 m pc ls (.int z :: rest))) : W p l e R s m args below meth c H locs cells slots Q (F0 m pc ls (.int (x <<< (y &&& 31)) :: rest)) := k _ (by subst hX; rw [shl_eq h0 hy hn (by omega)]; exact hZ)
theorem o_shl {x y : Int32} {X Y M : Int} (a b : Nat) (hX : x.toInt = X) (hY : y.toInt = Y) (h0 : 0 ≤ X) (ha : X ≤ (a : Int)) (h1 : 0 ≤ Y) (hb : Y ≤ (b : Int)) (hb2 : b < 32) (h : a * 2 ^ b < 2147483648) (hM : M = ((a * 2 ^ b : Nat) : Int)) (k : ∀ z : Int32, X ≤ z.toInt ∧ z.toInt ≤ M → W p l e R s m args below meth c H locs cells slots Q (F0 m pc ls (.int z :: rest))) : W p l e R s m args below meth c H locs cells slots Q (F0 m pc ls (.int (x <<< (y &&& 31)) :: rest)) := k _ (by subst hX; subst hY; subst hM; exact shl_le h0 ha h1 hb hb2 h)
theorem o_div {x d : Int32} {X : Int} (D : Nat) (hX : x.toInt = X) (hd : d = nI D) (h0 : 0 < D) (h1 : D < 2 ^ 31) (h : 0 ≤ X) (k : ∀ z : Int32, z.toInt = X / (D : Int) → W p l e R s m args below meth c H locs cells slots Q (F0 m pc ls (.int z :: rest))) : W p l e R s m args below meth c H locs cells slots Q (F0 m pc ls (.int (x / d) :: rest)) := k _ (by subst hX; exact div_nn h hd h0 h1)
theorem o_rem {x d : Int32} {X : Int} (D : Nat) (hX : x.toInt = X) (hd : d = nI D) (h0 : 0 < D) (h1 : D < 2 ^ 31) (h : 0 ≤ X) (k : ∀ z : Int32, z.toInt = X % (D : Int) → W p l e R s m args below meth c H locs cells slots Q (F0 m pc ls (.int z :: rest))) : W p l e R s m args below meth c H locs cells slots Q (F0 m pc ls (.int (x - x / d * d) :: rest)) := k _ (by subst hX; exact rem_nn h hd h0 h1)
theorem o_any {x : Int32} (k : ∀ z : Int32, z = x → W p l e R s m args below meth c H locs cells slots Q (F0 m pc ls (.int z :: rest))) : W p l e R s m args below meth c H locs cells slots Q (F0 m pc ls (.int x :: rest)) := k _ rfl
theorem o_lcmp {x y : Int64} (k : ∀ z : Int32, -1 ≤ z.toInt ∧ z.toInt ≤ 1 → W p l e R s m args below meth c H locs cells slots Q (F0 m pc ls (.int z :: rest))) : W p l e R s m args below meth c H locs cells slots Q (F0 m pc ls (.int (lg_cmp x y) :: rest)) := k _ (lc_rg x y)
end VC
-- contracts with an answer of which the world behind says what it is
def QIx (B : (Nat → Prop) → Int32 → State → Prop) (A : Nat → Prop) : Array Value → State → Outcome → State → Prop := va_Qi (fun r (u : Int32) => r = u) (fun u t => B A u t) A
def QLx (B : (Nat → Prop) → Int64 → State → Prop) (A : Nat → Prop) : Array Value → State → Outcome → State → Prop := va_Ql (fun r (u : Int64) => r = u) (fun u t => B A u t) A
/-- a body's start, any end that the method's own end gives -/
def St2 (l : Launch) (y : MethodName) (cc : ByteArray) (maxL : Nat) (ret : Option FieldType) (rm : Room) (D : va_G) (c : Nat → ClassId) (ws : va_W) (av : List Value) (Qc : (Nat → Prop) → Array Value → State → Outcome → State → Prop) (mc ms : Nat) : Prop :=
  ∀ (p : Program) (e : Env) (s : State) (m : MethodId) (below : List Frame) (meth : Method) (cd : Code) (A : Nat → Prop) (ls : Array Slot) (Q : State → Prop),
    p.tables.exec = Jvm.exec → cd.code = cc → meth.sig.returnType = ret → cd.maxLocals = maxL → (∀ w ∈ TB, w.before av.toArray s = true) → s.vm.findClass y.cls = some m.cls → meth.locks = false → meth.name = y.name →
    (∀ q : Nat, s.heap.size ≤ q → A q) → va_S A s.heap s.heap [] → va_K D vwCl (kT c) s → va_P D vwCl ws s.heap → va_D A ws → NN s → lv_has ls maxL (lv_args 0 av) → (∀ t, MQ below (Qc A) av.toArray s mc ms A t → Q t) →
    W p l e rm s m av.toArray below meth cd s.heap [] 0 0 Q (F0 m 0 ls [])
theorem start2 {l : Launch} {y : MethodName} {cc : ByteArray} {maxL : Nat} {ret : Option FieldType} {rm : Room} {D : va_G} {c : Nat → ClassId} {ws : va_W} {sz : Nat} {av : List Value} {Qc : (Nat → Prop) → Array Value → State → Outcome → State → Prop} {mc ms : Nat} (hy : plainName y.cls = true) (hlen : (lg_sl av).length ≤ maxL) (body : St2 l y cc maxL ret rm D c ws av Qc mc ms) : Met l y (Cond.code y cc maxL ret :: TB) rm (va_Pc av (PW D c ws sz)) (Qc (va_A ws sz)) mc ms (va_A ws sz) :=
  start hy hlen (fun p e s m below meth cd A ls h1 h2 h3 h4 h5 h6 h7 h8 h9 h10 h11 h12 h13 h14 h15 => body p e s m below meth cd A ls _ h1 h2 h3 h4 h5 h6 h7 h8 h9 h10 h11 h12 h13 h14 h15 (fun _ h => h))
section VR
variable {p : Program} {l : Launch} {e : Env} {R : Room} {s : State} {m : MethodId} {args : Array Value} {below : List Frame} {meth : Method} {cd : Code} {H : Heap} {locs : List Loc} {cells slots : Nat} {Q : State → Prop}
variable {cc : ByteArray} {pc : Nat} {ls : Array Slot} {rest : List Value} {A : Nat → Prop} {mc ms : Nat}
theorem rI {k : Int32} {ty : FieldType} {B : (Nat → Prop) → Int32 → State → Prop} (hQ : ∀ t, MQ below (QIx B A) args s mc ms A t → Q t) (hx : p.tables.exec = Jvm.exec) (hb : cd.code = cc) (hr : meth.sig.returnType = some ty) (hlocks : meth.locks = false) (hn : narrow ty (.int k) = .int k) (hS : va_S A s.heap H locs) (h1 : cells ≤ mc) (h2 : slots ≤ ms) (hdg : decode cc pc = .ok (.ireturn, 1)) (hB : ∀ t : State, t.heap = H → B A k t) : W p l e R s m args below meth cd H locs cells slots Q (F0 m pc ls [.int k]) := by
  refine W.mono hQ ?_
  refine W.widen (k := mc) (n := ms) h1 h2 ?_
  exact W.zret (v := k) hx hb hr hn (fun t ht hW => ⟨⟨k, k, rfl, rfl, hB t ht⟩, hS.F ht⟩) hS.2.2 hdg
theorem rL {k : Int64} {B : (Nat → Prop) → Int64 → State → Prop} (hQ : ∀ t, MQ below (QLx B A) args s mc ms A t → Q t) (hx : p.tables.exec = Jvm.exec) (hb : cd.code = cc) (hr : meth.sig.returnType = some .long) (hlocks : meth.locks = false) (hS : va_S A s.heap H locs) (h1 : cells ≤ mc) (h2 : slots ≤ ms) (hdg : decode cc pc = .ok (.lreturn, 1)) (hB : ∀ t : State, t.heap = H → B A k t) : W p l e R s m args below meth cd H locs cells slots Q (F0 m pc ls [.long k]) := by
  refine W.mono hQ ?_
  refine W.widen (k := mc) (n := ms) h1 h2 ?_
  exact W.lret (v := k) hx hb hr (fun t ht hW => ⟨⟨k, k, rfl, rfl, hB t ht⟩, hS.F ht⟩) hS.2.2 hdg
theorem rV {B : (Nat → Prop) → State → Prop} (hQ : ∀ t, MQ below (QV B A) args s mc ms A t → Q t) (hx : p.tables.exec = Jvm.exec) (hb : cd.code = cc) (hr : meth.sig.returnType = none) (hlocks : meth.locks = false) (hS : va_S A s.heap H locs) (h1 : cells ≤ mc) (h2 : slots ≤ ms) (hdg : decode cc pc = .ok (.return_, 1)) (hB : ∀ t : State, t.heap = H → B A t) : W p l e R s m args below meth cd H locs cells slots Q (F0 m pc ls []) := by
  refine W.mono hQ ?_
  exact retV hx hb hr hlocks hS h1 h2 hdg hB
theorem nar_bool {k : Int32} (h : 0 ≤ k.toInt ∧ k.toInt ≤ 1) : narrow .boolean (.int k) = .int k := by
  rcases (show k.toInt = 0 ∨ k.toInt = 1 by omega) with q | q
  · have : k = 0 := by rw [← Int32.toInt_inj, q]; rfl
    subst this; rfl
  · have : k = 1 := by rw [← Int32.toInt_inj, q]; rfl
    subst this; rfl
end VR
section VF
variable {p : Program} {l : Launch} {e : Env} {R : Room} {s : State} {m : MethodId} {args : Array Value} {below : List Frame} {meth : Method} {cd : Code} {H : Heap} {locs : List Loc} {cells slots : Nat} {Q : State → Prop}
variable {pc : Nat} {ls : Array Slot} {rest st0 : List Value} {A : Nat → Prop} {mc ms : Nat} {D : va_G} {wc ws : va_W} {H0 : Heap} {a : Array Value}
theorem fI {B : (Nat → Prop) → Int32 → State → Prop} (hr : va_Run p l e R s m args below meth cd H locs cells slots mc ms (F0 m pc ls st0) rest (QIx B (va_A wc H.size) a) (va_A wc H.size)) (hP : va_P D vwCl ws H) (hD : va_D A ws) (hS : va_S A H0 H locs) (hA : ∀ q, H0.size ≤ q → A q) (isC : List Nat) (hC : isC.map (fun i => ws[i]?) = wc.map some)
    (kk : ∀ (r : Int32) (H1 : Heap) (locs1 : List Loc) (t : State), B (va_A wc H.size) r t → Jn D A ws wc isC H.size t H1 → va_S A H0 H1 locs1 → W p l e R s m args below meth cd H1 locs1 (cells + mc) (slots + ms) Q (F0 m (pc + 3) ls (.int r :: rest))) : W p l e R s m args below meth cd H locs cells slots Q (F0 m pc ls st0) := by
  have hF := va_free (wc := wc) hD hS hA isC hC
  refine va_calli hr hS (fun q _ h => hF q h) hF (fun r u t H1 locs1 ht hvm hw hB hz hk hS1 => ?_)
  have hw : r = u := hw
  subst hw
  exact kk r H1 locs1 t hB (Jn_of hP hD isC hC hk hF ht) hS1
theorem fL {B : (Nat → Prop) → Int64 → State → Prop} (hr : va_Run p l e R s m args below meth cd H locs cells slots mc ms (F0 m pc ls st0) rest (QLx B (va_A wc H.size) a) (va_A wc H.size)) (hP : va_P D vwCl ws H) (hD : va_D A ws) (hS : va_S A H0 H locs) (hA : ∀ q, H0.size ≤ q → A q) (isC : List Nat) (hC : isC.map (fun i => ws[i]?) = wc.map some)
    (kk : ∀ (r : Int64) (H1 : Heap) (locs1 : List Loc) (t : State), B (va_A wc H.size) r t → Jn D A ws wc isC H.size t H1 → va_S A H0 H1 locs1 → W p l e R s m args below meth cd H1 locs1 (cells + mc) (slots + ms) Q (F0 m (pc + 3) ls (.long r :: rest))) : W p l e R s m args below meth cd H locs cells slots Q (F0 m pc ls st0) := by
  have hF := va_free (wc := wc) hD hS hA isC hC
  refine va_calll hr hS (fun q _ h => hF q h) hF (fun r u t H1 locs1 ht hvm hw hB hz hk hS1 => ?_)
  have hw : r = u := hw
  subst hw
  exact kk r H1 locs1 t hB (Jn_of hP hD isC hC hk hF ht) hS1
end VF
