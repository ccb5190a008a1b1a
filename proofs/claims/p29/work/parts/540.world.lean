def pl (bk : Nat → va_W) : Nat → va_W
  | 0 => []
  | n + 1 => bk n ++ pl bk n
theorem pl_congr {bk bk' : Nat → va_W} : ∀ {n : Nat}, (∀ i, i < n → bk i = bk' i) → pl bk n = pl bk' n
  | 0, _ => rfl
  | n + 1, h => by
    show bk n ++ pl bk n = bk' n ++ pl bk' n
    rw [h n (Nat.lt_succ_self n), pl_congr (n := n) (fun i hi => h i (Nat.lt_succ_of_lt hi))]
theorem up_id {bk : Nat → va_W} {i : Nat} : va_up bk i (bk i) = bk := by
  funext j
  by_cases h : j = i
  · rw [h, va_up_self]
  · rw [va_up_ne _ _ h]
theorem pl_up {bk : Nat → va_W} {i : Nat} {w : va_W} : ∀ {n : Nat}, i < n → (w ++ pl (va_up bk i []) n).Perm (pl (va_up bk i w) n)
  | 0, h => absurd h (Nat.not_lt_zero _)
  | n + 1, h => by
    show (w ++ (va_up bk i [] n ++ pl (va_up bk i []) n)).Perm (va_up bk i w n ++ pl (va_up bk i w) n)
    by_cases e : n = i
    · subst e
      rw [va_up_self, va_up_self, pl_congr (n := n) (bk := va_up bk n []) (bk' := bk) (fun j hj => va_up_ne _ _ (by omega)), pl_congr (n := n) (bk := va_up bk n w) (bk' := bk) (fun j hj => va_up_ne _ _ (by omega))]
      exact List.Perm.refl _
    · rw [va_up_ne _ _ e, va_up_ne _ _ e]
      exact (List.perm_append_comm_assoc w (bk n) _).trans (List.Perm.append_left _ (pl_up (n := n) (by omega)))
theorem pl_split {bk : Nat → va_W} {k : Nat} : ∀ (d : Nat), ∃ r : va_W, pl bk (k + d) = r ++ pl bk k
  | 0 => ⟨[], rfl⟩
  | d + 1 => by
    obtain ⟨r, hr⟩ := pl_split (bk := bk) (k := k) d
    refine ⟨bk (k + d) ++ r, ?_⟩
    show bk (k + d) ++ pl bk (k + d) = _
    rw [hr, List.append_assoc]
theorem pw_in {wx wm w : va_W} {bk : Nat → va_W} {i : Nat} (hi : i < 10) : (wx ++ (w ++ (wm ++ pl (va_up bk i []) 10))).Perm (wx ++ (wm ++ pl (va_up bk i w) 10)) :=
  List.Perm.append_left wx ((List.perm_append_comm_assoc w wm _).trans (List.Perm.append_left wm (pl_up hi)))
theorem pw_out {wx wm : va_W} {bk : Nat → va_W} {i : Nat} (hi : i < 10) : (wx ++ (wm ++ pl bk 10)).Perm (wx ++ (bk i ++ (wm ++ pl (va_up bk i []) 10))) := by
  have h := (pw_in (wx := wx) (wm := wm) (w := bk i) (bk := bk) hi).symm
  rw [up_id] at h
  exact h
theorem pw_spl {wx wm r q w : va_W} (h : w = r ++ q) : (wx ++ (wm ++ w)).Perm (wx ++ (q ++ (wm ++ r))) := by
  rw [h, ← List.append_assoc wm r q]
  exact List.Perm.append_left wx List.perm_append_comm
theorem pw_mx {wx wm w : va_W} : (wx ++ (wm ++ w)).Perm (wm ++ (wx ++ w)) := List.perm_append_comm_assoc wx wm w
def PI1 (c : Nat → ClassId) (imf : Nat → Option Nat) (ig md : Nat → Int32) (bk : Nat → va_W) (j : Nat) : Prop := (imf j = none ∧ md j = 0 ∧ bk (6 + j) = []) ∨ ∃ a, imf j = some a ∧ md j = 1 ∧ IB c a (ig (202 * j + 7)) (bk (6 + j))
def PI (c : Nat → ClassId) (imf : Nat → Option Nat) (ig md : Nat → Int32) (bk : Nat → va_W) : Prop := ∀ j : Nat, j < 4 → PI1 c imf ig md bk j
def PR (c : Nat → ClassId) (rc : Int32) (rf : Nat → Option Nat) (bk : Nat → va_W) : Prop := ∀ i : Nat, i < 6 → ((i : Int) < rc.toInt → ∃ a, rf i = some a ∧ RB c a (bk i)) ∧ (rc.toInt ≤ (i : Int) → bk i = [])
def LQ (R : Int32 → (Nat → Option Nat) → (Nat → Int32) → (Nat → Int32) → (Nat → Int32) → (Nat → va_W) → Prop) (D : va_G) (A : Nat → Prop) (s : State) (c : Nat → ClassId) (h0 m0 nm nq : Nat) (H : Heap) (locs : List Loc) : Prop := ∃ (xv rc : Int32) (rf imf : Nat → Option Nat) (sf ig md : Nat → Int32) (wx wm : va_W) (bk : Nat → va_W), XI c h0 xv rc rf imf nm nq wx ∧ MI c m0 sf ig md wm ∧ PR c rc rf bk ∧ R xv imf sf ig md bk ∧ va_P D vwCl (wx ++ (wm ++ pl bk 10)) H ∧ va_D A (wx ++ (wm ++ pl bk 10)) ∧ va_S A s.heap H locs
def LR (c : Nat → ClassId) (xv : Int32) (imf : Nat → Option Nat) (sf ig md : Nat → Int32) (bk : Nat → va_W) : Prop := sf 7 = xv ∧ PI c imf ig md bk
def R2 (c : Nat → ClassId) (a1 : Int32) (xv : Int32) (imf : Nat → Option Nat) (sf ig md : Nat → Int32) (bk : Nat → va_W) : Prop := sf 7 = xv ∧ (((a1.toInt < 0 ∨ 3 < a1.toInt) ∧ PI c imf ig md bk) ∨ (0 ≤ a1.toInt ∧ a1.toInt ≤ 3 ∧ (∀ j : Nat, j < 4 → j ≠ Int32.toNatClampNeg a1 → PI1 c imf ig md bk j) ∧ ∃ g, imf (Int32.toNatClampNeg a1) = some g ∧ IB c g xv (bk (6 + Int32.toNatClampNeg a1))))
def R3 (c : Nat → ClassId) (a1 : Int32) (xv : Int32) (imf : Nat → Option Nat) (sf ig md : Nat → Int32) (bk : Nat → va_W) : Prop := PI c imf ig md bk ∧ (((a1.toInt < 0 ∨ 3 < a1.toInt ∨ (md (Int32.toNatClampNeg a1)).toInt = 0) ∧ sf 7 = xv) ∨ (0 ≤ a1.toInt ∧ a1.toInt ≤ 3 ∧ (md (Int32.toNatClampNeg a1)).toInt ≠ 0 ∧ xv = ig (202 * Int32.toNatClampNeg a1 + 7)))
def R4 (c : Nat → ClassId) (a1 r : Int32) (xv : Int32) (imf : Nat → Option Nat) (sf ig md : Nat → Int32) (bk : Nat → va_W) : Prop := PI c imf ig md bk ∧ ((a1.toInt < 0 ∧ sf 7 = xv ∧ r = -1) ∨ (0 ≤ a1.toInt ∧ xv = a1 ∧ r = sf 7))
def CX (p : Program) (s : State) (m : MethodId) (cd : Code) (b L : Nat) (xs : Nat → Int32) (A : Nat → Prop) (D : va_G) (c : Nat → ClassId) (kS vS : Nat) (fS : Nat → Int32) : Prop := p.tables.exec = Jvm.exec ∧ cd.code = cL_law ∧ cd.maxLocals = 4 ∧ s.vm.findClass RL = some m.cls ∧ (∀ w ∈ TB, w.before #[Value.ref b] s = true) ∧ NN s ∧ va_K D vwCl (kT c) s ∧ (∀ q : Nat, s.heap.size ≤ q → A q) ∧ SX kS vS fS A s s.heap ∧ va_X b L xs s s.heap ∧ b < s.heap.size ∧ ¬ A b
theorem XI_rc {c : Nat → ClassId} {h0 : Nat} {xv rc : Int32} {rf imf : Nat → Option Nat} {nm nq : Nat} {wx : va_W} (h : XI c h0 xv rc rf imf nm nq wx) : 0 ≤ rc.toInt ∧ rc.toInt ≤ 6 := by
  obtain ⟨ad, vi, fn, lf, uv, nn, -, hF⟩ := h
  exact hF 0
theorem XI_nm {c : Nat → ClassId} {h0 : Nat} {xv rc : Int32} {rf imf : Nat → Option Nat} {nm nq : Nat} {wx : va_W} (h : XI c h0 xv rc rf imf nm nq wx) : nm ≤ 65536 ∧ nq ≤ 1048576 := by
  obtain ⟨ad, vi, fn, lf, uv, nn, -, hF⟩ := h
  have h1 : Pm0 nm := hF 51
  have h2 : Pq0 nq := hF 52
  exact ⟨h1.le, h2.le.1⟩
theorem LQ.nm {R : Int32 → (Nat → Option Nat) → (Nat → Int32) → (Nat → Int32) → (Nat → Int32) → (Nat → va_W) → Prop} {D : va_G} {A : Nat → Prop} {s : State} {c : Nat → ClassId} {h0 m0 nm nq : Nat} {H : Heap} {locs : List Loc} (h : LQ R D A s c h0 m0 nm nq H locs) : nm ≤ 65536 ∧ nq ≤ 1048576 := by
  obtain ⟨xv, rc, rf, imf, sf, ig, md, wx, wm, bk, hI, -⟩ := h
  exact XI_nm hI
theorem LQ.vS {R : Int32 → (Nat → Option Nat) → (Nat → Int32) → (Nat → Int32) → (Nat → Int32) → (Nat → va_W) → Prop} {D : va_G} {A : Nat → Prop} {s : State} {c : Nat → ClassId} {h0 m0 nm nq : Nat} {H : Heap} {locs : List Loc} (h : LQ R D A s c h0 m0 nm nq H locs) : va_S A s.heap H locs := by
  obtain ⟨xv, rc, rf, imf, sf, ig, md, wx, wm, bk, hI, hM, hR, hQ, hP, hD, hS⟩ := h
  exact hS
theorem PI_bk {c : Nat → ClassId} {imf : Nat → Option Nat} {ig md : Nat → Int32} {bk bk' : Nat → va_W} (h : PI c imf ig md bk) (hb : ∀ j : Nat, j < 4 → bk' (6 + j) = bk (6 + j)) : PI c imf ig md bk' := fun j hj => by
  have := h j hj
  unfold PI1 at this ⊢
  rw [hb j hj]
  exact this
theorem sl_in {iv j : Int32} {T J L : Nat} (h : iv.toInt = (T : Int)) (hj : j.toInt = (J : Int)) (hl : T + J < L) (hL : L ≤ 384) : vp_in (iv + j) L := by
  have h1 := ad_int h hj (by omega) (by omega)
  intro q
  rcases q with q | q
  · rw [Int32.lt_iff_toInt_lt, h1] at q
    have hz : (0 : Int32).toInt = 0 := by decide
    omega
  · have := cl_int (x := iv + j) (by omega)
    omega
theorem sl_in0 {iv : Int32} {T L : Nat} (h : iv.toInt = (T : Int)) (hl : T < L) (hL : L ≤ 384) : vp_in iv L := by
  intro q
  rcases q with q | q
  · rw [Int32.lt_iff_toInt_lt, h] at q
    have hz : (0 : Int32).toInt = 0 := by decide
    omega
  · have := cl_int (x := iv) (by omega)
    omega
