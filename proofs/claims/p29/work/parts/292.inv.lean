
-- two to the power of a number of ways
def P2 (n : Int32) : Int := ((2 ^ n.toInt.toNat : Nat) : Int)
theorem P2_pos (n : Int32) : 0 < P2 n := by
  unfold P2
  have := Nat.two_pow_pos n.toInt.toNat
  omega
theorem P2_mono {a b : Int32} (h : a.toInt ≤ b.toInt) : P2 a ≤ P2 b := by
  unfold P2
  have := Nat.pow_le_pow_right (n := 2) (by omega) (show a.toInt.toNat ≤ b.toInt.toNat by omega)
  omega
theorem P2_14 {a : Int32} (h : a.toInt ≤ 14) : P2 a ≤ 16384 := by
  unfold P2
  have := Nat.pow_le_pow_right (n := 2) (by omega) (show a.toInt.toNat ≤ 14 by omega)
  omega
/-- DIRECTIONS lie among as many bits as there are WAYS -/
def DrOK (n d : Int32) : Prop := 0 ≤ d.toInt ∧ d.toInt < P2 n
/-- and so do the rows of bits of the PLACES -/
def OuOK (n : Int32) (f : Nat → Int32) : Prop := ∀ j : Nat, j < 8 → 0 ≤ (f j).toInt ∧ (f j).toInt < P2 n
/-- a GOER's WAY is one of the WAYS -/
def OnOK (n k : Int32) (on : Nat → Int32) : Prop := ∀ g : Nat, (g : Int) < k.toInt → (on g).toInt < n.toInt
/-- who stands, stands at a PLACE -/
def PlOK (k : Int32) (pl on : Nat → Int32) : Prop := ∀ g : Nat, (g : Int) < k.toInt → (on g).toInt = -1 → (pl g).toInt ≤ 7
/-- who is on a WAY, goes to a PLACE -/
def HdOK (k : Int32) (on hd : Nat → Int32) : Prop := ∀ g : Nat, (g : Int) < k.toInt → (on g).toInt ≠ -1 → 0 ≤ (hd g).toInt
theorem OnOK.mono {n m k : Int32} {on : Nat → Int32} (h : OnOK n k on) (hn : n.toInt ≤ m.toInt) : OnOK m k on := fun g hg => by
  have := h g hg
  omega
theorem OnOK.less {n k j : Int32} {on : Nat → Int32} (h : OnOK n k on) (hn : j.toInt ≤ k.toInt) : OnOK n j on := fun g hg => h g (by omega)
theorem OnOK.none {n k : Int32} {on : Nat → Int32} (h : k.toInt ≤ 0) : OnOK n k on := fun g hg => by omega
theorem PlOK.none {k : Int32} {pl on : Nat → Int32} (h : k.toInt ≤ 0) : PlOK k pl on := fun g hg => by omega
theorem HdOK.none {k : Int32} {on hd : Nat → Int32} (h : k.toInt ≤ 0) : HdOK k on hd := fun g hg => by omega
theorem OnOK.put {n k w i : Int32} {on : Nat → Int32} (h : OnOK n k on) (hw : w.toInt < n.toInt) : OnOK n k (upd on i.toNatClampNeg w) := by
  intro g hg
  by_cases hj : g = i.toNatClampNeg
  · subst hj; rw [pk_us]; exact hw
  · rw [pk_un hj]; exact h g hg
theorem cpy_at {f g : Nat → Int32} {k : Int32} {j : Nat} (hj : (j : Int) < k.toInt) : va_cpy f g (Int32.toNatClampNeg 0) (Int32.toNatClampNeg 0) k.toNatClampNeg j = f j := by
  have q := cl_int (x := k) (by omega)
  have q2 : (0 : Int32).toNatClampNeg = 0 := by decide
  rw [q2, pk_cpy_in (by omega) (by omega)]
  congr 1
  omega
theorem OnOK.cpy {n k : Int32} {on on' : Nat → Int32} (h : OnOK n k on) : OnOK n k (va_cpy on on' (Int32.toNatClampNeg 0) (Int32.toNatClampNeg 0) k.toNatClampNeg) := fun g hg => by
  rw [cpy_at hg]; exact h g hg
theorem PlOK.cpy {k : Int32} {pl on pl' on' : Nat → Int32} (h : PlOK k pl on) : PlOK k (va_cpy pl pl' (Int32.toNatClampNeg 0) (Int32.toNatClampNeg 0) k.toNatClampNeg) (va_cpy on on' (Int32.toNatClampNeg 0) (Int32.toNatClampNeg 0) k.toNatClampNeg) := fun g hg => by
  rw [cpy_at hg, cpy_at hg]; exact h g hg
theorem HdOK.cpy {k : Int32} {on hd on' hd' : Nat → Int32} (h : HdOK k on hd) : HdOK k (va_cpy on on' (Int32.toNatClampNeg 0) (Int32.toNatClampNeg 0) k.toNatClampNeg) (va_cpy hd hd' (Int32.toNatClampNeg 0) (Int32.toNatClampNeg 0) k.toNatClampNeg) := fun g hg => by
  rw [cpy_at hg, cpy_at hg]; exact h g hg
/-- a GOER stands at a PLACE now -/
theorem PlOK.stand {k i x w : Int32} {pl on : Nat → Int32} (h : PlOK k pl on) (hx : x.toInt ≤ 7) : PlOK k (upd pl i.toNatClampNeg x) (upd on i.toNatClampNeg w) := by
  intro g hg h1
  by_cases hj : g = i.toNatClampNeg
  · subst hj; rw [pk_us]; exact hx
  · rw [pk_un hj] at h1 ⊢; exact h g hg h1
theorem PlOK.enter {k i x w : Int32} {pl on : Nat → Int32} (h : PlOK k pl on) (hw : w.toInt ≠ -1) : PlOK k (upd pl i.toNatClampNeg x) (upd on i.toNatClampNeg w) := by
  intro g hg h1
  by_cases hj : g = i.toNatClampNeg
  · subst hj; rw [pk_us] at h1; exact absurd h1 hw
  · rw [pk_un hj] at h1 ⊢; exact h g hg h1
theorem HdOK.stand {k i x w : Int32} {on hd : Nat → Int32} (h : HdOK k on hd) (hw : w.toInt = -1) : HdOK k (upd on i.toNatClampNeg w) (upd hd i.toNatClampNeg x) := by
  intro g hg h1
  by_cases hj : g = i.toNatClampNeg
  · subst hj; rw [pk_us] at h1; exact absurd hw h1
  · rw [pk_un hj] at h1 ⊢; exact h g hg h1
theorem HdOK.enter {k i x w : Int32} {on hd : Nat → Int32} (h : HdOK k on hd) (hx : 0 ≤ x.toInt) : HdOK k (upd on i.toNatClampNeg w) (upd hd i.toNatClampNeg x) := by
  intro g hg h1
  by_cases hj : g = i.toNatClampNeg
  · subst hj; rw [pk_us]; exact hx
  · rw [pk_un hj] at h1 ⊢; exact h g hg h1
/-- one GOER more -/
theorem OnOK.add {n k k' w : Int32} {on : Nat → Int32} (h : OnOK n k on) (h0 : 0 ≤ k.toInt) (hk : k'.toInt = k.toInt + 1) (hw : w.toInt < n.toInt) : OnOK n k' (upd on k.toNatClampNeg w) := by
  intro g hg
  by_cases hj : g = k.toNatClampNeg
  · subst hj; rw [pk_us]; exact hw
  · rw [pk_un hj]
    have := cl_int h0
    exact h g (by omega)
theorem PlOK.add {k k' x w : Int32} {pl on : Nat → Int32} (h : PlOK k pl on) (h0 : 0 ≤ k.toInt) (hk : k'.toInt = k.toInt + 1) (hx : x.toInt ≤ 7) : PlOK k' (upd pl k.toNatClampNeg x) (upd on k.toNatClampNeg w) := by
  intro g hg h1
  by_cases hj : g = k.toNatClampNeg
  · subst hj; rw [pk_us]; exact hx
  · rw [pk_un hj] at h1 ⊢
    have := cl_int h0
    exact h g (by omega) h1
theorem HdOK.add {k k' x w : Int32} {on hd : Nat → Int32} (h : HdOK k on hd) (h0 : 0 ≤ k.toInt) (hk : k'.toInt = k.toInt + 1) (hw : w.toInt = -1) : HdOK k' (upd on k.toNatClampNeg w) (upd hd k.toNatClampNeg x) := by
  intro g hg h1
  by_cases hj : g = k.toNatClampNeg
  · subst hj; rw [pk_us] at h1; exact absurd hw h1
  · rw [pk_un hj] at h1 ⊢
    have := cl_int h0
    exact h g (by omega) h1
theorem bit_lt {n w : Int32} (h0 : 0 ≤ w.toInt) (h1 : w.toInt < n.toInt) (h2 : n.toInt ≤ 30) : 0 ≤ ((1 : Int32) <<< (w &&& 31)).toInt ∧ ((1 : Int32) <<< (w &&& 31)).toInt < P2 n := by
  have e1 : (1 : Int32).toInt = 1 := by decide
  have hp : 2 ^ w.toInt.toNat < 2 ^ n.toInt.toNat := Nat.pow_lt_pow_right (by omega) (by omega)
  have hq : 2 ^ n.toInt.toNat ≤ 2 ^ 30 := Nat.pow_le_pow_right (by omega) (by omega)
  have h3 := shl_eq (x := 1) (y := w) (Y := w.toInt.toNat) (by decide) (by omega) (by omega) (by rw [e1]; omega)
  rw [e1] at h3
  have hpos := Nat.two_pow_pos w.toInt.toNat
  unfold P2
  omega
theorem DrOK.mono {n m d : Int32} (h : DrOK n d) (hn : n.toInt ≤ m.toInt) : DrOK m d := ⟨h.1, Int.lt_of_lt_of_le h.2 (P2_mono hn)⟩
theorem DrOK.zero (n : Int32) : DrOK n 0 := by
  have h := P2_pos n
  have e : (0 : Int32).toInt = 0 := by decide
  unfold DrOK
  omega
theorem p2_le {n : Int32} (h2 : n.toInt ≤ 30) : 2 ^ n.toInt.toNat ≤ 2 ^ 31 := Nat.pow_le_pow_right (by omega) (by omega)
theorem DrOK.flip {n d w : Int32} (h : DrOK n d) (h0 : 0 ≤ w.toInt) (h1 : w.toInt < n.toInt) (h2 : n.toInt ≤ 30) : DrOK n (d ^^^ ((1 : Int32) <<< (w &&& 31))) := by
  have hb := bit_lt h0 h1 h2
  exact xor_lt _ (p2_le h2) h.1 h.2 hb.1 hb.2
theorem OuOK.zero {n : Int32} {f : Nat → Int32} (h : ∀ j : Nat, j < 8 → f j = 0) : OuOK n f := fun j hj => by
  rw [h j hj]; exact DrOK.zero n
theorem OuOK.or {n m w : Int32} {f : Nat → Int32} {i : Nat} {x : Int32} (h : OuOK n f) (hn : n.toInt < m.toInt) (hw : w = n) (h0 : 0 ≤ n.toInt) (h2 : m.toInt ≤ 30) (hx : x = f i ||| ((1 : Int32) <<< (w &&& 31))) : OuOK m (upd f i x) := by
  subst hw
  have hb := bit_lt (n := m) h0 hn h2
  intro j h8
  by_cases hj : j = i
  · subst hj; rw [pk_us, hx]
    have := h j h8
    exact or_lt _ (p2_le h2) this.1 (Int.lt_of_lt_of_le this.2 (P2_mono (by omega))) hb.1 hb.2
  · rw [pk_un hj]
    exact ⟨(h j h8).1, Int.lt_of_lt_of_le (h j h8).2 (P2_mono (by omega))⟩
theorem OuOK.mono {n m : Int32} {f : Nat → Int32} (h : OuOK n f) (hn : n.toInt ≤ m.toInt) : OuOK m f := fun j h8 => ⟨(h j h8).1, Int.lt_of_lt_of_le (h j h8).2 (P2_mono hn)⟩
theorem OuOK.cpy {n : Int32} {f g : Nat → Int32} (h : OuOK n f) : OuOK n (va_cpy f g (Int32.toNatClampNeg 0) (Int32.toNatClampNeg 0) (Int32.toNatClampNeg 8)) := fun j h8 => by
  rw [cpy_at (by have e : (8 : Int32).toInt = 8 := by decide
                 omega)]
  exact h j h8
theorem zero_put {f : Nat → Int32} {i z : Int32} (h : ∀ j : Nat, (j : Int) < i.toInt → f j = 0) (h0 : 0 ≤ i.toInt) (hz : z.toInt = i.toInt + 1) : ∀ j : Nat, (j : Int) < z.toInt → upd f i.toNatClampNeg 0 j = 0 := by
  intro j hj
  by_cases e : j = i.toNatClampNeg
  · subst e; rw [pk_us]
  · rw [pk_un e]
    have := cl_int h0
    exact h j (by omega)
theorem zero_none {f : Nat → Int32} : ∀ j : Nat, (j : Int) < (0 : Int32).toInt → f j = 0 := fun j hj => by
  have q : (0 : Int32).toInt = 0 := by decide
  omega
theorem in_c {i : Int32} {n : Nat} (X : Int) (h : i.toInt = X) (h0 : 0 ≤ X) (h1 : X < (n : Int)) : vp_in i n := in_of (by omega) (by omega)
/-- what a RULE's code holds: numbers, words (-1 to -12), signs (-21 and below) -/
def CodeOK (f : Nat → Int32) : Prop := ∀ j, -12 ≤ (f j).toInt ∨ (f j).toInt ≤ -21
theorem CodeOK.put {f : Nat → Int32} (h : CodeOK f) {k : Nat} {x : Int32} (hx : -12 ≤ x.toInt ∨ x.toInt ≤ -21) : CodeOK (upd f k x) := by
  intro j
  by_cases hj : j = k
  · subst hj; rw [pk_us]; exact hx
  · rw [pk_un hj]; exact h j
theorem CodeOK.cpy {f g : Nat → Int32} (hf : CodeOK f) (hg : CodeOK g) {sp dp n : Nat} : CodeOK (va_cpy f g sp dp n) := by
  intro j
  by_cases hj : dp ≤ j ∧ j < dp + n
  · rw [pk_cpy_in hj.1 hj.2]; exact hf _
  · rw [pk_cpy_out (by omega)]; exact hg j
section RC
variable {p : Program} {l : Launch} {e : Env} {R : Room} {s : State} {m : MethodId} {args : Array Value} {below : List Frame} {meth : Method} {c : Code} {H : Heap} {locs : List Loc} {cells slots : Nat} {Q : State → Prop}
variable {pc : Nat} {ls : Array Slot} {rest : List Value}
theorem rd_CodeOK {f : Nat → Int32} {i : Nat} (h : CodeOK f) (k : ∀ z : Int32, z = f i → -12 ≤ z.toInt ∨ z.toInt ≤ -21 → W p l e R s m args below meth c H locs cells slots Q (F0 m pc ls (.int z :: rest))) : W p l e R s m args below meth c H locs cells slots Q (F0 m pc ls (.int (f i) :: rest)) := k _ rfl (h i)
end RC
theorem PlOK.at {k i : Int32} {pl on : Nat → Int32} (h : PlOK k pl on) (h0 : 0 ≤ i.toInt) (h1 : i.toInt < k.toInt) (h2 : (on i.toNatClampNeg).toInt = -1) : (pl i.toNatClampNeg).toInt ≤ 7 := h _ (by rw [cl_int h0]; exact h1) h2
theorem HdOK.at {k i : Int32} {on hd : Nat → Int32} (h : HdOK k on hd) (h0 : 0 ≤ i.toInt) (h1 : i.toInt < k.toInt) (h2 : (on i.toNatClampNeg).toInt ≠ -1) : 0 ≤ (hd i.toNatClampNeg).toInt := h _ (by rw [cl_int h0]; exact h1) h2
theorem OnOK.at {n k i : Int32} {on : Nat → Int32} (h : OnOK n k on) (h0 : 0 ≤ i.toInt) (h1 : i.toInt < k.toInt) : (on i.toNatClampNeg).toInt < n.toInt := h _ (by rw [cl_int h0]; exact h1)
theorem CodeOK.zero : CodeOK (fun _ => 0) := fun _ => Or.inl (show -12 ≤ (0 : Int32).toInt by decide)
def QQx (B : (Nat → Prop) → Option Nat → State → Prop) (A : Nat → Prop) : Array Value → State → Outcome → State → Prop := va_Qq (fun r (u : Option Nat) => r = u) (fun u t => B A u t) A
section RQ
variable {p : Program} {l : Launch} {e : Env} {R : Room} {s : State} {m : MethodId} {args : Array Value} {below : List Frame} {meth : Method} {cd : Code} {H : Heap} {locs : List Loc} {cells slots : Nat} {Q : State → Prop}
variable {cc : ByteArray} {pc : Nat} {ls : Array Slot} {rest st0 : List Value} {A : Nat → Prop} {mc ms : Nat} {D : va_G} {wc ws : va_W} {H0 : Heap} {a : Array Value}
theorem rQ {k : Option Nat} {ty : FieldType} {B : (Nat → Prop) → Option Nat → State → Prop} (hQ : ∀ t, MQ below (QQx B A) args s mc ms A t → Q t) (hx : p.tables.exec = Jvm.exec) (hb : cd.code = cc) (hr : meth.sig.returnType = some ty) (hrt : (∃ n, ty = .object n) ∨ ∃ t, ty = .array t) (hlocks : meth.locks = false) (hS : va_S A s.heap H locs) (h1 : cells ≤ mc) (h2 : slots ≤ ms) (hdg : decode cc pc = .ok (.areturn, 1)) (hB : ∀ t : State, t.heap = H → B A k t) : W p l e R s m args below meth cd H locs cells slots Q (F0 m pc ls [va_rf k]) := by
  refine W.mono hQ ?_
  refine W.widen (k := mc) (n := ms) h1 h2 ?_
  exact W.aret (v := va_rf k) hx hb hr hrt (by cases k with | none => exact Or.inl rfl | some q => exact Or.inr ⟨q, rfl⟩) (fun t ht hW => ⟨⟨k, k, rfl, rfl, hB t ht⟩, hS.F ht⟩) hS.2.2 hdg
theorem fQ {B : (Nat → Prop) → Option Nat → State → Prop} (hr : va_Run p l e R s m args below meth cd H locs cells slots mc ms (F0 m pc ls st0) rest (QQx B (va_A wc H.size) a) (va_A wc H.size)) (hP : va_P D vwCl ws H) (hD : va_D A ws) (hS : va_S A H0 H locs) (hA : ∀ q, H0.size ≤ q → A q) (isC : List Nat) (hC : isC.map (fun i => ws[i]?) = wc.map some)
    (kk : ∀ (r : Option Nat) (H1 : Heap) (locs1 : List Loc) (t : State), B (va_A wc H.size) r t → Jn D A ws wc isC H.size t H1 → va_S A H0 H1 locs1 → W p l e R s m args below meth cd H1 locs1 (cells + mc) (slots + ms) Q (F0 m (pc + 3) ls (va_rf r :: rest))) : W p l e R s m args below meth cd H locs cells slots Q (F0 m pc ls st0) := by
  have hF := va_free (wc := wc) hD hS hA isC hC
  refine va_callq hr hS (fun q _ h => hF q h) hF (fun r u t H1 locs1 ht hvm hw hB hz hk hS1 => ?_)
  have hw : r = u := hw
  subst hw
  exact kk r H1 locs1 t hB (Jn_of hP hD isC hC hk hF ht) hS1
end RQ
