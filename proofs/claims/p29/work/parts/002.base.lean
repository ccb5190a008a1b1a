-- the words of all methods: ONE list, whatever of lw_tbl may be carried over a call
def TB : List Cond := lw_tbl.filter goodWord
theorem TB_in : ∀ w ∈ TB, w ∈ lw_tbl := fun w h => (List.mem_filter.mp h).1
theorem TB_good : ∀ w ∈ TB, (w.onTables && w.keeps) = true ∨ ∃ ty, w = .arrayClass ty := fun w h => good_of_word (List.mem_filter.mp h).2
theorem TB_mem {w : Cond} (i : Nat) (h : lw_tbl[i]? = some w) (hg : goodWord w = true) : w ∈ TB := List.mem_filter.mpr ⟨List.mem_of_getElem? h, hg⟩
theorem TB_cons {y : MethodName} {bytes : ByteArray} {maxL : Nat} {ret : Option FieldType} (k : Cond.code y bytes maxL ret ∈ TB) : GoodIn TB (Cond.code y bytes maxL ret :: TB) := fun w h => (List.mem_cons.mp h).elim (fun e => by subst e; exact ⟨k, TB_good _ k⟩) (fun h => ⟨h, TB_good w h⟩)
-- the array classes of all worlds: one a type
def kT (c : Nat → ClassId) : List (ClassId × FieldType) := [(c 0, .int), (c 1, .long), (c 2, .byte), (c 3, .boolean), (c 4, .object "TurningRoads$Rule"), (c 5, .object "TurningRoads$State")]
/-- the calls of nest mates' private members, and the arrays of references: words that are carried by hand -/
def nestL : List (String × Nat × MethodName × String) := [(RX10, 9, yX9_init, RX10), (RX10, 33, yX8_init, RX10), (RX8, 11, yX4_init, RX10), (RX8, 20, yX1_init, RX10), (RX10, 47, yX3_init, RX10), (RX4, 64, yX10_lowestBit, RX10), (RX4, 40, yX10_isPlace, RX10), (RX7, 126, yX10_lowestBit, RX10)]
def NN (U : State) : Prop := (∀ q ∈ nestL, va_Nw (.methodLinkNest q.1 q.2.1 q.2.2.1 q.2.2.2) U) ∧ va_AO "TurningRoads$Rule" U ∧ va_AO "TurningRoads$State" U
theorem NN_warm {s U : State} (hW : s.WarmedH U.vm) (h : NN s) : NN U := ⟨fun q hq => va_Nw.warmM hW (h.1 q hq), va_AO.moved hW.alike h.2.1, va_AO.moved hW.alike h.2.2⟩
theorem NN_call {U : State} {g : JFrame} {mk : MethodId} {a : Array Value} (h : NN U) : NN (U.calling g mk a) := ⟨fun q hq => va_Nw.same (u := U) (U := U.calling g mk a) rfl rfl (h.1 q hq), va_AO.moved (u := U) (U := U.calling g mk a) (Vm.Alike.refl U.vm) h.2.1, va_AO.moved (u := U) (U := U.calling g mk a) (Vm.Alike.refl U.vm) h.2.2⟩
/-- a method's start: its world, the tables -/
def PW (D : va_G) (c : Nat → ClassId) (ws : va_W) (sz : Nat) : State → Prop := fun U => U.heap.size = sz ∧ va_P D vwCl ws U.heap ∧ va_K D vwCl (kT c) U ∧ va_D (fun _ => True) ws ∧ NN U
theorem PW_blind {av : List Value} {D : va_G} {c : Nat → ClassId} {ws : va_W} {sz : Nat} : FrameBlind (va_Pc av (PW D c ws sz)) := fun a U g mk q => by
  obtain ⟨q0, q1, qP, qK, qD, qN⟩ := q
  exact ⟨q0, q1, qP, va_K.moved (u := U) (U := U.calling g mk a) (Vm.Alike.refl U.vm) qK, qD, NN_call qN⟩
theorem PW_pre {s : State} {H : Heap} {D : va_G} {c : Nat → ClassId} {ws : va_W} {av : List Value} {A : Nat → Prop} (hP : va_P D vwCl ws H) (hD : va_D A ws) (hK : va_K D vwCl (kT c) s) (hN : NN s) : ∀ U : State, U.heap = H → s.WarmedH U.vm → va_Pc av (PW D c ws H.size) av.toArray U := fun U hU hW => ⟨rfl, by rw [hU], by rw [hU]; exact hP, va_K.moved hW.alike hK, hD.weaken (fun _ _ _ _ => trivial), NN_warm hW hN⟩
-- a method's end: an int (or boolean), nothing, a long, a reference
def QI (k : Int32) (B : (Nat → Prop) → State → Prop) (A : Nat → Prop) : Array Value → State → Outcome → State → Prop := va_Qi (fun r (_ : Unit) => r = k) (fun _ t => B A t) A
def QV (B : (Nat → Prop) → State → Prop) (A : Nat → Prop) : Array Value → State → Outcome → State → Prop := va_Qv (fun (_ : Unit) => True) (fun _ t => B A t) A
def QL (k : Int64) (B : (Nat → Prop) → State → Prop) (A : Nat → Prop) : Array Value → State → Outcome → State → Prop := va_Ql (fun r (_ : Unit) => r = k) (fun _ t => B A t) A
def QN (B : (Nat → Prop) → State → Prop) (A : Nat → Prop) : Array Value → State → Outcome → State → Prop := va_Qq (fun r (_ : Unit) => r = none) (fun _ t => B A t) A
/-- what a body starts with -/
def St (l : Launch) (y : MethodName) (cc : ByteArray) (maxL : Nat) (ret : Option FieldType) (rm : Room) (D : va_G) (c : Nat → ClassId) (ws : va_W) (av : List Value) (Qc : (Nat → Prop) → Array Value → State → Outcome → State → Prop) (mc ms : Nat) : Prop :=
  ∀ (p : Program) (e : Env) (s : State) (m : MethodId) (below : List Frame) (meth : Method) (cd : Code) (A : Nat → Prop) (ls : Array Slot),
    p.tables.exec = Jvm.exec → cd.code = cc → meth.sig.returnType = ret → cd.maxLocals = maxL → (∀ w ∈ TB, w.before av.toArray s = true) → s.vm.findClass y.cls = some m.cls → meth.locks = false → meth.name = y.name →
    (∀ q : Nat, s.heap.size ≤ q → A q) → va_S A s.heap s.heap [] → va_K D vwCl (kT c) s → va_P D vwCl ws s.heap → va_D A ws → NN s → lv_has ls maxL (lv_args 0 av) →
    W p l e rm s m av.toArray below meth cd s.heap [] 0 0 (MQ below (Qc A) av.toArray s mc ms A) (F0 m 0 ls [])
theorem start {l : Launch} {y : MethodName} {cc : ByteArray} {maxL : Nat} {ret : Option FieldType} {rm : Room} {D : va_G} {c : Nat → ClassId} {ws : va_W} {sz : Nat} {av : List Value} {Qc : (Nat → Prop) → Array Value → State → Outcome → State → Prop} {mc ms : Nat} (hy : plainName y.cls = true) (hlen : (lg_sl av).length ≤ maxL) (body : St l y cc maxL ret rm D c ws av Qc mc ms) : Met l y (Cond.code y cc maxL ret :: TB) rm (va_Pc av (PW D c ws sz)) (Qc (va_A ws sz)) mc ms (va_A ws sz) := by
  refine Met.ofW (cc := cc) (maxL := maxL) (ret := ret) hy rfl ?_
  intro p e s m args below meth cd s₁ B hml hv
  obtain ⟨rfl, hsz, hP, hK, hD0, hN⟩ := hv
  subst hsz
  have hts : ∀ w ∈ TB, w.before av.toArray s = true := fun w h => atoms_spec (ws := Cond.code y cc maxL ret :: TB) B.pre w (List.mem_cons_of_mem _ h)
  rw [lg_entry_eq]
  exact body p e s m below meth cd (va_A ws s.heap.size) _ B.exec B.bytes B.returns hml hts (findClass_of_methodNamed B.named) B.notSynchronized (name_of_methodNamed B.named B.method).1 (fun q h => Or.inr h) va_S.rf hK hP hD0.self hN (lv_entry av hlen)
section BW
variable {p : Program} {l : Launch} {e : Env} {R : Room} {s : State} {m : MethodId} {args : Array Value} {below : List Frame} {meth : Method} {c : Code} {H : Heap} {locs : List Loc} {cells slots : Nat} {Q : State → Prop}
variable {cc : ByteArray} {pc : Nat} {ls : Array Slot} {rest : List Value}
theorem tpi {x : Int32} (y : Int32) (h : x = y) (k : W p l e R s m args below meth c H locs cells slots Q (F0 m pc ls (.int y :: rest))) : W p l e R s m args below meth c H locs cells slots Q (F0 m pc ls (.int x :: rest)) := by rw [h]; exact k
theorem tpl {x : Int64} (y : Int64) (h : x = y) (k : W p l e R s m args below meth c H locs cells slots Q (F0 m pc ls (.long y :: rest))) : W p l e R s m args below meth c H locs cells slots Q (F0 m pc ls (.long x :: rest)) := by rw [h]; exact k
theorem tpv {x : Value} (y : Value) (h : x = y) (k : W p l e R s m args below meth c H locs cells slots Q (F0 m pc ls (y :: rest))) : W p l e R s m args below meth c H locs cells slots Q (F0 m pc ls (x :: rest)) := by rw [h]; exact k
theorem T_if_eq (hx : p.tables.exec = Jvm.exec) (hb : c.code = cc) {x : Int32} {off : Int} {tgt : Nat} (hdg : decode cc pc = .ok (.ifCond .eq off, 3)) (ht : (pc : Int) + off = (tgt : Int)) (h : x = 0) (k : W p l e R s m args below meth c H locs cells slots Q (F0 m tgt ls rest)) : W p l e R s m args below meth c H locs cells slots Q (F0 m pc ls (.int x :: rest)) := lv_if_eq hx hb hdg ht (fun _ => k) (fun c => absurd h c)
theorem F_if_eq (hx : p.tables.exec = Jvm.exec) (hb : c.code = cc) {x : Int32} {off : Int} (tgt : Nat) (hdg : decode cc pc = .ok (.ifCond .eq off, 3)) (ht : (pc : Int) + off = (tgt : Int)) (h : ¬ x = 0) (k : W p l e R s m args below meth c H locs cells slots Q (F0 m (pc + 3) ls rest)) : W p l e R s m args below meth c H locs cells slots Q (F0 m pc ls (.int x :: rest)) := lv_if_eq hx hb hdg ht (fun c => absurd c h) (fun _ => k)
theorem T_if_ne (hx : p.tables.exec = Jvm.exec) (hb : c.code = cc) {x : Int32} {off : Int} {tgt : Nat} (hdg : decode cc pc = .ok (.ifCond .ne off, 3)) (ht : (pc : Int) + off = (tgt : Int)) (h : ¬ x = 0) (k : W p l e R s m args below meth c H locs cells slots Q (F0 m tgt ls rest)) : W p l e R s m args below meth c H locs cells slots Q (F0 m pc ls (.int x :: rest)) := lv_if_ne hx hb hdg ht (fun _ => k) (fun c => absurd c h)
theorem F_if_ne (hx : p.tables.exec = Jvm.exec) (hb : c.code = cc) {x : Int32} {off : Int} (tgt : Nat) (hdg : decode cc pc = .ok (.ifCond .ne off, 3)) (ht : (pc : Int) + off = (tgt : Int)) (h : x = 0) (k : W p l e R s m args below meth c H locs cells slots Q (F0 m (pc + 3) ls rest)) : W p l e R s m args below meth c H locs cells slots Q (F0 m pc ls (.int x :: rest)) := lv_if_ne hx hb hdg ht (fun c => absurd h c) (fun _ => k)
theorem T_if_lt (hx : p.tables.exec = Jvm.exec) (hb : c.code = cc) {x : Int32} {off : Int} {tgt : Nat} (hdg : decode cc pc = .ok (.ifCond .lt off, 3)) (ht : (pc : Int) + off = (tgt : Int)) (h : x < 0) (k : W p l e R s m args below meth c H locs cells slots Q (F0 m tgt ls rest)) : W p l e R s m args below meth c H locs cells slots Q (F0 m pc ls (.int x :: rest)) := lv_if_lt hx hb hdg ht (fun _ => k) (fun c => absurd h c)
theorem F_if_lt (hx : p.tables.exec = Jvm.exec) (hb : c.code = cc) {x : Int32} {off : Int} (tgt : Nat) (hdg : decode cc pc = .ok (.ifCond .lt off, 3)) (ht : (pc : Int) + off = (tgt : Int)) (h : ¬ x < 0) (k : W p l e R s m args below meth c H locs cells slots Q (F0 m (pc + 3) ls rest)) : W p l e R s m args below meth c H locs cells slots Q (F0 m pc ls (.int x :: rest)) := lv_if_lt hx hb hdg ht (fun c => absurd c h) (fun _ => k)
theorem T_if_ge (hx : p.tables.exec = Jvm.exec) (hb : c.code = cc) {x : Int32} {off : Int} {tgt : Nat} (hdg : decode cc pc = .ok (.ifCond .ge off, 3)) (ht : (pc : Int) + off = (tgt : Int)) (h : 0 ≤ x) (k : W p l e R s m args below meth c H locs cells slots Q (F0 m tgt ls rest)) : W p l e R s m args below meth c H locs cells slots Q (F0 m pc ls (.int x :: rest)) := lv_if_ge hx hb hdg ht (fun _ => k) (fun c => absurd h c)
theorem F_if_ge (hx : p.tables.exec = Jvm.exec) (hb : c.code = cc) {x : Int32} {off : Int} (tgt : Nat) (hdg : decode cc pc = .ok (.ifCond .ge off, 3)) (ht : (pc : Int) + off = (tgt : Int)) (h : ¬ 0 ≤ x) (k : W p l e R s m args below meth c H locs cells slots Q (F0 m (pc + 3) ls rest)) : W p l e R s m args below meth c H locs cells slots Q (F0 m pc ls (.int x :: rest)) := lv_if_ge hx hb hdg ht (fun c => absurd c h) (fun _ => k)
theorem T_if_gt (hx : p.tables.exec = Jvm.exec) (hb : c.code = cc) {x : Int32} {off : Int} {tgt : Nat} (hdg : decode cc pc = .ok (.ifCond .gt off, 3)) (ht : (pc : Int) + off = (tgt : Int)) (h : 0 < x) (k : W p l e R s m args below meth c H locs cells slots Q (F0 m tgt ls rest)) : W p l e R s m args below meth c H locs cells slots Q (F0 m pc ls (.int x :: rest)) := lv_if_gt hx hb hdg ht (fun _ => k) (fun c => absurd h c)
theorem F_if_gt (hx : p.tables.exec = Jvm.exec) (hb : c.code = cc) {x : Int32} {off : Int} (tgt : Nat) (hdg : decode cc pc = .ok (.ifCond .gt off, 3)) (ht : (pc : Int) + off = (tgt : Int)) (h : ¬ 0 < x) (k : W p l e R s m args below meth c H locs cells slots Q (F0 m (pc + 3) ls rest)) : W p l e R s m args below meth c H locs cells slots Q (F0 m pc ls (.int x :: rest)) := lv_if_gt hx hb hdg ht (fun c => absurd c h) (fun _ => k)
theorem T_if_le (hx : p.tables.exec = Jvm.exec) (hb : c.code = cc) {x : Int32} {off : Int} {tgt : Nat} (hdg : decode cc pc = .ok (.ifCond .le off, 3)) (ht : (pc : Int) + off = (tgt : Int)) (h : x ≤ 0) (k : W p l e R s m args below meth c H locs cells slots Q (F0 m tgt ls rest)) : W p l e R s m args below meth c H locs cells slots Q (F0 m pc ls (.int x :: rest)) := lv_if_le hx hb hdg ht (fun _ => k) (fun c => absurd h c)
theorem F_if_le (hx : p.tables.exec = Jvm.exec) (hb : c.code = cc) {x : Int32} {off : Int} (tgt : Nat) (hdg : decode cc pc = .ok (.ifCond .le off, 3)) (ht : (pc : Int) + off = (tgt : Int)) (h : ¬ x ≤ 0) (k : W p l e R s m args below meth c H locs cells slots Q (F0 m (pc + 3) ls rest)) : W p l e R s m args below meth c H locs cells slots Q (F0 m pc ls (.int x :: rest)) := lv_if_le hx hb hdg ht (fun c => absurd c h) (fun _ => k)
theorem T_icmp_eq (hx : p.tables.exec = Jvm.exec) (hb : c.code = cc) {x y : Int32} {off : Int} {tgt : Nat} (hdg : decode cc pc = .ok (.if_icmp .eq off, 3)) (ht : (pc : Int) + off = (tgt : Int)) (h : x = y) (k : W p l e R s m args below meth c H locs cells slots Q (F0 m tgt ls rest)) : W p l e R s m args below meth c H locs cells slots Q (F0 m pc ls (.int y :: .int x :: rest)) := lv_icmp_eq hx hb hdg ht (fun _ => k) (fun c => absurd h c)
theorem F_icmp_eq (hx : p.tables.exec = Jvm.exec) (hb : c.code = cc) {x y : Int32} {off : Int} (tgt : Nat) (hdg : decode cc pc = .ok (.if_icmp .eq off, 3)) (ht : (pc : Int) + off = (tgt : Int)) (h : ¬ x = y) (k : W p l e R s m args below meth c H locs cells slots Q (F0 m (pc + 3) ls rest)) : W p l e R s m args below meth c H locs cells slots Q (F0 m pc ls (.int y :: .int x :: rest)) := lv_icmp_eq hx hb hdg ht (fun c => absurd c h) (fun _ => k)
theorem T_icmp_ne (hx : p.tables.exec = Jvm.exec) (hb : c.code = cc) {x y : Int32} {off : Int} {tgt : Nat} (hdg : decode cc pc = .ok (.if_icmp .ne off, 3)) (ht : (pc : Int) + off = (tgt : Int)) (h : ¬ x = y) (k : W p l e R s m args below meth c H locs cells slots Q (F0 m tgt ls rest)) : W p l e R s m args below meth c H locs cells slots Q (F0 m pc ls (.int y :: .int x :: rest)) := lv_icmp_ne hx hb hdg ht (fun _ => k) (fun c => absurd c h)
theorem F_icmp_ne (hx : p.tables.exec = Jvm.exec) (hb : c.code = cc) {x y : Int32} {off : Int} (tgt : Nat) (hdg : decode cc pc = .ok (.if_icmp .ne off, 3)) (ht : (pc : Int) + off = (tgt : Int)) (h : x = y) (k : W p l e R s m args below meth c H locs cells slots Q (F0 m (pc + 3) ls rest)) : W p l e R s m args below meth c H locs cells slots Q (F0 m pc ls (.int y :: .int x :: rest)) := lv_icmp_ne hx hb hdg ht (fun c => absurd h c) (fun _ => k)
theorem T_icmp_lt (hx : p.tables.exec = Jvm.exec) (hb : c.code = cc) {x y : Int32} {off : Int} {tgt : Nat} (hdg : decode cc pc = .ok (.if_icmp .lt off, 3)) (ht : (pc : Int) + off = (tgt : Int)) (h : x < y) (k : W p l e R s m args below meth c H locs cells slots Q (F0 m tgt ls rest)) : W p l e R s m args below meth c H locs cells slots Q (F0 m pc ls (.int y :: .int x :: rest)) := lv_icmp_lt hx hb hdg ht (fun _ => k) (fun c => absurd h c)
theorem F_icmp_lt (hx : p.tables.exec = Jvm.exec) (hb : c.code = cc) {x y : Int32} {off : Int} (tgt : Nat) (hdg : decode cc pc = .ok (.if_icmp .lt off, 3)) (ht : (pc : Int) + off = (tgt : Int)) (h : ¬ x < y) (k : W p l e R s m args below meth c H locs cells slots Q (F0 m (pc + 3) ls rest)) : W p l e R s m args below meth c H locs cells slots Q (F0 m pc ls (.int y :: .int x :: rest)) := lv_icmp_lt hx hb hdg ht (fun c => absurd c h) (fun _ => k)
theorem T_icmp_ge (hx : p.tables.exec = Jvm.exec) (hb : c.code = cc) {x y : Int32} {off : Int} {tgt : Nat} (hdg : decode cc pc = .ok (.if_icmp .ge off, 3)) (ht : (pc : Int) + off = (tgt : Int)) (h : y ≤ x) (k : W p l e R s m args below meth c H locs cells slots Q (F0 m tgt ls rest)) : W p l e R s m args below meth c H locs cells slots Q (F0 m pc ls (.int y :: .int x :: rest)) := lv_icmp_ge hx hb hdg ht (fun _ => k) (fun c => absurd h c)
theorem F_icmp_ge (hx : p.tables.exec = Jvm.exec) (hb : c.code = cc) {x y : Int32} {off : Int} (tgt : Nat) (hdg : decode cc pc = .ok (.if_icmp .ge off, 3)) (ht : (pc : Int) + off = (tgt : Int)) (h : ¬ y ≤ x) (k : W p l e R s m args below meth c H locs cells slots Q (F0 m (pc + 3) ls rest)) : W p l e R s m args below meth c H locs cells slots Q (F0 m pc ls (.int y :: .int x :: rest)) := lv_icmp_ge hx hb hdg ht (fun c => absurd c h) (fun _ => k)
theorem T_icmp_gt (hx : p.tables.exec = Jvm.exec) (hb : c.code = cc) {x y : Int32} {off : Int} {tgt : Nat} (hdg : decode cc pc = .ok (.if_icmp .gt off, 3)) (ht : (pc : Int) + off = (tgt : Int)) (h : y < x) (k : W p l e R s m args below meth c H locs cells slots Q (F0 m tgt ls rest)) : W p l e R s m args below meth c H locs cells slots Q (F0 m pc ls (.int y :: .int x :: rest)) := lv_icmp_gt hx hb hdg ht (fun _ => k) (fun c => absurd h c)
theorem F_icmp_gt (hx : p.tables.exec = Jvm.exec) (hb : c.code = cc) {x y : Int32} {off : Int} (tgt : Nat) (hdg : decode cc pc = .ok (.if_icmp .gt off, 3)) (ht : (pc : Int) + off = (tgt : Int)) (h : ¬ y < x) (k : W p l e R s m args below meth c H locs cells slots Q (F0 m (pc + 3) ls rest)) : W p l e R s m args below meth c H locs cells slots Q (F0 m pc ls (.int y :: .int x :: rest)) := lv_icmp_gt hx hb hdg ht (fun c => absurd c h) (fun _ => k)
theorem T_icmp_le (hx : p.tables.exec = Jvm.exec) (hb : c.code = cc) {x y : Int32} {off : Int} {tgt : Nat} (hdg : decode cc pc = .ok (.if_icmp .le off, 3)) (ht : (pc : Int) + off = (tgt : Int)) (h : x ≤ y) (k : W p l e R s m args below meth c H locs cells slots Q (F0 m tgt ls rest)) : W p l e R s m args below meth c H locs cells slots Q (F0 m pc ls (.int y :: .int x :: rest)) := lv_icmp_le hx hb hdg ht (fun _ => k) (fun c => absurd h c)
theorem F_icmp_le (hx : p.tables.exec = Jvm.exec) (hb : c.code = cc) {x y : Int32} {off : Int} (tgt : Nat) (hdg : decode cc pc = .ok (.if_icmp .le off, 3)) (ht : (pc : Int) + off = (tgt : Int)) (h : ¬ x ≤ y) (k : W p l e R s m args below meth c H locs cells slots Q (F0 m (pc + 3) ls rest)) : W p l e R s m args below meth c H locs cells slots Q (F0 m pc ls (.int y :: .int x :: rest)) := lv_icmp_le hx hb hdg ht (fun c => absurd c h) (fun _ => k)
end BW
theorem lt_of {x y : Int32} {X Y : Int} (hx : x.toInt = X) (hy : y.toInt = Y) (h : X < Y) : x < y := by rw [Int32.lt_iff_toInt_lt, hx, hy]; exact h
theorem nl_of {x y : Int32} {X Y : Int} (hx : x.toInt = X) (hy : y.toInt = Y) (h : ¬ X < Y) : ¬ x < y := by rw [Int32.lt_iff_toInt_lt, hx, hy]; exact h
theorem le_of {x y : Int32} {X Y : Int} (hx : x.toInt = X) (hy : y.toInt = Y) (h : X ≤ Y) : x ≤ y := by rw [Int32.le_iff_toInt_le, hx, hy]; exact h
theorem ne_of {x y : Int32} {X Y : Int} (hx : x.toInt = X) (hy : y.toInt = Y) (h : ¬ X ≤ Y) : ¬ x ≤ y := by rw [Int32.le_iff_toInt_le, hx, hy]; exact h
theorem eq_of {x y : Int32} {X Y : Int} (hx : x.toInt = X) (hy : y.toInt = Y) (h : X = Y) : x = y := by rw [← Int32.toInt_inj, hx, hy]; exact h
theorem nq_of {x y : Int32} {X Y : Int} (hx : x.toInt = X) (hy : y.toInt = Y) (h : ¬ X = Y) : ¬ x = y := by rw [← Int32.toInt_inj, hx, hy]; exact h
theorem in_of {x : Int32} {n : Nat} (h1 : 0 ≤ x.toInt) (h2 : x.toInt < n) : vp_in x n := vp_in_iff.mpr ⟨h1, h2⟩
theorem vpi {i : Int32} {n : Nat} (h : decide (¬ (i < 0 ∨ n ≤ i.toNatClampNeg)) = true) : vp_in i n := by
  unfold vp_in
  exact of_decide_eq_true h
section BR
variable {p : Program} {l : Launch} {e : Env} {R : Room} {s : State} {m : MethodId} {args : Array Value} {below : List Frame} {meth : Method} {cd : Code} {H : Heap} {locs : List Loc} {cells slots : Nat} {Q : State → Prop}
variable {cc : ByteArray} {pc : Nat} {ls : Array Slot} {rest : List Value} {A : Nat → Prop} {mc ms : Nat} {B : (Nat → Prop) → State → Prop}
theorem retI {k : Int32} {ty : FieldType} (hx : p.tables.exec = Jvm.exec) (hb : cd.code = cc) (hr : meth.sig.returnType = some ty) (hlocks : meth.locks = false) (hn : narrow ty (.int k) = .int k) (hS : va_S A s.heap H locs) (h1 : cells ≤ mc) (h2 : slots ≤ ms) (hdg : decode cc pc = .ok (.ireturn, 1)) (hB : ∀ t : State, t.heap = H → B A t) : W p l e R s m args below meth cd H locs cells slots (MQ below (QI k B A) args s mc ms A) (F0 m pc ls [.int k]) := by
  refine W.widen (k := mc) (n := ms) h1 h2 ?_
  exact W.zret (v := k) hx hb hr hn (fun t ht hW => ⟨⟨k, (), rfl, rfl, hB t ht⟩, hS.F ht⟩) hS.2.2 hdg
theorem retV (hx : p.tables.exec = Jvm.exec) (hb : cd.code = cc) (hr : meth.sig.returnType = none) (hlocks : meth.locks = false) (hS : va_S A s.heap H locs) (h1 : cells ≤ mc) (h2 : slots ≤ ms) (hdg : decode cc pc = .ok (.return_, 1)) (hB : ∀ t : State, t.heap = H → B A t) : W p l e R s m args below meth cd H locs cells slots (MQ below (QV B A) args s mc ms A) (F0 m pc ls []) := by
  refine W.widen (k := mc) (n := ms) h1 h2 ?_
  exact W.vret hx hb hr (fun t ht hW => ⟨⟨(), rfl, trivial, hB t ht⟩, hS.F ht⟩) hS.2.2 hdg
theorem retL {k : Int64} (hx : p.tables.exec = Jvm.exec) (hb : cd.code = cc) (hr : meth.sig.returnType = some .long) (hlocks : meth.locks = false) (hS : va_S A s.heap H locs) (h1 : cells ≤ mc) (h2 : slots ≤ ms) (hdg : decode cc pc = .ok (.lreturn, 1)) (hB : ∀ t : State, t.heap = H → B A t) : W p l e R s m args below meth cd H locs cells slots (MQ below (QL k B A) args s mc ms A) (F0 m pc ls [.long k]) := by
  refine W.widen (k := mc) (n := ms) h1 h2 ?_
  exact W.lret (v := k) hx hb hr (fun t ht hW => ⟨⟨k, (), rfl, rfl, hB t ht⟩, hS.F ht⟩) hS.2.2 hdg
theorem retN {ty : FieldType} (hx : p.tables.exec = Jvm.exec) (hb : cd.code = cc) (hr : meth.sig.returnType = some ty) (hrt : (∃ n, ty = .object n) ∨ ∃ t, ty = .array t) (hlocks : meth.locks = false) (hS : va_S A s.heap H locs) (h1 : cells ≤ mc) (h2 : slots ≤ ms) (hdg : decode cc pc = .ok (.areturn, 1)) (hB : ∀ t : State, t.heap = H → B A t) : W p l e R s m args below meth cd H locs cells slots (MQ below (QN B A) args s mc ms A) (F0 m pc ls [.null]) := by
  refine W.widen (k := mc) (n := ms) h1 h2 ?_
  exact W.aret (v := .null) hx hb hr hrt (Or.inl rfl) (fun t ht hW => ⟨⟨none, (), rfl, rfl, hB t ht⟩, hS.F ht⟩) hS.2.2 hdg
end BR
section BC
variable {p : Program} {l : Launch} {e : Env} {R : Room} {s : State} {m : MethodId} {args : Array Value} {below : List Frame} {meth : Method} {cd : Code} {H : Heap} {locs : List Loc} {cells slots : Nat} {Q : State → Prop}
variable {cc bytes : ByteArray} {pc : Nat} {ls : Array Slot} {rest st0 As : List Value} {A : Nat → Prop} {mc ms maxL nL n index ci N b : Nat} {y : MethodName} {ret : Option FieldType} {rm : Room} {D : va_G} {c : Nat → ClassId} {wc ws : va_W} {own host C : String} {T : u_T} {fs : List Value} {Qc : Array Value → State → Outcome → State → Prop} {free : Addr → Prop} {H0 : Heap} {B : (Nat → Prop) → State → Prop} {a : Array Value}
theorem run_V (S : CallFix p m cd cc nL s args TB own) (hM : Met l y (Cond.code y bytes maxL ret :: TB) rm (va_Pc (.ref b :: As) (PW D c wc H.size)) Qc mc ms free) (hP : va_P D vwCl wc H) (hD : va_D A wc) (hK : va_K D vwCl (kT c) s) (hN : NN s) (hrc : rm.cells = mc) (hrs : rm.slots = ms)
    (k1 : Cond.methodLink own index y ∈ TB) (k2 : Cond.instanceMethod y ∈ TB) (k3 : Cond.selects C y y ∈ TB) (k4 : Cond.initialized C ∈ TB) (k5 : Cond.code y bytes maxL ret ∈ TB)
    (hd : y.cls = C ∧ y.cls ≠ "java/lang/invoke/MethodHandle" ∧ y.cls ≠ "java/lang/invoke/VarHandle" ∧ (parseMethodDescriptor y.desc).map (fun d => d.parameters.length) = some n) (hR : rm.frames + 1 ≤ R.frames ∧ 8 + (maxL + 11) + rm.locals ≤ R.locals)
    (hc : vwCl[ci]? = some (C, T, N)) (he : wc[0]? = some (b, .inr (ci, fs))) (hn : As.length = n) (hsz : ls.size = nL) (hst : st0 = As.reverse ++ .ref b :: rest) (hW : (rest.map fun v => v.category).sum ≤ 8) (hdg : decode cc pc = .ok (.invokevirtual index, 3)) (hf : cells + mc ≤ R.cells ∧ slots + ms ≤ R.slots) :
    va_Run p l e R s m args below meth cd H locs cells slots mc ms (F0 m pc ls st0) rest (Qc (Value.ref b :: As).toArray) free := by
  obtain ⟨hdC, hd'⟩ := hd
  subst hdC
  have hts := S.2.2.2.2
  exact va_runV (bytes := bytes) (maxL := maxL) (ret := ret) (C := y.cls) (n := n) (index := index) S hM ⟨callB_of n hts (TB_cons k5) rfl hrc hrs (hts _ k4) (hts _ k1) hd' hR, hts _ k2, hts _ k3⟩ ⟨PW_blind, va_recv hK hP hc he, PW_pre hP hD hK hN⟩ rfl hn hsz hst (lv_room hW) hdg hf
theorem run_S (S : CallFix p m cd cc nL s args TB own) (hM : Met l y (Cond.code y bytes maxL ret :: TB) rm (va_Pc As (PW D c wc H.size)) Qc mc ms free) (hP : va_P D vwCl wc H) (hD : va_D A wc) (hK : va_K D vwCl (kT c) s) (hN : NN s) (hrc : rm.cells = mc) (hrs : rm.slots = ms)
    (k1 : Cond.methodLink own index y ∈ TB) (k2 : Cond.static y ∈ TB) (k4 : Cond.initialized y.cls ∈ TB) (k5 : Cond.code y bytes maxL ret ∈ TB)
    (hd : y.cls ≠ "java/lang/invoke/MethodHandle" ∧ y.cls ≠ "java/lang/invoke/VarHandle" ∧ (parseMethodDescriptor y.desc).map (fun d => d.parameters.length) = some n) (hR : rm.frames + 1 ≤ R.frames ∧ 8 + (maxL + 11) + rm.locals ≤ R.locals)
    (hn : As.length = n) (hsz : ls.size = nL) (hst : st0 = As.reverse ++ rest) (hW : (rest.map fun v => v.category).sum ≤ 8) (hdg : decode cc pc = .ok (.invokestatic index, 3)) (hf : cells + mc ≤ R.cells ∧ slots + ms ≤ R.slots) :
    va_Run p l e R s m args below meth cd H locs cells slots mc ms (F0 m pc ls st0) rest (Qc As.toArray) free := by
  have hts := S.2.2.2.2
  exact va_runS (bytes := bytes) (maxL := maxL) (ret := ret) (n := n) (index := index) S hM ⟨callB_of n hts (TB_cons k5) rfl hrc hrs (hts _ k4) (hts _ k1) hd hR, hts _ k2⟩ ⟨PW_blind, PW_pre hP hD hK hN⟩ rfl hn hsz hst (lv_room hW) hdg hf
theorem run_SN (S : CallFix p m cd cc nL s args TB own) (hM : Met l y (Cond.code y bytes maxL ret :: TB) rm (va_Pc As (PW D c wc H.size)) Qc mc ms free) (hP : va_P D vwCl wc H) (hD : va_D A wc) (hK : va_K D vwCl (kT c) s) (hN : NN s) (hrc : rm.cells = mc) (hrs : rm.slots = ms)
    (k1 : va_Nw (Cond.methodLinkNest own index y host) s) (k2 : Cond.static y ∈ TB) (k4 : Cond.initialized y.cls ∈ TB) (k5 : Cond.code y bytes maxL ret ∈ TB)
    (hd : y.cls ≠ "java/lang/invoke/MethodHandle" ∧ y.cls ≠ "java/lang/invoke/VarHandle" ∧ (parseMethodDescriptor y.desc).map (fun d => d.parameters.length) = some n) (hR : rm.frames + 1 ≤ R.frames ∧ 8 + (maxL + 11) + rm.locals ≤ R.locals)
    (hn : As.length = n) (hsz : ls.size = nL) (hst : st0 = As.reverse ++ rest) (hW : (rest.map fun v => v.category).sum ≤ 8) (hdg : decode cc pc = .ok (.invokestatic index, 3)) (hf : cells + mc ≤ R.cells ∧ slots + ms ≤ R.slots) :
    va_Run p l e R s m args below meth cd H locs cells slots mc ms (F0 m pc ls st0) rest (Qc As.toArray) free := by
  have hts := S.2.2.2.2
  exact va_runSN (bytes := bytes) (maxL := maxL) (ret := ret) (n := n) (index := index) (host := host) S hM ⟨va_cnB n hts (TB_cons k5) rfl hrc hrs k1 (hts _ k4) hd hR, hts _ k2, trivial⟩ ⟨PW_blind, PW_pre hP hD hK hN⟩ rfl hn hsz hst (lv_room hW) hdg hf
theorem run_I (S : CallFix p m cd cc nL s args TB own) (hM : Met l y (Cond.code y bytes maxL none :: TB) rm (va_Pc (.ref b :: As) (PW D c wc H.size)) Qc mc ms free) (hP : va_P D vwCl wc H) (hD : va_D A wc) (hK : va_K D vwCl (kT c) s) (hN : NN s) (hrc : rm.cells = mc) (hrs : rm.slots = ms)
    (k1 : Cond.methodLink own index y ∈ TB) (k2 : Cond.instanceMethod y ∈ TB) (k4 : Cond.initialized y.cls ∈ TB) (k5 : Cond.code y bytes maxL none ∈ TB) (hy1 : y.name = "<init>")
    (hd : y.cls ≠ "java/lang/invoke/MethodHandle" ∧ y.cls ≠ "java/lang/invoke/VarHandle" ∧ (parseMethodDescriptor y.desc).map (fun d => d.parameters.length) = some n) (hR : rm.frames + 1 ≤ R.frames ∧ 8 + (maxL + 11) + rm.locals ≤ R.locals)
    (hn : As.length = n) (hsz : ls.size = nL) (hst : st0 = As.reverse ++ .ref b :: rest) (hW : (rest.map fun v => v.category).sum ≤ 8) (hdg : decode cc pc = .ok (.invokespecial index, 3)) (hf : cells + mc ≤ R.cells ∧ slots + ms ≤ R.slots) :
    va_Run p l e R s m args below meth cd H locs cells slots mc ms (F0 m pc ls st0) rest (Qc (Value.ref b :: As).toArray) free := by
  have hts := S.2.2.2.2
  exact va_runI (bytes := bytes) (maxL := maxL) (n := n) (index := index) S hM ⟨callB_of n hts (TB_cons k5) rfl hrc hrs (hts _ k4) (hts _ k1) hd hR, hy1, hts _ k2⟩ ⟨PW_blind, PW_pre hP hD hK hN⟩ rfl hn hsz hst (lv_room hW) hdg hf
theorem run_IN (S : CallFix p m cd cc nL s args TB own) (hM : Met l y (Cond.code y bytes maxL none :: TB) rm (va_Pc (.ref b :: As) (PW D c wc H.size)) Qc mc ms free) (hP : va_P D vwCl wc H) (hD : va_D A wc) (hK : va_K D vwCl (kT c) s) (hN : NN s) (hrc : rm.cells = mc) (hrs : rm.slots = ms)
    (k1 : va_Nw (Cond.methodLinkNest own index y host) s) (k2 : Cond.instanceMethod y ∈ TB) (k4 : Cond.initialized y.cls ∈ TB) (k5 : Cond.code y bytes maxL none ∈ TB) (hy1 : y.name = "<init>")
    (hd : y.cls ≠ "java/lang/invoke/MethodHandle" ∧ y.cls ≠ "java/lang/invoke/VarHandle" ∧ (parseMethodDescriptor y.desc).map (fun d => d.parameters.length) = some n) (hR : rm.frames + 1 ≤ R.frames ∧ 8 + (maxL + 11) + rm.locals ≤ R.locals)
    (hn : As.length = n) (hsz : ls.size = nL) (hst : st0 = As.reverse ++ .ref b :: rest) (hW : (rest.map fun v => v.category).sum ≤ 8) (hdg : decode cc pc = .ok (.invokespecial index, 3)) (hf : cells + mc ≤ R.cells ∧ slots + ms ≤ R.slots) :
    va_Run p l e R s m args below meth cd H locs cells slots mc ms (F0 m pc ls st0) rest (Qc (Value.ref b :: As).toArray) free := by
  have hts := S.2.2.2.2
  exact va_runIN (bytes := bytes) (maxL := maxL) (n := n) (index := index) (host := host) S hM ⟨va_cnB n hts (TB_cons k5) rfl hrc hrs k1 (hts _ k4) hd hR, hy1, hts _ k2⟩ ⟨PW_blind, PW_pre hP hD hK hN⟩ rfl hn hsz hst (lv_room hW) hdg hf
/-- behind a call: the callee's world may be put beside any rest of the caller's -/
def Jn (D : va_G) (A : Nat → Prop) (ws wc : va_W) (isC : List Nat) (sz : Nat) (t : State) (H1 : Heap) : Prop := ∀ {wr w1 : va_W} (isR : List Nat), isR.map (fun i => ws[i]?) = wr.map some → va_nd isR = true → (∀ i ∈ isR, i ∉ isC) → va_P D vwCl w1 t.heap → va_D (va_A wc sz) w1 → va_P D vwCl (wr ++ w1) H1 ∧ va_D A (wr ++ w1)
theorem Jn_of {t : State} {H1 : Heap} (hP : va_P D vwCl ws H) (hD : va_D A ws) (isC : List Nat) (hC : isC.map (fun i => ws[i]?) = wc.map some) (hk : ∀ q : Nat, q < H.size → ¬ va_A wc H.size q → H1[q]? = H[q]?) (hF : ∀ q, va_A wc H.size q → A q) (ht : t.heap = H1) : Jn D A ws wc isC H.size t H1 := by
  intro wr w1 isR hR hn hdis hP1 hD1
  rw [ht] at hP1
  exact va_join hP hD isC isR hC hR hn hdis hk hF hP1 hD1
theorem fin_i {k : Int32} (hr : va_Run p l e R s m args below meth cd H locs cells slots mc ms (F0 m pc ls st0) rest (QI k B (va_A wc H.size) a) (va_A wc H.size)) (hP : va_P D vwCl ws H) (hD : va_D A ws) (hS : va_S A H0 H locs) (hA : ∀ q, H0.size ≤ q → A q) (isC : List Nat) (hC : isC.map (fun i => ws[i]?) = wc.map some)
    (kk : ∀ (H1 : Heap) (locs1 : List Loc) (t : State), B (va_A wc H.size) t → Jn D A ws wc isC H.size t H1 → va_S A H0 H1 locs1 → W p l e R s m args below meth cd H1 locs1 (cells + mc) (slots + ms) Q (F0 m (pc + 3) ls (.int k :: rest))) : W p l e R s m args below meth cd H locs cells slots Q (F0 m pc ls st0) := by
  have hF := va_free (wc := wc) hD hS hA isC hC
  refine va_calli hr hS (fun q _ h => hF q h) hF (fun r u t H1 locs1 ht hvm hw hB hz hk hS1 => ?_)
  have hw : r = k := hw
  subst hw
  exact kk H1 locs1 t hB (Jn_of hP hD isC hC hk hF ht) hS1
theorem fin_v (hr : va_Run p l e R s m args below meth cd H locs cells slots mc ms (F0 m pc ls st0) rest (QV B (va_A wc H.size) a) (va_A wc H.size)) (hP : va_P D vwCl ws H) (hD : va_D A ws) (hS : va_S A H0 H locs) (hA : ∀ q, H0.size ≤ q → A q) (isC : List Nat) (hC : isC.map (fun i => ws[i]?) = wc.map some)
    (kk : ∀ (H1 : Heap) (locs1 : List Loc) (t : State), B (va_A wc H.size) t → Jn D A ws wc isC H.size t H1 → va_S A H0 H1 locs1 → W p l e R s m args below meth cd H1 locs1 (cells + mc) (slots + ms) Q (F0 m (pc + 3) ls rest)) : W p l e R s m args below meth cd H locs cells slots Q (F0 m pc ls st0) := by
  have hF := va_free (wc := wc) hD hS hA isC hC
  exact va_callv hr hS (fun q _ h => hF q h) hF (fun u t H1 locs1 ht hvm hw hB hz hk hS1 => kk H1 locs1 t hB (Jn_of hP hD isC hC hk hF ht) hS1)
theorem fin_l {k : Int64} (hr : va_Run p l e R s m args below meth cd H locs cells slots mc ms (F0 m pc ls st0) rest (QL k B (va_A wc H.size) a) (va_A wc H.size)) (hP : va_P D vwCl ws H) (hD : va_D A ws) (hS : va_S A H0 H locs) (hA : ∀ q, H0.size ≤ q → A q) (isC : List Nat) (hC : isC.map (fun i => ws[i]?) = wc.map some)
    (kk : ∀ (H1 : Heap) (locs1 : List Loc) (t : State), B (va_A wc H.size) t → Jn D A ws wc isC H.size t H1 → va_S A H0 H1 locs1 → W p l e R s m args below meth cd H1 locs1 (cells + mc) (slots + ms) Q (F0 m (pc + 3) ls (.long k :: rest))) : W p l e R s m args below meth cd H locs cells slots Q (F0 m pc ls st0) := by
  have hF := va_free (wc := wc) hD hS hA isC hC
  refine va_calll hr hS (fun q _ h => hF q h) hF (fun r u t H1 locs1 ht hvm hw hB hz hk hS1 => ?_)
  have hw : r = k := hw
  subst hw
  exact kk H1 locs1 t hB (Jn_of hP hD isC hC hk hF ht) hS1
theorem fin_q (hr : va_Run p l e R s m args below meth cd H locs cells slots mc ms (F0 m pc ls st0) rest (QN B (va_A wc H.size) a) (va_A wc H.size)) (hP : va_P D vwCl ws H) (hD : va_D A ws) (hS : va_S A H0 H locs) (hA : ∀ q, H0.size ≤ q → A q) (isC : List Nat) (hC : isC.map (fun i => ws[i]?) = wc.map some)
    (kk : ∀ (H1 : Heap) (locs1 : List Loc) (t : State), B (va_A wc H.size) t → Jn D A ws wc isC H.size t H1 → va_S A H0 H1 locs1 → W p l e R s m args below meth cd H1 locs1 (cells + mc) (slots + ms) Q (F0 m (pc + 3) ls (.null :: rest))) : W p l e R s m args below meth cd H locs cells slots Q (F0 m pc ls st0) := by
  have hF := va_free (wc := wc) hD hS hA isC hC
  refine va_callq hr hS (fun q _ h => hF q h) hF (fun r u t H1 locs1 ht hvm hw hB hz hk hS1 => ?_)
  have hw : r = none := hw
  subst hw
  exact kk H1 locs1 t hB (Jn_of hP hD isC hC hk hF ht) hS1
/-- two array classes of one kind are one -/
theorem one_cls {U : State} {c1 c2 : ClassId} {t : FieldType} (ht : ∀ C, t ≠ .object C) (h1 : va_RA U c1 t) (h2 : va_RA U c2 t) : c2 = c1 := by
  cases t with
  | object C => exact absurd rfl (ht C)
  | _ => exact Option.some.inj (h2.symm.trans h1)
theorem one_clsO {U : State} {c1 c2 : ClassId} {C : String} (h1 : va_RA U c1 (.object C)) (h2 : va_RA U c2 (.object C)) : c2 = c1 := by
  obtain ⟨_, _, _, _, _, h1⟩ := h1
  obtain ⟨_, _, _, _, _, h2⟩ := h2
  exact Option.some.inj (h2.symm.trans h1)
theorem nw_arr (hexec : p.tables.exec = Jvm.exec) (hb : cd.code = cc) {atype : ArrayType} (harr : (Cond.arrayClass (newarray.typeOf atype)).before args s = true) {ty : FieldType} (hty : newarray.typeOf atype = ty) (t0 : Nat) (ht0 : (kT c)[t0]? = some (c t0, ty)) (hno : ∀ C, ty ≠ .object C) (hK : va_K D vwCl (kT c) s) (hP : va_P D vwCl ws H) (hD : va_D A ws) (hS : va_S A H0 H locs) (hA : ∀ q, H0.size ≤ q → A q)
    {n : Int32} {N' : Nat} {a0 : vp_A} (ha : ∀ cA : ClassId, vp_cell cA a0 = arrV cA N' (fun _ => defaultValue ty)) (hn : ¬ n < 0) (hN : n.toNatClampNeg = N') (hbytes : N' * componentBytes ty ≤ 536870912) (hcells : cells + 1 ≤ R.cells) (hslots : slots + N' ≤ R.slots) (hdg : decode cc pc = .ok (.newarray atype, 2))
    (kk : ∀ (q : Nat) (H1 : Heap), va_P D vwCl (ws ++ [(q, .inl (c t0, a0))]) H1 → va_D A (ws ++ [(q, .inl (c t0, a0))]) → va_S A H0 H1 locs →
      W p l e R s m args below meth cd H1 locs (cells + 1) (slots + N') Q (F0 m (pc + 2) ls (.ref q :: rest))) : W p l e R s m args below meth cd H locs cells slots Q (F0 m pc ls (.int n :: rest)) := by
  refine va_newa hexec hb harr hty hK hP hD hS hA ha hn hN hbytes hcells hslots hdg (fun q cA H1 hK1 hP1 hD1 hS1 => ?_)
  have e : cA = c t0 := one_cls hno (hK.2 t0 _ ht0).2 (hK1.2 (kT c).length (cA, ty) (by simp)).2
  subst e
  exact kk q H1 hP1 hD1 hS1
theorem nw_arq (hexec : p.tables.exec = Jvm.exec) (hb : cd.code = cc) (hown : s.vm.findClass own = some m.cls) (hclink : (Cond.classLink own index C).before args s = true) (hover : va_AO C s) (t0 : Nat) (ht0 : (kT c)[t0]? = some (c t0, .object C)) (hK : va_K D vwCl (kT c) s) (hP : va_P D vwCl ws H) (hD : va_D A ws) (hS : va_S A H0 H locs) (hA : ∀ q, H0.size ≤ q → A q)
    {n : Int32} {N' : Nat} (hn : ¬ n < 0) (hN : n.toNatClampNeg = N') (hbytes : N' * 4 ≤ 536870912) (hcells : cells + 1 ≤ R.cells) (hslots : slots + N' ≤ R.slots) (hdg : decode cc pc = .ok (.anewarray index, 3))
    (kk : ∀ (q : Nat) (H1 : Heap), va_P D vwCl (ws ++ [(q, .inl (c t0, N', .inr (.inr (.inr (.inr (fun _ => none))))))]) H1 → va_D A (ws ++ [(q, .inl (c t0, N', .inr (.inr (.inr (.inr (fun _ => none))))))]) → va_S A H0 H1 locs →
      W p l e R s m args below meth cd H1 locs (cells + 1) (slots + N') Q (F0 m (pc + 3) ls (.ref q :: rest))) : W p l e R s m args below meth cd H locs cells slots Q (F0 m pc ls (.int n :: rest)) := by
  refine va_newq hexec hb hown hclink hover hK hP hD hS hA hn hN hbytes hcells hslots hdg (fun q cA H1 hK1 hP1 hD1 hS1 => ?_)
  have e : cA = c t0 := one_clsO (hK.2 t0 _ ht0).2 (hK1.2 (kT c).length (cA, .object C) (by simp)).2
  subst e
  exact kk q H1 hP1 hD1 hS1
end BC
