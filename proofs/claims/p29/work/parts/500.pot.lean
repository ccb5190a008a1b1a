
/-- the slots of all cells -/
def TS (H : Heap) : Nat := (H.toList.map (fun c => c.slots.size)).sum
theorem TS_eq {s t : State} {L : List Loc} {k n : Nat} (h : s.sameButNew t L k n) : TS t.heap = TS s.heap + ((t.heap.toList.drop s.heap.size).map (fun c => c.slots.size)).sum := by
  obtain ⟨_, h1, _, _, _, h6⟩ := h
  have hm : (t.heap.toList.take s.heap.size).map (fun c => c.slots.size) = s.heap.toList.map (fun c => c.slots.size) := by
    apply List.ext_getElem?
    intro i
    rw [List.getElem?_map, List.getElem?_map, List.getElem?_take]
    by_cases hi : i < s.heap.size
    · rw [if_pos hi]
      have hs : s.heap[i]? = some s.heap[i] := Array.getElem?_eq_getElem hi
      obtain ⟨c', hc', -, hz, -⟩ := h6 i s.heap[i] hs
      rw [Array.getElem?_toList, Array.getElem?_toList, hc', hs]
      simp [hz]
    · rw [if_neg hi, Array.getElem?_toList, Array.getElem?_eq_none (by omega)]
  unfold TS
  rw [← hm, ← List.sum_append_nat, ← List.map_append, List.take_append_drop]
section PT
variable {p : Program} {l : Launch} {e : Env} {R : Room} {s : State} {m : MethodId} {args : Array Value} {below : List Frame} {meth : Method} {cd : Code} {H : Heap} {locs : List Loc} {cells slots : Nat} {Q : State → Prop}
theorem W.ofTS {g : JFrame} (k : TS H ≤ TS s.heap + slots → H.size ≤ s.heap.size + cells → W p l e R s m args below meth cd H locs cells slots Q g) : W p l e R s m args below meth cd H locs cells slots Q g := by
  intro T hT X
  have h := X.same
  have e1 := TS_eq h
  have hh : (T.setVm s.vm).heap = H := hT
  rw [hh] at e1
  have h5 := h.2.2.2.2.1
  have h3 := h.2.2.1
  rw [hh] at h5 h3
  exact k (by omega) h3 T hT X
theorem W.tight {g : JFrame} {k n : Nat} (h1 : TS H ≤ TS s.heap + n) (h2 : H.size ≤ s.heap.size + k) (kk : W p l e R s m args below meth cd H locs k n Q g) : W p l e R s m args below meth cd H locs cells slots Q g := by
  intro T hT X
  have hh : (T.setVm s.vm).heap = H := hT
  have e1 := TS_eq X.same
  obtain ⟨a1, a2, a3, a4, a5, a6⟩ := X.same
  rw [hh] at e1
  exact kk T hT { X with same := ⟨a1, a2, by rw [hh]; exact h2, a4, by rw [hh]; omega, a6⟩ }
variable {pc : Nat} {ls : Array Slot} {rest : List Value}
theorem q_and2 {x y : Int32} {X Y : Int} (hX : x.toInt = X) (hY : y.toInt = Y) (h : 0 ≤ X) (h' : 0 ≤ Y) (k : ∀ z : Int32, z = x &&& y → 0 ≤ z.toInt ∧ z.toInt ≤ X ∧ z.toInt ≤ Y → W p l e R s m args below meth cd H locs cells slots Q (F0 m pc ls (.int z :: rest))) : W p l e R s m args below meth cd H locs cells slots Q (F0 m pc ls (.int (x &&& y) :: rest)) := by
  subst hX
  subst hY
  exact k _ rfl ⟨(and_nn h').1, (and_nn' h).2, (and_nn h').2⟩
end PT
def PWt (D : va_G) (c : Nat → ClassId) (ws : va_W) (sz ts : Nat) : State → Prop := fun U => PW D c ws sz U ∧ TS U.heap = ts
theorem PWt_blind {av : List Value} {D : va_G} {c : Nat → ClassId} {ws : va_W} {sz ts : Nat} : FrameBlind (va_Pc av (PWt D c ws sz ts)) := fun a U g mk q => by
  obtain ⟨q0, q1, q2⟩ := q
  exact ⟨q0, (PW_blind (av := av) a U g mk ⟨q0, q1⟩).2, q2⟩
theorem PWt_pre {s : State} {H : Heap} {D : va_G} {c : Nat → ClassId} {ws : va_W} {av : List Value} {A : Nat → Prop} (hP : va_P D vwCl ws H) (hD : va_D A ws) (hK : va_K D vwCl (kT c) s) (hN : NN s) : ∀ U : State, U.heap = H → s.WarmedH U.vm → va_Pc av (PWt D c ws H.size (TS H)) av.toArray U := fun U hU hW => ⟨rfl, (PW_pre (av := av) hP hD hK hN U hU hW).2, by rw [hU]⟩
def St2p (l : Launch) (y : MethodName) (cc : ByteArray) (maxL : Nat) (ret : Option FieldType) (rm : Room) (D : va_G) (c : Nat → ClassId) (ws : va_W) (av : List Value) (Qc : (Nat → Prop) → Array Value → State → Outcome → State → Prop) (mc ms : Nat) (sz ts : Nat) : Prop :=
  ∀ (p : Program) (e : Env) (s : State) (m : MethodId) (below : List Frame) (meth : Method) (cd : Code) (A : Nat → Prop) (ls : Array Slot) (Q : State → Prop),
    p.tables.exec = Jvm.exec → cd.code = cc → meth.sig.returnType = ret → cd.maxLocals = maxL → (∀ w ∈ TB, w.before av.toArray s = true) → s.vm.findClass y.cls = some m.cls → meth.locks = false → meth.name = y.name →
    (∀ q : Nat, s.heap.size ≤ q → A q) → va_S A s.heap s.heap [] → va_K D vwCl (kT c) s → va_P D vwCl ws s.heap → va_D A ws → NN s → s.heap.size = sz → TS s.heap = ts → lv_has ls maxL (lv_args 0 av) → (∀ t, MQ below (Qc A) av.toArray s mc ms A t → Q t) →
    W p l e rm s m av.toArray below meth cd s.heap [] 0 0 Q (F0 m 0 ls [])
theorem start2p {l : Launch} {y : MethodName} {cc : ByteArray} {maxL : Nat} {ret : Option FieldType} {rm : Room} {D : va_G} {c : Nat → ClassId} {ws : va_W} {sz ts : Nat} {av : List Value} {Qc : (Nat → Prop) → Array Value → State → Outcome → State → Prop} {mc ms : Nat} (hy : plainName y.cls = true) (hlen : (lg_sl av).length ≤ maxL) (body : St2p l y cc maxL ret rm D c ws av Qc mc ms sz ts) : Met l y (Cond.code y cc maxL ret :: TB) rm (va_Pc av (PWt D c ws sz ts)) (Qc (va_A ws sz)) mc ms (va_A ws sz) := by
  refine Met.ofW (cc := cc) (maxL := maxL) (ret := ret) hy rfl ?_
  intro p e s m args below meth cd s₁ B hml hv
  obtain ⟨rfl, ⟨hsz, hP, hK, hD0, hN⟩, hT⟩ := hv
  have hts : ∀ w ∈ TB, w.before av.toArray s = true := fun w h => atoms_spec (ws := Cond.code y cc maxL ret :: TB) B.pre w (List.mem_cons_of_mem _ h)
  rw [lg_entry_eq]
  have hA : ∀ q : Nat, s.heap.size ≤ q → va_A ws sz q := fun q h => Or.inr (by rw [← hsz]; exact h)
  have hD1 : va_D (va_A ws sz) ws := by rw [← hsz]; exact hD0.self
  exact body p e s m below meth cd (va_A ws sz) _ _ B.exec B.bytes B.returns hml hts (findClass_of_methodNamed B.named) B.notSynchronized (name_of_methodNamed B.named B.method).1 hA va_S.rf hK hP hD1 hN hsz hT (lv_entry av hlen) (fun _ h => h)
section PC
variable {p : Program} {l : Launch} {e : Env} {R : Room} {s : State} {m : MethodId} {args : Array Value} {below : List Frame} {meth : Method} {cd : Code} {H : Heap} {locs : List Loc} {cells slots : Nat} {Q : State → Prop}
variable {cc bytes : ByteArray} {pc : Nat} {ls : Array Slot} {rest st0 As : List Value} {A : Nat → Prop} {mc ms maxL nL n index ci N b : Nat} {y : MethodName} {ret : Option FieldType} {rm : Room} {D : va_G} {c : Nat → ClassId} {wc ws : va_W} {own host C : String} {T : u_T} {fs : List Value} {Qc : Array Value → State → Outcome → State → Prop} {free : Addr → Prop} {H0 : Heap} {a : Array Value}
theorem run_Vp (S : CallFix p m cd cc nL s args TB own) (hM : Met l y (Cond.code y bytes maxL ret :: TB) rm (va_Pc (.ref b :: As) (PWt D c wc H.size (TS H))) Qc mc ms free) (hP : va_P D vwCl wc H) (hD : va_D A wc) (hK : va_K D vwCl (kT c) s) (hN : NN s) (hrc : rm.cells = mc) (hrs : rm.slots = ms)
    (k1 : Cond.methodLink own index y ∈ TB) (k2 : Cond.instanceMethod y ∈ TB) (k3 : Cond.selects C y y ∈ TB) (k4 : Cond.initialized C ∈ TB) (k5 : Cond.code y bytes maxL ret ∈ TB)
    (hd : y.cls = C ∧ y.cls ≠ "java/lang/invoke/MethodHandle" ∧ y.cls ≠ "java/lang/invoke/VarHandle" ∧ (parseMethodDescriptor y.desc).map (fun d => d.parameters.length) = some n) (hR : rm.frames + 1 ≤ R.frames ∧ 8 + (maxL + 11) + rm.locals ≤ R.locals)
    (hc : vwCl[ci]? = some (C, T, N)) (he : wc[0]? = some (b, .inr (ci, fs))) (hn : As.length = n) (hsz : ls.size = nL) (hst : st0 = As.reverse ++ .ref b :: rest) (hW : (rest.map fun v => v.category).sum ≤ 8) (hdg : decode cc pc = .ok (.invokevirtual index, 3)) (hf : cells + mc ≤ R.cells ∧ slots + ms ≤ R.slots) :
    va_Run p l e R s m args below meth cd H locs cells slots mc ms (F0 m pc ls st0) rest (Qc (Value.ref b :: As).toArray) free := by
  obtain ⟨hdC, hd'⟩ := hd
  subst hdC
  have hts := S.2.2.2.2
  exact va_runV (bytes := bytes) (maxL := maxL) (ret := ret) (C := y.cls) (n := n) (index := index) S hM ⟨callB_of n hts (TB_cons k5) rfl hrc hrs (hts _ k4) (hts _ k1) hd' hR, hts _ k2, hts _ k3⟩ ⟨PWt_blind, va_recv hK hP hc he, PWt_pre hP hD hK hN⟩ rfl hn hsz hst (lv_room hW) hdg hf
theorem fIp {B : (Nat → Prop) → Int32 → State → Prop} (hr : va_Run p l e R s m args below meth cd H locs cells slots mc ms (F0 m pc ls st0) rest (QIx B (va_A wc H.size) a) (va_A wc H.size)) (hP : va_P D vwCl ws H) (hD : va_D A ws) (hS : va_S A H0 H locs) (hA : ∀ q, H0.size ≤ q → A q) (isC : List Nat) (hC : isC.map (fun i => ws[i]?) = wc.map some)
    (kk : ∀ (r : Int32) (H1 : Heap) (locs1 : List Loc) (t : State), t.heap = H1 → B (va_A wc H.size) r t → Jn D A ws wc isC H.size t H1 → va_S A H0 H1 locs1 → W p l e R s m args below meth cd H1 locs1 (cells + mc) (slots + ms) Q (F0 m (pc + 3) ls (.int r :: rest))) : W p l e R s m args below meth cd H locs cells slots Q (F0 m pc ls st0) := by
  have hF := va_free (wc := wc) hD hS hA isC hC
  refine va_calli hr hS (fun q _ h => hF q h) hF (fun r u t H1 locs1 ht hvm hw hB hz hk hS1 => ?_)
  have hw : r = u := hw
  subst hw
  exact kk r H1 locs1 t ht hB (Jn_of hP hD isC hC hk hF ht) hS1
theorem fin_vp {B : (Nat → Prop) → State → Prop} (hr : va_Run p l e R s m args below meth cd H locs cells slots mc ms (F0 m pc ls st0) rest (QV B (va_A wc H.size) a) (va_A wc H.size)) (hP : va_P D vwCl ws H) (hD : va_D A ws) (hS : va_S A H0 H locs) (hA : ∀ q, H0.size ≤ q → A q) (isC : List Nat) (hC : isC.map (fun i => ws[i]?) = wc.map some)
    (kk : ∀ (H1 : Heap) (locs1 : List Loc) (t : State), t.heap = H1 → B (va_A wc H.size) t → Jn D A ws wc isC H.size t H1 → va_S A H0 H1 locs1 → W p l e R s m args below meth cd H1 locs1 (cells + mc) (slots + ms) Q (F0 m (pc + 3) ls rest)) : W p l e R s m args below meth cd H locs cells slots Q (F0 m pc ls st0) := by
  have hF := va_free (wc := wc) hD hS hA isC hC
  exact va_callv hr hS (fun q _ h => hF q h) hF (fun u t H1 locs1 ht hvm hw hB hz hk hS1 => kk H1 locs1 t ht hB (Jn_of hP hD isC hC hk hF ht) hS1)
end PC
