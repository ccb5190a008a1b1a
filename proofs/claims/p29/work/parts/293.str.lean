-- words that 100 leaves out
theorem kw_566 : Cond.methodLink RJ0 1059 yJ3_checkIndex_8e157 ∈ TB := TB_mem 566 (by decide +kernel) (by decide +kernel)
theorem kw_567 : Cond.static yJ3_checkIndex_8e157 ∈ TB := TB_mem 567 (by decide +kernel) (by decide +kernel)
theorem kw_126 : Cond.initialized RJ3 ∈ TB := TB_mem 126 (by decide +kernel) (by decide +kernel)
theorem kw_568 : Cond.code yJ3_checkIndex_8e157 cJ3_checkIndex_8e157 3 (some .int) ∈ TB := TB_mem 568 (by decide +kernel) (by decide +kernel)
theorem kw_561 : Cond.methodLink RJ1 9 yJ0_checkIndex_df160 ∈ TB := TB_mem 561 (by decide +kernel) (by decide +kernel)
theorem kw_562 : Cond.static yJ0_checkIndex_df160 ∈ TB := TB_mem 562 (by decide +kernel) (by decide +kernel)
theorem kw_563 : Cond.code yJ0_checkIndex_df160 cJ0_checkIndex_df160 2 none ∈ TB := TB_mem 563 (by decide +kernel) (by decide +kernel)
theorem dJ3_checkIndex_8e157_0 : decode cJ3_checkIndex_8e157 0 = .ok (.iload_n 0, 1) := by decide +kernel
theorem dJ3_checkIndex_8e157_1 : decode cJ3_checkIndex_8e157 1 = .ok (.ifCond .lt 8, 3) := by decide +kernel
theorem dJ3_checkIndex_8e157_4 : decode cJ3_checkIndex_8e157 4 = .ok (.iload_n 0, 1) := by decide +kernel
theorem dJ3_checkIndex_8e157_5 : decode cJ3_checkIndex_8e157 5 = .ok (.iload_n 1, 1) := by decide +kernel
theorem dJ3_checkIndex_8e157_6 : decode cJ3_checkIndex_8e157 6 = .ok (.if_icmp .lt 10, 3) := by decide +kernel
theorem dJ3_checkIndex_8e157_9 : decode cJ3_checkIndex_8e157 9 = .ok (.aload_n 2, 1) := by decide +kernel
theorem dJ3_checkIndex_8e157_10 : decode cJ3_checkIndex_8e157 10 = .ok (.iload_n 0, 1) := by decide +kernel
theorem dJ3_checkIndex_8e157_11 : decode cJ3_checkIndex_8e157 11 = .ok (.iload_n 1, 1) := by decide +kernel
theorem dJ3_checkIndex_8e157_12 : decode cJ3_checkIndex_8e157 12 = .ok (.invokestatic 95, 3) := by decide +kernel
theorem dJ3_checkIndex_8e157_16 : decode cJ3_checkIndex_8e157 16 = .ok (.iload_n 0, 1) := by decide +kernel
theorem dJ3_checkIndex_8e157_17 : decode cJ3_checkIndex_8e157 17 = .ok (.ireturn, 1) := by decide +kernel
theorem dJ0_checkIndex_df160_0 : decode cJ0_checkIndex_df160 0 = .ok (.iload_n 0, 1) := by decide +kernel
theorem dJ0_checkIndex_df160_1 : decode cJ0_checkIndex_df160 1 = .ok (.iload_n 1, 1) := by decide +kernel
theorem dJ0_checkIndex_df160_2 : decode cJ0_checkIndex_df160 2 = .ok (.getstatic 1053, 3) := by decide +kernel
theorem dJ0_checkIndex_df160_5 : decode cJ0_checkIndex_df160 5 = .ok (.invokestatic 1059, 3) := by decide +kernel
theorem dJ0_checkIndex_df160_8 : decode cJ0_checkIndex_df160 8 = .ok (.pop, 1) := by decide +kernel
theorem dJ0_checkIndex_df160_9 : decode cJ0_checkIndex_df160 9 = .ok (.return_, 1) := by decide +kernel
def wordsTx : String := "way     minutes gone    last    to      far     out     there   goer    aim     clock   on      take    wait    if      and     or      not     "
/-- the text of the words, as the Statement gives it: a constant String, one byte a sign; beside it two statics that its methods read -/
def SX (kS vS : Nat) (fS : Nat → Int32) (A : Nat → Prop) (U : State) (H : Heap) : Prop :=
  vk_R "TurningRoads$Tape" 39 wordsTx kS U ∧ va_O "java/lang/String" kS A U H ∧ va_OF "java/lang/String" "coder" "B" (.int 0) kS A U H ∧ va_OF "java/lang/String" "value" "[B" (.ref vS) kS A U H ∧ va_T .byte vS 144 (fun j => .int (fS j)) A U H ∧
    va_Z "java/lang/String" "COMPACT_STRINGS" "Z" (.int 1) A U H ∧ va_Zq "jdk/internal/util/Preconditions" "SIOOBE_FORMATTER" "Ljava/util/function/BiFunction;" A U H
theorem SX.go {kS vS : Nat} {fS : Nat → Int32} {A B : Nat → Prop} {s U : State} {H : Heap} {locs : List Loc} (h : SX kS vS fS A s s.heap) (hS : va_S A s.heap H locs) (hF : ∀ q, B q → A q) (hU : U.heap = H) (hW : s.WarmedH U.vm) : SX kS vS fS B U U.heap := by
  obtain ⟨h1, h2, h3, h4, h5, h6, h7⟩ := h
  rw [hU]
  exact ⟨vk_R.warm hW h1, ((h2.kept hS.2.1).narrow hF).moved hW.alike, ((h3.kept hS.2.1).narrow hF).moved hW.alike, ((h4.kept hS.2.1).narrow hF).moved hW.alike, ((h5.kept hS.2.1).narrow hF).moved hW.alike, ((h6.kept hS.2.1).narrow hF).moved hW.alike, ((h7.kept hS.2.1).narrow hF).moved hW.alike⟩
theorem SX.call {kS vS : Nat} {fS : Nat → Int32} {A : Nat → Prop} {U : State} {g : JFrame} {mk : MethodId} {a : Array Value} (h : SX kS vS fS A U U.heap) : SX kS vS fS A (U.calling g mk a) (U.calling g mk a).heap := by
  obtain ⟨h1, h2, h3, h4, h5, h6, h7⟩ := h
  have r := Vm.Alike.refl U.vm
  exact ⟨vk_R.same (u := U) (U := U.calling g mk a) rfl h1, va_O.moved (u := U) (U := U.calling g mk a) r h2, va_OF.moved (u := U) (U := U.calling g mk a) r h3, va_OF.moved (u := U) (U := U.calling g mk a) r h4, va_T.moved (u := U) (U := U.calling g mk a) r h5, va_Z.moved (u := U) (U := U.calling g mk a) r h6, va_Zq.moved (u := U) (U := U.calling g mk a) r h7⟩
def PWs (D : va_G) (c : Nat → ClassId) (ws : va_W) (sz : Nat) (kS vS : Nat) (fS : Nat → Int32) : State → Prop := fun U => PW D c ws sz U ∧ SX kS vS fS (va_A ws sz) U U.heap
theorem PWs_blind {av : List Value} {D : va_G} {c : Nat → ClassId} {ws : va_W} {sz kS vS : Nat} {fS : Nat → Int32} : FrameBlind (va_Pc av (PWs D c ws sz kS vS fS)) := fun a U g mk q => by
  obtain ⟨q0, q1, q2⟩ := q
  exact ⟨q0, (PW_blind (av := av) a U g mk ⟨q0, q1⟩).2, SX.call q2⟩
theorem PWs_pre {s : State} {H : Heap} {D : va_G} {c : Nat → ClassId} {ws : va_W} {av : List Value} {A : Nat → Prop} {locs : List Loc} {kS vS : Nat} {fS : Nat → Int32} (hP : va_P D vwCl ws H) (hD : va_D A ws) (hK : va_K D vwCl (kT c) s) (hN : NN s) (hE : SX kS vS fS A s s.heap) (hS : va_S A s.heap H locs) (hF : ∀ q, va_A ws H.size q → A q) : ∀ U : State, U.heap = H → s.WarmedH U.vm → va_Pc av (PWs D c ws H.size kS vS fS) av.toArray U := fun U hU hW => ⟨rfl, (PW_pre (av := av) hP hD hK hN U hU hW).2, hE.go hS hF hU hW⟩
def St2s (l : Launch) (y : MethodName) (cc : ByteArray) (maxL : Nat) (ret : Option FieldType) (rm : Room) (D : va_G) (c : Nat → ClassId) (ws : va_W) (av : List Value) (Qc : (Nat → Prop) → Array Value → State → Outcome → State → Prop) (mc ms : Nat) (kS vS : Nat) (fS : Nat → Int32) : Prop :=
  ∀ (p : Program) (e : Env) (s : State) (m : MethodId) (below : List Frame) (meth : Method) (cd : Code) (A : Nat → Prop) (ls : Array Slot) (Q : State → Prop),
    p.tables.exec = Jvm.exec → cd.code = cc → meth.sig.returnType = ret → cd.maxLocals = maxL → (∀ w ∈ TB, w.before av.toArray s = true) → s.vm.findClass y.cls = some m.cls → meth.locks = false → meth.name = y.name →
    (∀ q : Nat, s.heap.size ≤ q → A q) → va_S A s.heap s.heap [] → va_K D vwCl (kT c) s → va_P D vwCl ws s.heap → va_D A ws → NN s → SX kS vS fS A s s.heap → lv_has ls maxL (lv_args 0 av) → (∀ t, MQ below (Qc A) av.toArray s mc ms A t → Q t) →
    W p l e rm s m av.toArray below meth cd s.heap [] 0 0 Q (F0 m 0 ls [])
theorem start2s {l : Launch} {y : MethodName} {cc : ByteArray} {maxL : Nat} {ret : Option FieldType} {rm : Room} {D : va_G} {c : Nat → ClassId} {ws : va_W} {sz : Nat} {av : List Value} {Qc : (Nat → Prop) → Array Value → State → Outcome → State → Prop} {mc ms : Nat} {kS vS : Nat} {fS : Nat → Int32} (hy : plainName y.cls = true) (hlen : (lg_sl av).length ≤ maxL) (body : St2s l y cc maxL ret rm D c ws av Qc mc ms kS vS fS) : Met l y (Cond.code y cc maxL ret :: TB) rm (va_Pc av (PWs D c ws sz kS vS fS)) (Qc (va_A ws sz)) mc ms (va_A ws sz) := by
  refine Met.ofW (cc := cc) (maxL := maxL) (ret := ret) hy rfl ?_
  intro p e s m args below meth cd s₁ B hml hv
  obtain ⟨rfl, ⟨hsz, hP, hK, hD0, hN⟩, hE⟩ := hv
  subst hsz
  have hts : ∀ w ∈ TB, w.before av.toArray s = true := fun w h => atoms_spec (ws := Cond.code y cc maxL ret :: TB) B.pre w (List.mem_cons_of_mem _ h)
  rw [lg_entry_eq]
  exact body p e s m below meth cd (va_A ws s.heap.size) _ _ B.exec B.bytes B.returns hml hts (findClass_of_methodNamed B.named) B.notSynchronized (name_of_methodNamed B.named B.method).1 (fun q h => Or.inr h) va_S.rf hK hP hD0.self hN hE (lv_entry av hlen) (fun _ h => h)
section SC
variable {p : Program} {l : Launch} {e : Env} {R : Room} {s : State} {m : MethodId} {args : Array Value} {below : List Frame} {meth : Method} {cd : Code} {H : Heap} {locs : List Loc} {cells slots : Nat} {Q : State → Prop}
variable {cc bytes : ByteArray} {pc : Nat} {ls : Array Slot} {rest st0 As : List Value} {A : Nat → Prop} {mc ms maxL nL n index ci N b : Nat} {y : MethodName} {ret : Option FieldType} {rm : Room} {D : va_G} {c : Nat → ClassId} {wc ws : va_W} {own C : String} {T : u_T} {fs : List Value} {Qc : Array Value → State → Outcome → State → Prop} {free : Addr → Prop} {kS vS : Nat} {fS : Nat → Int32}
theorem run_Vs (S : CallFix p m cd cc nL s args TB own) (hM : Met l y (Cond.code y bytes maxL ret :: TB) rm (va_Pc (.ref b :: As) (PWs D c wc H.size kS vS fS)) Qc mc ms free) (hP : va_P D vwCl wc H) (hD : va_D A wc) (hK : va_K D vwCl (kT c) s) (hN : NN s) (hE : SX kS vS fS A s s.heap) (hS : va_S A s.heap H locs) (hA : ∀ q, s.heap.size ≤ q → A q) (hrc : rm.cells = mc) (hrs : rm.slots = ms)
    (k1 : Cond.methodLink own index y ∈ TB) (k2 : Cond.instanceMethod y ∈ TB) (k3 : Cond.selects C y y ∈ TB) (k4 : Cond.initialized C ∈ TB) (k5 : Cond.code y bytes maxL ret ∈ TB)
    (hd : y.cls = C ∧ y.cls ≠ "java/lang/invoke/MethodHandle" ∧ y.cls ≠ "java/lang/invoke/VarHandle" ∧ (parseMethodDescriptor y.desc).map (fun d => d.parameters.length) = some n) (hR : rm.frames + 1 ≤ R.frames ∧ 8 + (maxL + 11) + rm.locals ≤ R.locals)
    (hc : vwCl[ci]? = some (C, T, N)) (he : wc[0]? = some (b, .inr (ci, fs))) (hn : As.length = n) (hsz : ls.size = nL) (hst : st0 = As.reverse ++ .ref b :: rest) (hW : (rest.map fun v => v.category).sum ≤ 8) (hdg : decode cc pc = .ok (.invokevirtual index, 3)) (hf : cells + mc ≤ R.cells ∧ slots + ms ≤ R.slots) :
    va_Run p l e R s m args below meth cd H locs cells slots mc ms (F0 m pc ls st0) rest (Qc (Value.ref b :: As).toArray) free := by
  obtain ⟨hdC, hd'⟩ := hd
  subst hdC
  have hts := S.2.2.2.2
  exact va_runV (bytes := bytes) (maxL := maxL) (ret := ret) (C := y.cls) (n := n) (index := index) S hM ⟨callB_of n hts (TB_cons k5) rfl hrc hrs (hts _ k4) (hts _ k1) hd' hR, hts _ k2, hts _ k3⟩ ⟨PWs_blind, va_recv hK hP hc he, PWs_pre hP hD hK hN hE hS (fun q h => h.elim (fun ⟨k, e, h⟩ => hD.2 k (q, e) h) (fun h => hA q (Nat.le_trans hS.1 h)))⟩ rfl hn hsz hst (lv_room hW) hdg hf
/-- the same, of the text itself: its class is String -/
theorem run_Vt (S : CallFix p m cd cc nL s args TB own) (hM : Met l y (Cond.code y bytes maxL ret :: TB) rm (va_Pc (.ref kS :: As) (PWs D c [] H.size kS vS fS)) Qc mc ms free) (hK : va_K D vwCl (kT c) s) (hN : NN s) (hE : SX kS vS fS A s s.heap) (hS : va_S A s.heap H locs) (hA : ∀ q, s.heap.size ≤ q → A q) (hrc : rm.cells = mc) (hrs : rm.slots = ms)
    (k1 : Cond.methodLink own index y ∈ TB) (k2 : Cond.instanceMethod y ∈ TB) (k3 : Cond.selects "java/lang/String" y y ∈ TB) (k4 : Cond.initialized "java/lang/String" ∈ TB) (k5 : Cond.code y bytes maxL ret ∈ TB)
    (hd : y.cls = "java/lang/String" ∧ (parseMethodDescriptor y.desc).map (fun d => d.parameters.length) = some n) (hR : rm.frames + 1 ≤ R.frames ∧ 8 + (maxL + 11) + rm.locals ≤ R.locals)
    (hn : As.length = n) (hsz : ls.size = nL) (hst : st0 = As.reverse ++ .ref kS :: rest) (hW : (rest.map fun v => v.category).sum ≤ 8) (hdg : decode cc pc = .ok (.invokevirtual index, 3)) (hf : cells + mc ≤ R.cells ∧ slots + ms ≤ R.slots) :
    va_Run p l e R s m args below meth cd H locs cells slots mc ms (F0 m pc ls st0) rest (Qc (Value.ref kS :: As).toArray) free := by
  obtain ⟨hdC, hd'⟩ := hd
  have hts := S.2.2.2.2
  have hr : ∃ cell : Cell, H[kS]? = some cell ∧ cell.vm.isStatics = false ∧ s.vm.findClass "java/lang/String" = some cell.cls := by
    obtain ⟨cell, h1, h2, h3, -⟩ := hE.2.1.kept hS.2.1
    exact ⟨cell, h1, h2, h3⟩
  exact va_runV (bytes := bytes) (maxL := maxL) (ret := ret) (C := "java/lang/String") (n := n) (index := index) S hM ⟨callB_of n hts (TB_cons k5) rfl hrc hrs (by rw [hdC]; exact hts _ k4) (hts _ k1) ⟨by rw [hdC]; decide, by rw [hdC]; decide, hd'⟩ hR, hts _ k2, hts _ k3⟩ ⟨PWs_blind, hr, PWs_pre (fun k q h => by simp at h) (⟨fun i j p q h => by simp at h, fun k q h => by simp at h⟩ : va_D A []) hK hN hE hS (fun q h => h.elim (fun ⟨k, e, h⟩ => by simp at h) (fun h => hA q (Nat.le_trans hS.1 h)))⟩ rfl hn hsz hst (lv_room hW) hdg hf
theorem run_Ss (S : CallFix p m cd cc nL s args TB own) (hM : Met l y (Cond.code y bytes maxL ret :: TB) rm (va_Pc As (PWs D c wc H.size kS vS fS)) Qc mc ms free) (hP : va_P D vwCl wc H) (hD : va_D A wc) (hK : va_K D vwCl (kT c) s) (hN : NN s) (hE : SX kS vS fS A s s.heap) (hS : va_S A s.heap H locs) (hA : ∀ q, s.heap.size ≤ q → A q) (hrc : rm.cells = mc) (hrs : rm.slots = ms)
    (k1 : Cond.methodLink own index y ∈ TB) (k2 : Cond.static y ∈ TB) (k4 : Cond.initialized y.cls ∈ TB) (k5 : Cond.code y bytes maxL ret ∈ TB)
    (hd : y.cls ≠ "java/lang/invoke/MethodHandle" ∧ y.cls ≠ "java/lang/invoke/VarHandle" ∧ (parseMethodDescriptor y.desc).map (fun d => d.parameters.length) = some n) (hR : rm.frames + 1 ≤ R.frames ∧ 8 + (maxL + 11) + rm.locals ≤ R.locals)
    (hn : As.length = n) (hsz : ls.size = nL) (hst : st0 = As.reverse ++ rest) (hW : (rest.map fun v => v.category).sum ≤ 8) (hdg : decode cc pc = .ok (.invokestatic index, 3)) (hf : cells + mc ≤ R.cells ∧ slots + ms ≤ R.slots) :
    va_Run p l e R s m args below meth cd H locs cells slots mc ms (F0 m pc ls st0) rest (Qc As.toArray) free := by
  have hts := S.2.2.2.2
  exact va_runS (bytes := bytes) (maxL := maxL) (ret := ret) (n := n) (index := index) S hM ⟨callB_of n hts (TB_cons k5) rfl hrc hrs (hts _ k4) (hts _ k1) hd hR, hts _ k2⟩ ⟨PWs_blind, PWs_pre hP hD hK hN hE hS (fun q h => h.elim (fun ⟨k, e, h⟩ => hD.2 k (q, e) h) (fun h => hA q (Nat.le_trans hS.1 h)))⟩ rfl hn hsz hst (lv_room hW) hdg hf
theorem rC {k : Int32} {B : (Nat → Prop) → Int32 → State → Prop} (hQ : ∀ t, MQ below (QIx B A) args s mc ms A t → Q t) (hx : p.tables.exec = Jvm.exec) (hb : cd.code = cc) (hr : meth.sig.returnType = some .char) (hlocks : meth.locks = false) (hn : narrow .char (.int k) = .int k) (hS : va_S A s.heap H locs) (h1 : cells ≤ mc) (h2 : slots ≤ ms) (hdg : decode cc pc = .ok (.ireturn, 1)) (hB : ∀ t : State, t.heap = H → B A k t) : W p l e R s m args below meth cd H locs cells slots Q (F0 m pc ls [.int k]) := rI hQ hx hb hr hlocks hn hS h1 h2 hdg hB
end SC

set_option maxHeartbeats 4000000 in
set_option maxRecDepth 100000 in
theorem m_cI3 (l : Launch) (D : va_G) (c : Nat → ClassId) (sz : Nat) (i n : Int32) (u : Value) (hu : u = .null ∨ ∃ t, u = .ref t) (g0 : 0 ≤ i.toInt) (g1 : i.toInt < n.toInt) : Met l yJ3_checkIndex_8e157 (Cond.code yJ3_checkIndex_8e157 cJ3_checkIndex_8e157 3 (some .int) :: TB) ({ frames := 0, cells := 0, slots := 0, locals := 0 } : Room) (va_Pc [.int i, .int n, u] (PW D c [] sz)) ((QIx (fun A r t => va_P D vwCl [] t.heap ∧ va_D A [])) (va_A [] sz)) 0 0 (va_A [] sz) := by
  rcases hu with rfl | ⟨t, rfl⟩
  · refine start2 (by decide +kernel) (Nat.le_of_ble_eq_true rfl) ?_
    intro p e s m below meth cd A ls Q hx hb hr hml hts hown hlocks hin hA hS hK hP hD hN hl hQ
    have hl : lv_has ls 3 [(0, .int i), (1, .int n), (2, .null)] := hl
    have hP : va_P D vwCl [] s.heap := hP
    refine lv_iload_n hx hb dJ3_checkIndex_8e157_0 rfl (lv_at hl 0 rfl) ?_
    refine B_if_lt (tgt := 9) (X := i.toInt) hx hb dJ3_checkIndex_8e157_1 (by decide) rfl (fun hc => absurd hc (by omega)) (fun _ => ?_)
    refine lv_iload_n hx hb dJ3_checkIndex_8e157_4 rfl (lv_at hl 0 rfl) ?_
    refine lv_iload_n hx hb dJ3_checkIndex_8e157_5 rfl (lv_at hl 1 rfl) ?_
    refine B_icmp_lt (tgt := 16) (X := i.toInt) (Y := n.toInt) hx hb dJ3_checkIndex_8e157_6 (by decide) rfl rfl (fun _ => ?_) (fun hc => absurd hc (by omega))
    refine lv_iload_n hx hb dJ3_checkIndex_8e157_16 rfl (lv_at hl 0 rfl) ?_
    exact rI hQ hx hb hr hlocks rfl hS (Nat.le_of_ble_eq_true rfl) (Nat.le_of_ble_eq_true rfl) dJ3_checkIndex_8e157_17 (fun t ht => ⟨by rw [ht]; exact hP, hD⟩)
  · refine start2 (by decide +kernel) (Nat.le_of_ble_eq_true rfl) ?_
    intro p e s m below meth cd A ls Q hx hb hr hml hts hown hlocks hin hA hS hK hP hD hN hl hQ
    have hl : lv_has ls 3 [(0, .int i), (1, .int n), (2, .ref t)] := hl
    have hP : va_P D vwCl [] s.heap := hP
    refine lv_iload_n hx hb dJ3_checkIndex_8e157_0 rfl (lv_at hl 0 rfl) ?_
    refine B_if_lt (tgt := 9) (X := i.toInt) hx hb dJ3_checkIndex_8e157_1 (by decide) rfl (fun hc => absurd hc (by omega)) (fun _ => ?_)
    refine lv_iload_n hx hb dJ3_checkIndex_8e157_4 rfl (lv_at hl 0 rfl) ?_
    refine lv_iload_n hx hb dJ3_checkIndex_8e157_5 rfl (lv_at hl 1 rfl) ?_
    refine B_icmp_lt (tgt := 16) (X := i.toInt) (Y := n.toInt) hx hb dJ3_checkIndex_8e157_6 (by decide) rfl rfl (fun _ => ?_) (fun hc => absurd hc (by omega))
    refine lv_iload_n hx hb dJ3_checkIndex_8e157_16 rfl (lv_at hl 0 rfl) ?_
    exact rI hQ hx hb hr hlocks rfl hS (Nat.le_of_ble_eq_true rfl) (Nat.le_of_ble_eq_true rfl) dJ3_checkIndex_8e157_17 (fun t ht => ⟨by rw [ht]; exact hP, hD⟩)
set_option maxHeartbeats 4000000 in
set_option maxRecDepth 100000 in
theorem m_cI0 (l : Launch) (D : va_G) (c : Nat → ClassId) (sz : Nat) (kS vS : Nat) (fS : Nat → Int32) (i n : Int32) (g0 : 0 ≤ i.toInt) (g1 : i.toInt < n.toInt) : Met l yJ0_checkIndex_df160 (Cond.code yJ0_checkIndex_df160 cJ0_checkIndex_df160 2 none :: TB) ({ frames := 1, cells := 0, slots := 0, locals := 22 } : Room) (va_Pc [.int i, .int n] (PWs D c [] sz kS vS fS)) ((QV (fun A t => va_P D vwCl [] t.heap ∧ va_D A [])) (va_A [] sz)) 0 0 (va_A [] sz) := by
  refine start2s (by decide +kernel) (Nat.le_of_ble_eq_true rfl) ?_
  intro p e s m below meth cd A ls Q hx hb hr hml hts hown hlocks hin hA hS hK hP hD hN hE hl hQ
  have hown : s.vm.findClass RJ0 = some m.cls := hown
  have hl : lv_has ls 2 [(0, .int i), (1, .int n)] := hl
  have hP : va_P D vwCl [] s.heap := hP
  have hgo : ∀ u : Value, (u = .null ∨ ∃ t, u = .ref t) → W p l e ({ frames := 1, cells := 0, slots := 0, locals := 22 } : Room) s m [.int i, .int n].toArray below meth cd s.heap [] 0 0 Q (F0 m 5 ls [u, .int n, .int i]) := by
    intro u hu
    have hcat : ∀ st : List Value, True := fun _ => trivial
    refine fI (run_S (n := 3) (As := [.int i, .int n, u]) (rest := []) ⟨hx, hb, hml, hown, hts⟩ (m_cI3 l D c s.heap.size i n u hu g0 g1) (hP.sub [] rfl) (hD.sub [] (by decide) rfl) hK hN rfl rfl kw_566 kw_567 kw_126 kw_568 (by decide +kernel) ⟨(Nat.le_of_ble_eq_true rfl), (Nat.le_of_ble_eq_true rfl)⟩ rfl hl.1 rfl (Nat.le_of_ble_eq_true rfl) dJ0_checkIndex_df160_5 ⟨(Nat.le_of_ble_eq_true rfl), (Nat.le_of_ble_eq_true rfl)⟩) hP hD hS hA [] rfl (fun r H locs t hB hj hS => ?_)
    obtain ⟨hP1, hD1⟩ := hB
    obtain ⟨hP, hD⟩ := hj (wr := []) (w1 := []) [] rfl (by decide) (by decide) hP1 hD1
    have hP : va_P D vwCl [] H := hP
    have hD : va_D A [] := hD
    refine lv_pop hx hb dJ0_checkIndex_df160_8 rfl ?_
    exact rV hQ hx hb hr hlocks hS (Nat.le_of_ble_eq_true rfl) (Nat.le_of_ble_eq_true rfl) dJ0_checkIndex_df160_9 (fun t ht => ⟨by rw [ht]; exact hP, hD⟩)
  refine lv_iload_n hx hb dJ0_checkIndex_df160_0 rfl (lv_at hl 0 rfl) ?_
  refine lv_iload_n hx hb dJ0_checkIndex_df160_1 rfl (lv_at hl 1 rfl) ?_
  rcases hE.2.2.2.2.2.2 with hZ | ⟨t, hZ⟩
  · exact va_gets hx hb hZ hS hown (hts _ kw_564) (fun _ h9 => h9) dJ0_checkIndex_df160_2 (hgo _ (Or.inl rfl))
  · exact va_gets hx hb hZ hS hown (hts _ kw_564) (fun _ h9 => h9) dJ0_checkIndex_df160_2 (hgo _ (Or.inr ⟨t, rfl⟩))
set_option maxHeartbeats 4000000 in
set_option maxRecDepth 100000 in
theorem m_ch1 (l : Launch) (D : va_G) (c : Nat → ClassId) (sz : Nat) (kS vS : Nat) (fS : Nat → Int32) (i : Int32) (g0 : 0 ≤ i.toInt) (g1 : i.toInt < 144) : Met l yJ1_charAt_3b067 (Cond.code yJ1_charAt_3b067 cJ1_charAt_3b067 2 (some .char) :: TB) ({ frames := 2, cells := 0, slots := 0, locals := 43 } : Room) (va_Pc [.ref vS, .int i] (PWs D c [] sz kS vS fS)) ((QIx (fun A r t => narrow .char (.int r) = .int r ∧ va_P D vwCl [] t.heap ∧ va_D A [])) (va_A [] sz)) 0 0 (va_A [] sz) := by
  refine start2s (by decide +kernel) (Nat.le_of_ble_eq_true rfl) ?_
  intro p e s m below meth cd A ls Q hx hb hr hml hts hown hlocks hin hA hS hK hP hD hN hE hl hQ
  have hown : s.vm.findClass RJ1 = some m.cls := hown
  have hl : lv_has ls 2 [(0, .ref vS), (1, .int i)] := hl
  have hP : va_P D vwCl [] s.heap := hP
  have h144 : (144 : Int32).toInt = 144 := by decide
  refine lv_iload_n hx hb dJ1_charAt_3b067_0 rfl (lv_at hl 1 rfl) ?_
  refine lv_aload_n hx hb dJ1_charAt_3b067_1 rfl (lv_at hl 0 rfl) ?_
  refine va_tlen (v := 144) hx hb hE.2.2.2.2.1 hS rfl dJ1_charAt_3b067_2 ?_
  refine fin_v (run_Ss (n := 2) (As := [.int i, .int 144]) (rest := []) ⟨hx, hb, hml, hown, hts⟩ (m_cI0 l D c s.heap.size kS vS fS i 144 g0 (by omega)) (hP.sub [] rfl) (hD.sub [] (by decide) rfl) hK hN hE hS hA rfl rfl kw_561 kw_562 kw_124 kw_563 (by decide +kernel) ⟨(Nat.le_of_ble_eq_true rfl), (Nat.le_of_ble_eq_true rfl)⟩ rfl hl.1 rfl (Nat.le_of_ble_eq_true rfl) dJ1_charAt_3b067_3 ⟨(Nat.le_of_ble_eq_true rfl), (Nat.le_of_ble_eq_true rfl)⟩) hP hD hS hA [] rfl (fun H locs t hB hj hS => ?_)
  obtain ⟨hP1, hD1⟩ := hB
  obtain ⟨hP, hD⟩ := hj (wr := []) (w1 := []) [] rfl (by decide) (by decide) hP1 hD1
  have hP : va_P D vwCl [] H := hP
  have hD : va_D A [] := hD
  refine lv_aload_n hx hb dJ1_charAt_3b067_6 rfl (lv_at hl 0 rfl) ?_
  refine lv_iload_n hx hb dJ1_charAt_3b067_7 rfl (lv_at hl 1 rfl) ?_
  refine va_tb hx hb hE.2.2.2.2.1 hS (in_of (by omega) (by omega)) rfl dJ1_charAt_3b067_8 ?_
  refine lv_sipush (v := 255) hx hb dJ1_charAt_3b067_9 (by decide) ?_
  refine lv_iand hx hb dJ1_charAt_3b067_12 ?_
  refine lv_i2c hx hb dJ1_charAt_3b067_13 rfl ?_
  exact rC hQ hx hb hr hlocks (pk_nc _) hS (Nat.le_of_ble_eq_true rfl) (Nat.le_of_ble_eq_true rfl) dJ1_charAt_3b067_14 (fun t ht => ⟨pk_nc _, by rw [ht]; exact hP, hD⟩)
set_option maxHeartbeats 4000000 in
set_option maxRecDepth 100000 in
theorem m_il (l : Launch) (D : va_G) (c : Nat → ClassId) (sz : Nat) (kS vS : Nat) (fS : Nat → Int32)  : Met l yJ0_isLatin1_aae02 (Cond.code yJ0_isLatin1_aae02 cJ0_isLatin1_aae02 1 (some .boolean) :: TB) ({ frames := 0, cells := 0, slots := 0, locals := 0 } : Room) (va_Pc [.ref kS] (PWs D c [] sz kS vS fS)) ((QIx (fun A r t => r = 1 ∧ va_P D vwCl [] t.heap ∧ va_D A [])) (va_A [] sz)) 0 0 (va_A [] sz) := by
  refine start2s (by decide +kernel) (Nat.le_of_ble_eq_true rfl) ?_
  intro p e s m below meth cd A ls Q hx hb hr hml hts hown hlocks hin hA hS hK hP hD hN hE hl hQ
  have hown : s.vm.findClass RJ0 = some m.cls := hown
  have hl : lv_has ls 1 [(0, .ref kS)] := hl
  have hP : va_P D vwCl [] s.heap := hP
  refine va_gets hx hb hE.2.2.2.2.2.1 hS hown (hts _ kw_556) (fun _ h9 => h9) dJ0_isLatin1_aae02_0 ?_
  refine B_if_eq (tgt := 17) (X := 1) hx hb dJ0_isLatin1_aae02_3 (by decide) (by decide) (fun hc => absurd hc (by decide)) (fun _ => ?_)
  refine lv_aload_n hx hb dJ0_isLatin1_aae02_6 rfl (lv_at hl 0 rfl) ?_
  refine vk_getf hx hb hE.2.2.1 hS hown (hts _ kw_1802) (fun _ h9 => h9) dJ0_isLatin1_aae02_7 ?_
  refine B_if_ne (tgt := 17) (X := 0) hx hb dJ0_isLatin1_aae02_10 (by decide) (by decide) (fun hc => absurd rfl hc) (fun _ => ?_)
  refine lv_iconst (v := 1) hx hb dJ0_isLatin1_aae02_13 (by decide) ?_
  refine lv_goto (tgt := 18) hx hb dJ0_isLatin1_aae02_14 (by decide) ?_
  exact rI hQ hx hb hr hlocks (by decide) hS (Nat.le_of_ble_eq_true rfl) (Nat.le_of_ble_eq_true rfl) dJ0_isLatin1_aae02_18 (fun t ht => ⟨rfl, by rw [ht]; exact hP, hD⟩)
set_option maxHeartbeats 4000000 in
set_option maxRecDepth 100000 in
theorem m_ch0 (l : Launch) (D : va_G) (c : Nat → ClassId) (sz : Nat) (kS vS : Nat) (fS : Nat → Int32) (i : Int32) (g0 : 0 ≤ i.toInt) (g1 : i.toInt < 144) : Met l yJ0_charAt_5068e (Cond.code yJ0_charAt_5068e cJ0_charAt_5068e 2 (some .char) :: TB) ({ frames := 3, cells := 0, slots := 0, locals := 64 } : Room) (va_Pc [.ref kS, .int i] (PWs D c [] sz kS vS fS)) ((QIx (fun A r t => va_P D vwCl [] t.heap ∧ va_D A [])) (va_A [] sz)) 0 0 (va_A [] sz) := by
  refine start2s (by decide +kernel) (Nat.le_of_ble_eq_true rfl) ?_
  intro p e s m below meth cd A ls Q hx hb hr hml hts hown hlocks hin hA hS hK hP hD hN hE hl hQ
  have hown : s.vm.findClass RJ0 = some m.cls := hown
  have hl : lv_has ls 2 [(0, .ref kS), (1, .int i)] := hl
  have hP : va_P D vwCl [] s.heap := hP
  refine lv_aload_n hx hb dJ0_charAt_5068e_0 rfl (lv_at hl 0 rfl) ?_
  refine fI (run_Vt (n := 0) (As := []) (rest := []) ⟨hx, hb, hml, hown, hts⟩ (m_il l D c s.heap.size kS vS fS) hK hN hE hS hA rfl rfl kw_552 kw_553 kw_554 kw_124 kw_555 ⟨rfl, by decide +kernel⟩ ⟨(Nat.le_of_ble_eq_true rfl), (Nat.le_of_ble_eq_true rfl)⟩ rfl hl.1 rfl (Nat.le_of_ble_eq_true rfl) dJ0_charAt_5068e_1 ⟨(Nat.le_of_ble_eq_true rfl), (Nat.le_of_ble_eq_true rfl)⟩) hP hD hS hA [] rfl (fun r H locs t hB hj hS => ?_)
  obtain ⟨rfl, hP1, hD1⟩ := hB
  obtain ⟨hP, hD⟩ := hj (wr := []) (w1 := []) [] rfl (by decide) (by decide) hP1 hD1
  have hP : va_P D vwCl [] H := hP
  have hD : va_D A [] := hD
  refine B_if_eq (tgt := 16) (X := 1) hx hb dJ0_charAt_5068e_4 (by decide) (by decide) (fun hc => absurd hc (by decide)) (fun _ => ?_)
  refine lv_aload_n hx hb dJ0_charAt_5068e_7 rfl (lv_at hl 0 rfl) ?_
  refine vk_getf hx hb hE.2.2.2.1 hS hown (hts _ kw_1803) (fun _ h9 => h9) dJ0_charAt_5068e_8 ?_
  refine lv_iload_n hx hb dJ0_charAt_5068e_11 rfl (lv_at hl 1 rfl) ?_
  refine fI (run_Ss (n := 2) (As := [.ref vS, .int i]) (rest := []) ⟨hx, hb, hml, hown, hts⟩ (m_ch1 l D c H.size kS vS fS i g0 g1) (hP.sub [] rfl) (hD.sub [] (by decide) rfl) hK hN hE hS hA rfl rfl kw_558 kw_559 kw_125 kw_560 (by decide +kernel) ⟨(Nat.le_of_ble_eq_true rfl), (Nat.le_of_ble_eq_true rfl)⟩ rfl hl.1 rfl (Nat.le_of_ble_eq_true rfl) dJ0_charAt_5068e_12 ⟨(Nat.le_of_ble_eq_true rfl), (Nat.le_of_ble_eq_true rfl)⟩) hP hD hS hA [] rfl (fun r H locs t hB hj hS => ?_)
  obtain ⟨hnr, hP1, hD1⟩ := hB
  obtain ⟨hP, hD⟩ := hj (wr := []) (w1 := []) [] rfl (by decide) (by decide) hP1 hD1
  have hP : va_P D vwCl [] H := hP
  have hD : va_D A [] := hD
  exact rC hQ hx hb hr hlocks hnr hS (Nat.le_of_ble_eq_true rfl) (Nat.le_of_ble_eq_true rfl) dJ0_charAt_5068e_15 (fun t ht => ⟨by rw [ht]; exact hP, hD⟩)
