
theorem va_P.mem {D : va_G} {cl : List vw_C} {ws ws' : va_W} {H : Heap} (h : va_P D cl ws H) (hs : ∀ q ∈ ws', q ∈ ws) : va_P D cl ws' H := by
  intro k q hk
  obtain ⟨i, hi⟩ := List.mem_iff_getElem?.mp (hs q (List.mem_of_getElem? hk))
  exact h i q hi
theorem va_P.perm {D : va_G} {cl : List vw_C} {ws ws' : va_W} {H : Heap} (h : va_P D cl ws H) (hp : ws.Perm ws') : va_P D cl ws' H := h.mem (fun _ hq => hp.mem_iff.mpr hq)
theorem va_D.pw {A : Nat → Prop} {ws : va_W} (h : va_D A ws) : ws.Pairwise (fun p q => p.1 ≠ q.1) := by
  rw [List.pairwise_iff_getElem]
  intro i j hi hj hij e
  have := h.1 i j ws[i] ws[j] (List.getElem?_eq_getElem hi) (List.getElem?_eq_getElem hj) e
  omega
theorem va_D.of {A : Nat → Prop} {ws : va_W} (h : ws.Pairwise (fun p q => p.1 ≠ q.1)) (hA : ∀ q ∈ ws, A q.1) : va_D A ws := by
  refine ⟨fun i j p q hi hj e => ?_, fun k q hk => hA q (List.mem_of_getElem? hk)⟩
  rw [List.pairwise_iff_getElem] at h
  obtain ⟨hi1, hi2⟩ := List.getElem?_eq_some_iff.mp hi
  obtain ⟨hj1, hj2⟩ := List.getElem?_eq_some_iff.mp hj
  rcases Nat.lt_trichotomy i j with c | c | c
  · exact absurd (by rw [hi2, hj2]; exact e) (h i j hi1 hj1 c)
  · exact c
  · exact absurd (by rw [hi2, hj2]; exact e.symm) (h j i hj1 hi1 c)
theorem va_D.all {A : Nat → Prop} {ws : va_W} (h : va_D A ws) : ∀ q ∈ ws, A q.1 := fun q hq => by
  obtain ⟨i, hi⟩ := List.mem_iff_getElem?.mp hq
  exact h.2 i q hi
theorem va_D.perm {A : Nat → Prop} {ws ws' : va_W} (h : va_D A ws) (hp : ws.Perm ws') : va_D A ws' := va_D.of (hp.pairwise h.pw (fun e q => e q.symm)) (fun q hq => h.all q (hp.mem_iff.mpr hq))
theorem va_nd_range : ∀ (m n : Nat), va_nd (List.range' n m) = true
  | 0, _ => rfl
  | m + 1, n => by
    rw [List.range'_succ]
    show (decide (n ∉ List.range' (n + 1) m) && va_nd (List.range' (n + 1) m)) = true
    rw [va_nd_range m (n + 1), Bool.and_true]
    exact decide_eq_true (by rw [List.mem_range'_1]; omega)
theorem va_nd_app {n m : Nat} : ∀ {l : List Nat}, va_nd l = true → (∀ i ∈ l, i < n) → va_nd (l ++ List.range' n m) = true
  | [], _, _ => va_nd_range m n
  | a :: l, h, hl => by
    have h : (decide (a ∉ l) && va_nd l) = true := h
    rw [Bool.and_eq_true] at h
    show (decide (a ∉ l ++ List.range' n m) && va_nd (l ++ List.range' n m)) = true
    rw [va_nd_app h.2 (fun i hi => hl i (List.mem_cons_of_mem _ hi)), Bool.and_true]
    refine decide_eq_true (fun q => ?_)
    rcases List.mem_append.mp q with q | q
    · exact of_decide_eq_true h.1 q
    · rw [List.mem_range'_1] at q
      have := hl a List.mem_cons_self
      omega
theorem is_lt {we wr : va_W} {isR : List Nat} (hR : isR.map (fun i => we[i]?) = wr.map some) : ∀ i ∈ isR, i < we.length := fun i hi => by
  have h1 : we[i]? ∈ wr.map some := by rw [← hR]; exact List.mem_map.mpr ⟨i, hi, rfl⟩
  obtain ⟨q, -, h2⟩ := List.mem_map.mp h1
  exact (List.getElem?_eq_some_iff.mp h2.symm).1
theorem is_app {we wr tl : va_W} {isR : List Nat} (hR : isR.map (fun i => we[i]?) = wr.map some) : isR.map (fun i => (we ++ tl)[i]?) = wr.map some := by
  rw [← hR]
  exact List.map_congr_left (fun i hi => List.getElem?_append_left (is_lt hR i hi))
theorem is_tail {we tl : va_W} : (List.range' we.length tl.length).map (fun i => (we ++ tl)[i]?) = tl.map some := by
  apply List.ext_getElem?
  intro k
  rw [List.getElem?_map, List.getElem?_map]
  by_cases h : k < tl.length
  · rw [List.getElem?_range' h, List.getElem?_eq_getElem h]
    show some (we ++ tl)[we.length + 1 * k]? = some (some tl[k])
    rw [List.getElem?_append_right (by omega), show we.length + 1 * k - we.length = k by omega, List.getElem?_eq_getElem h]
  · rw [List.getElem?_eq_none (by rw [List.length_range']; omega), List.getElem?_eq_none (by omega)]
    rfl
def JnT (D : va_G) (A : Nat → Prop) (we wc tl : va_W) (isC : List Nat) (sz : Nat) (t : State) (H1 : Heap) : Prop := ∀ {wr w1 : va_W} (isR : List Nat), isR.map (fun i => we[i]?) = wr.map some → va_nd isR = true → (∀ i ∈ isR, i ∉ isC) → va_P D vwCl w1 t.heap → va_D (va_A wc sz) w1 → va_P D vwCl (wr ++ w1 ++ tl) H1 ∧ va_D A (wr ++ w1 ++ tl)
section TL
variable {p : Program} {l : Launch} {e : Env} {R : Room} {s : State} {m : MethodId} {args : Array Value} {below : List Frame} {meth : Method} {cd : Code} {H : Heap} {locs : List Loc} {cells slots : Nat} {Q : State → Prop}
variable {pc : Nat} {ls : Array Slot} {rest st0 : List Value} {A : Nat → Prop} {mc ms : Nat} {D : va_G} {wc we tl : va_W} {H0 : Heap} {a : Array Value}
theorem JnT_of {t : State} {H1 : Heap} (hP : va_P D vwCl (we ++ tl) H) (hD : va_D A (we ++ tl)) (isC : List Nat) (hC : isC.map (fun i => we[i]?) = wc.map some) (hk : ∀ q : Nat, q < H.size → ¬ va_A wc H.size q → H1[q]? = H[q]?) (hF : ∀ q, va_A wc H.size q → A q) (ht : t.heap = H1) : JnT D A we wc tl isC H.size t H1 := by
  intro wr w1 isR hR hn hdis hP1 hD1
  rw [ht] at hP1
  have hlt := is_lt hR
  have hR' : (isR ++ List.range' we.length tl.length).map (fun i => (we ++ tl)[i]?) = (wr ++ tl).map some := by
    rw [List.map_append, List.map_append, is_app hR, is_tail]
  have hdis' : ∀ i ∈ isR ++ List.range' we.length tl.length, i ∉ isC := fun i hi hc => by
    rcases List.mem_append.mp hi with q | q
    · exact hdis i q hc
    · rw [List.mem_range'_1] at q
      have := is_lt hC i hc
      omega
  obtain ⟨j1, j2⟩ := va_join hP hD isC (isR ++ List.range' we.length tl.length) (is_app hC) hR' (va_nd_app hn hlt) hdis' hk hF hP1 hD1
  have hp : (wr ++ tl ++ w1).Perm (wr ++ w1 ++ tl) := by
    rw [List.append_assoc, List.append_assoc]
    exact List.Perm.append_left wr List.perm_append_comm
  exact ⟨j1.perm hp, j2.perm hp⟩
theorem fIT {B : (Nat → Prop) → Int32 → State → Prop} (hr : va_Run p l e R s m args below meth cd H locs cells slots mc ms (F0 m pc ls st0) rest (QIx B (va_A wc H.size) a) (va_A wc H.size)) (hP : va_P D vwCl (we ++ tl) H) (hD : va_D A (we ++ tl)) (hS : va_S A H0 H locs) (hA : ∀ q, H0.size ≤ q → A q) (isC : List Nat) (hC : isC.map (fun i => we[i]?) = wc.map some)
    (kk : ∀ (r : Int32) (H1 : Heap) (locs1 : List Loc) (t : State), t.heap = H1 → B (va_A wc H.size) r t → JnT D A we wc tl isC H.size t H1 → va_S A H0 H1 locs1 → W p l e R s m args below meth cd H1 locs1 (cells + mc) (slots + ms) Q (F0 m (pc + 3) ls (.int r :: rest))) : W p l e R s m args below meth cd H locs cells slots Q (F0 m pc ls st0) := by
  have hF := va_free (wc := wc) hD hS hA isC (is_app hC)
  refine va_calli hr hS (fun q _ h => hF q h) hF (fun r u t H1 locs1 ht hvm hw hB hz hk hS1 => ?_)
  have hw : r = u := hw
  subst hw
  exact kk r H1 locs1 t ht hB (JnT_of hP hD isC hC hk hF ht) hS1
end TL
theorem subT {D : va_G} {cl : List vw_C} {we we' tl : va_W} {H : Heap} (h : va_P D cl (we ++ tl) H) (is : List Nat) (hs : is.map (fun i => we[i]?) = we'.map some) : va_P D cl (we' ++ tl) H := h.mem (fun q hq => by
  rcases List.mem_append.mp hq with q1 | q1
  · obtain ⟨k, hk⟩ := List.mem_iff_getElem?.mp q1
    have h1 : some q ∈ is.map (fun i => we[i]?) := by rw [hs]; exact List.mem_map.mpr ⟨q, q1, rfl⟩
    obtain ⟨i, -, h2⟩ := List.mem_map.mp h1
    exact List.mem_append_left _ (List.mem_of_getElem? h2)
  · exact List.mem_append_right _ q1)
theorem dsubT {A : Nat → Prop} {we we' tl : va_W} (h : va_D A (we ++ tl)) (is : List Nat) (hn : va_nd is = true) (hs : is.map (fun i => we[i]?) = we'.map some) : va_D A (we' ++ tl) := by
  refine h.sub (is ++ List.range' we.length tl.length) (va_nd_app hn (is_lt hs)) ?_
  rw [List.map_append, List.map_append, is_app hs, is_tail]
