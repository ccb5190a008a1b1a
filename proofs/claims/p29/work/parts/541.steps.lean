set_option maxHeartbeats 4000000 in
set_option maxRecDepth 100000 in
theorem cs_way {p : Program} {l : Launch} {e : Env} {s : State} {m : MethodId} {b L : Nat} {xs : Nat → Int32} {below : List Frame} {meth : Method} {cd : Code} {H : Heap} {locs : List Loc} {Q : State → Prop} {ls : Array Slot} {A : Nat → Prop} {D : va_G} {c : Nat → ClassId} {kS vS : Nat} {fS : Nat → Int32} {h0 m0 k nm nq : Nat} {R : Int32 → (Nat → Option Nat) → (Nat → Int32) → (Nat → Int32) → (Nat → Int32) → (Nat → va_W) → Prop} (a1 : Int32) (a2 : Int32)  (C : CX p s m cd b L xs A D c kS vS fS) (hk : k ≤ 200) (hls : ls.size = 4) (hJ : LQ R D A s c h0 m0 nm nq H locs) (kk : ∀ (r : Int32) (H1 : Heap) (locs1 : List Loc) (nm' nq' : Nat), LQ R D A s c h0 m0 nm' nq' H1 locs1 → W p l e room_1 s m #[Value.ref b] below meth cd H1 locs1 (100 + 100 * (k + 1) + (nm' + nq' / 256)) (3160000 + 5000 * (k + 1) + (2 * nm' + 2 * nq')) Q (F0 m 302 ls (.int r :: []))) : W p l e room_1 s m #[Value.ref b] below meth cd H locs (100 + 100 * k + (nm + nq / 256)) (3160000 + 5000 * k + (2 * nm + 2 * nq)) Q (F0 m 299 ls (.int a2 :: .int a1 :: .ref h0 :: [])) := by
  obtain ⟨hx, hb, hml, hown, hts, hN, hK, hA, hE, hX, hbl, hbA⟩ := C
  obtain ⟨xv, rc, rf, imf, sf, ig, md, wx, wm, bk, hI, hM, hR, hQ, hP, hD, hS⟩ := hJ
  exact cl_X10_way a1 a2 hk hx hb hml hown hts hN hK hA hls hI hP hD hS (fun r H1 locs1 wx' h1 h2 h3 h4 => kk r H1 locs1 _ _ ⟨xv, rc, rf, imf, sf, ig, md, wx', wm, bk, h1, hM, hR, hQ, h2, h3, h4⟩)
set_option maxHeartbeats 4000000 in
set_option maxRecDepth 100000 in
theorem cs_goer {p : Program} {l : Launch} {e : Env} {s : State} {m : MethodId} {b L : Nat} {xs : Nat → Int32} {below : List Frame} {meth : Method} {cd : Code} {H : Heap} {locs : List Loc} {Q : State → Prop} {ls : Array Slot} {A : Nat → Prop} {D : va_G} {c : Nat → ClassId} {kS vS : Nat} {fS : Nat → Int32} {h0 m0 k nm nq : Nat} {R : Int32 → (Nat → Option Nat) → (Nat → Int32) → (Nat → Int32) → (Nat → Int32) → (Nat → va_W) → Prop} (a1 : Int32) (a2 : Int32)  (C : CX p s m cd b L xs A D c kS vS fS) (hk : k ≤ 200) (hls : ls.size = 4) (hJ : LQ R D A s c h0 m0 nm nq H locs) (kk : ∀ (r : Int32) (H1 : Heap) (locs1 : List Loc) (nm' nq' : Nat), LQ R D A s c h0 m0 nm' nq' H1 locs1 → W p l e room_1 s m #[Value.ref b] below meth cd H1 locs1 (100 + 100 * (k + 1) + (nm' + nq' / 256)) (3160000 + 5000 * (k + 1) + (2 * nm' + 2 * nq')) Q (F0 m 335 ls (.int r :: []))) : W p l e room_1 s m #[Value.ref b] below meth cd H locs (100 + 100 * k + (nm + nq / 256)) (3160000 + 5000 * k + (2 * nm + 2 * nq)) Q (F0 m 332 ls (.int a2 :: .int a1 :: .ref h0 :: [])) := by
  obtain ⟨hx, hb, hml, hown, hts, hN, hK, hA, hE, hX, hbl, hbA⟩ := C
  obtain ⟨xv, rc, rf, imf, sf, ig, md, wx, wm, bk, hI, hM, hR, hQ, hP, hD, hS⟩ := hJ
  exact cl_X10_goer a1 a2 hk hx hb hml hown hts hN hK hA hls hI hP hD hS (fun r H1 locs1 wx' h1 h2 h3 h4 => kk r H1 locs1 _ _ ⟨xv, rc, rf, imf, sf, ig, md, wx', wm, bk, h1, hM, hR, hQ, h2, h3, h4⟩)
set_option maxHeartbeats 4000000 in
set_option maxRecDepth 100000 in
theorem cs_place {p : Program} {l : Launch} {e : Env} {s : State} {m : MethodId} {b L : Nat} {xs : Nat → Int32} {below : List Frame} {meth : Method} {cd : Code} {H : Heap} {locs : List Loc} {Q : State → Prop} {ls : Array Slot} {A : Nat → Prop} {D : va_G} {c : Nat → ClassId} {kS vS : Nat} {fS : Nat → Int32} {h0 m0 k nm nq : Nat} {R : Int32 → (Nat → Option Nat) → (Nat → Int32) → (Nat → Int32) → (Nat → Int32) → (Nat → va_W) → Prop} (a1 : Int32) (a2 : Int32)  (C : CX p s m cd b L xs A D c kS vS fS) (hk : k ≤ 200) (hls : ls.size = 4) (hJ : LQ R D A s c h0 m0 nm nq H locs) (kk : ∀ (r : Int32) (H1 : Heap) (locs1 : List Loc) (nm' nq' : Nat), LQ R D A s c h0 m0 nm' nq' H1 locs1 → W p l e room_1 s m #[Value.ref b] below meth cd H1 locs1 (100 + 100 * (k + 1) + (nm' + nq' / 256)) (3160000 + 5000 * (k + 1) + (2 * nm' + 2 * nq')) Q (F0 m 368 ls (.int r :: []))) : W p l e room_1 s m #[Value.ref b] below meth cd H locs (100 + 100 * k + (nm + nq / 256)) (3160000 + 5000 * k + (2 * nm + 2 * nq)) Q (F0 m 365 ls (.int a2 :: .int a1 :: .ref h0 :: [])) := by
  obtain ⟨hx, hb, hml, hown, hts, hN, hK, hA, hE, hX, hbl, hbA⟩ := C
  obtain ⟨xv, rc, rf, imf, sf, ig, md, wx, wm, bk, hI, hM, hR, hQ, hP, hD, hS⟩ := hJ
  exact cl_X10_place a1 a2 hk hx hb hml hown hts hN hK hA hls hI hP hD hS (fun r H1 locs1 wx' h1 h2 h3 h4 => kk r H1 locs1 _ _ ⟨xv, rc, rf, imf, sf, ig, md, wx', wm, bk, h1, hM, hR, hQ, h2, h3, h4⟩)
set_option maxHeartbeats 4000000 in
set_option maxRecDepth 100000 in
theorem cs_far {p : Program} {l : Launch} {e : Env} {s : State} {m : MethodId} {b L : Nat} {xs : Nat → Int32} {below : List Frame} {meth : Method} {cd : Code} {H : Heap} {locs : List Loc} {Q : State → Prop} {ls : Array Slot} {A : Nat → Prop} {D : va_G} {c : Nat → ClassId} {kS vS : Nat} {fS : Nat → Int32} {h0 m0 k nm nq : Nat} {R : Int32 → (Nat → Option Nat) → (Nat → Int32) → (Nat → Int32) → (Nat → Int32) → (Nat → va_W) → Prop} (a1 : Int32) (a2 : Int32)  (C : CX p s m cd b L xs A D c kS vS fS) (hk : k ≤ 200) (hls : ls.size = 4) (hJ : LQ R D A s c h0 m0 nm nq H locs) (kk : ∀ (r : Int32) (H1 : Heap) (locs1 : List Loc) (nm' nq' : Nat), LQ R D A s c h0 m0 nm' nq' H1 locs1 → W p l e room_1 s m #[Value.ref b] below meth cd H1 locs1 (100 + 100 * (k + 1) + (nm' + nq' / 256)) (3160000 + 5000 * (k + 1) + (2 * nm' + 2 * nq')) Q (F0 m 401 ls (.int r :: []))) : W p l e room_1 s m #[Value.ref b] below meth cd H locs (100 + 100 * k + (nm + nq / 256)) (3160000 + 5000 * k + (2 * nm + 2 * nq)) Q (F0 m 398 ls (.int a2 :: .int a1 :: .ref h0 :: [])) := by
  obtain ⟨hx, hb, hml, hown, hts, hN, hK, hA, hE, hX, hbl, hbA⟩ := C
  obtain ⟨xv, rc, rf, imf, sf, ig, md, wx, wm, bk, hI, hM, hR, hQ, hP, hD, hS⟩ := hJ
  exact cl_X10_far a1 a2 hk hx hb hml hown hts hN hK hA hls hI hP hD hS (fun r H1 locs1 wx' h1 h2 h3 h4 => kk r H1 locs1 _ _ ⟨xv, rc, rf, imf, sf, ig, md, wx', wm, bk, h1, hM, hR, hQ, h2, h3, h4⟩)
set_option maxHeartbeats 4000000 in
set_option maxRecDepth 100000 in
theorem cs_go {p : Program} {l : Launch} {e : Env} {s : State} {m : MethodId} {b L : Nat} {xs : Nat → Int32} {below : List Frame} {meth : Method} {cd : Code} {H : Heap} {locs : List Loc} {Q : State → Prop} {ls : Array Slot} {A : Nat → Prop} {D : va_G} {c : Nat → ClassId} {kS vS : Nat} {fS : Nat → Int32} {h0 m0 k nm nq : Nat} {R : Int32 → (Nat → Option Nat) → (Nat → Int32) → (Nat → Int32) → (Nat → Int32) → (Nat → va_W) → Prop} (a1 : Int32) (a2 : Int32)  (C : CX p s m cd b L xs A D c kS vS fS) (hk : k ≤ 200) (hls : ls.size = 4) (hJ : LQ R D A s c h0 m0 nm nq H locs) (kk : ∀ (r : Int32) (H1 : Heap) (locs1 : List Loc) (nm' nq' : Nat), LQ R D A s c h0 m0 nm' nq' H1 locs1 → W p l e room_1 s m #[Value.ref b] below meth cd H1 locs1 (100 + 100 * (k + 1) + (nm' + nq' / 256)) (3160000 + 5000 * (k + 1) + (2 * nm' + 2 * nq')) Q (F0 m 434 ls (.int r :: []))) : W p l e room_1 s m #[Value.ref b] below meth cd H locs (100 + 100 * k + (nm + nq / 256)) (3160000 + 5000 * k + (2 * nm + 2 * nq)) Q (F0 m 431 ls (.int a2 :: .int a1 :: .ref h0 :: [])) := by
  obtain ⟨hx, hb, hml, hown, hts, hN, hK, hA, hE, hX, hbl, hbA⟩ := C
  obtain ⟨xv, rc, rf, imf, sf, ig, md, wx, wm, bk, hI, hM, hR, hQ, hP, hD, hS⟩ := hJ
  exact cl_X10_go a1 a2 hk hx hb hml hown hts hN hK hA hls hI hP hD hS (fun r H1 locs1 wx' h1 h2 h3 h4 => kk r H1 locs1 _ _ ⟨xv, rc, rf, imf, sf, ig, md, wx', wm, bk, h1, hM, hR, hQ, h2, h3, h4⟩)
set_option maxHeartbeats 4000000 in
set_option maxRecDepth 100000 in
theorem cs_turn {p : Program} {l : Launch} {e : Env} {s : State} {m : MethodId} {b L : Nat} {xs : Nat → Int32} {below : List Frame} {meth : Method} {cd : Code} {H : Heap} {locs : List Loc} {Q : State → Prop} {ls : Array Slot} {A : Nat → Prop} {D : va_G} {c : Nat → ClassId} {kS vS : Nat} {fS : Nat → Int32} {h0 m0 k nm nq : Nat} {R : Int32 → (Nat → Option Nat) → (Nat → Int32) → (Nat → Int32) → (Nat → Int32) → (Nat → va_W) → Prop} (a1 : Int32)  (C : CX p s m cd b L xs A D c kS vS fS) (hk : k ≤ 200) (hls : ls.size = 4) (hJ : LQ R D A s c h0 m0 nm nq H locs) (kk : ∀ (r : Int32) (H1 : Heap) (locs1 : List Loc) (nm' nq' : Nat), LQ R D A s c h0 m0 nm' nq' H1 locs1 → W p l e room_1 s m #[Value.ref b] below meth cd H1 locs1 (100 + 100 * (k + 1) + (nm' + nq' / 256)) (3160000 + 5000 * (k + 1) + (2 * nm' + 2 * nq')) Q (F0 m 462 ls (.int r :: []))) : W p l e room_1 s m #[Value.ref b] below meth cd H locs (100 + 100 * k + (nm + nq / 256)) (3160000 + 5000 * k + (2 * nm + 2 * nq)) Q (F0 m 459 ls (.int a1 :: .ref h0 :: [])) := by
  obtain ⟨hx, hb, hml, hown, hts, hN, hK, hA, hE, hX, hbl, hbA⟩ := C
  obtain ⟨xv, rc, rf, imf, sf, ig, md, wx, wm, bk, hI, hM, hR, hQ, hP, hD, hS⟩ := hJ
  exact cl_X10_turn a1 hk hx hb hml hown hts hN hK hA hls hI hP hD hS (fun r H1 locs1 wx' h1 h2 h3 h4 => kk r H1 locs1 _ _ ⟨xv, rc, rf, imf, sf, ig, md, wx', wm, bk, h1, hM, hR, hQ, h2, h3, h4⟩)
set_option maxHeartbeats 4000000 in
set_option maxRecDepth 100000 in
theorem cs_feed {p : Program} {l : Launch} {e : Env} {s : State} {m : MethodId} {b L : Nat} {xs : Nat → Int32} {below : List Frame} {meth : Method} {cd : Code} {H : Heap} {locs : List Loc} {Q : State → Prop} {ls : Array Slot} {A : Nat → Prop} {D : va_G} {c : Nat → ClassId} {kS vS : Nat} {fS : Nat → Int32} {h0 m0 k nm nq : Nat} {R : Int32 → (Nat → Option Nat) → (Nat → Int32) → (Nat → Int32) → (Nat → Int32) → (Nat → va_W) → Prop} (a1 : Int32) (a2 : Int32) (a3 : Int32) (a4 : Int32) (a5 : Int32)  (C : CX p s m cd b L xs A D c kS vS fS) (hk : k ≤ 200) (hls : ls.size = 4) (hJ : LQ R D A s c h0 m0 nm nq H locs) (kk : ∀ (r : Int32) (H1 : Heap) (locs1 : List Loc) (nm' nq' : Nat), LQ R D A s c h0 m0 nm' nq' H1 locs1 → W p l e room_1 s m #[Value.ref b] below meth cd H1 locs1 (100 + 100 * (k + 1) + (nm' + nq' / 256)) (3160000 + 5000 * (k + 1) + (2 * nm' + 2 * nq')) Q (F0 m 205 ls (.int r :: []))) : W p l e room_1 s m #[Value.ref b] below meth cd H locs (100 + 100 * k + (nm + nq / 256)) (3160000 + 5000 * k + (2 * nm + 2 * nq)) Q (F0 m 202 ls (.int a5 :: .int a4 :: .int a3 :: .int a2 :: .int a1 :: .ref h0 :: [])) := by
  obtain ⟨hx, hb, hml, hown, hts, hN, hK, hA, hE, hX, hbl, hbA⟩ := C
  obtain ⟨xv, rc, rf, imf, sf, ig, md, wx, wm, bk, hI, hM, hR, hQ, hP, hD, hS⟩ := hJ
  exact cl_X10_feed a1 a2 a3 a4 a5 hk hx hb hml hown hts hN hK hA hls hI hP hD hS (fun r H1 locs1 wx' h1 h2 h3 h4 => kk r H1 locs1 _ _ ⟨xv, rc, rf, imf, sf, ig, md, wx', wm, bk, h1, hM, hR, hQ, h2, h3, h4⟩)
set_option maxHeartbeats 4000000 in
set_option maxRecDepth 100000 in
theorem cs_end {p : Program} {l : Launch} {e : Env} {s : State} {m : MethodId} {b L : Nat} {xs : Nat → Int32} {below : List Frame} {meth : Method} {cd : Code} {H : Heap} {locs : List Loc} {Q : State → Prop} {ls : Array Slot} {A : Nat → Prop} {D : va_G} {c : Nat → ClassId} {kS vS : Nat} {fS : Nat → Int32} {h0 m0 k nm nq : Nat} {R : Int32 → (Nat → Option Nat) → (Nat → Int32) → (Nat → Int32) → (Nat → Int32) → (Nat → va_W) → Prop} (a1 : Int32)  (C : CX p s m cd b L xs A D c kS vS fS) (hk : k ≤ 200) (hls : ls.size = 4) (hJ : LQ R D A s c h0 m0 nm nq H locs) (kk : ∀ (r : Int32) (H1 : Heap) (locs1 : List Loc) (nm' nq' : Nat), LQ R D A s c h0 m0 nm' nq' H1 locs1 → W p l e room_1 s m #[Value.ref b] below meth cd H1 locs1 (100 + 100 * (k + 1) + (nm' + nq' / 256)) (3160000 + 5000 * (k + 1) + (2 * nm' + 2 * nq')) Q (F0 m 248 ls (.int r :: []))) : W p l e room_1 s m #[Value.ref b] below meth cd H locs (100 + 100 * k + (nm + nq / 256)) (3160000 + 5000 * k + (2 * nm + 2 * nq)) Q (F0 m 245 ls (.int a1 :: .ref h0 :: [])) := by
  obtain ⟨hx, hb, hml, hown, hts, hN, hK, hA, hE, hX, hbl, hbA⟩ := C
  obtain ⟨xv, rc, rf, imf, sf, ig, md, wx, wm, bk, hI, hM, hR, hQ, hP, hD, hS⟩ := hJ
  exact cl_X10_end a1 hk hx hb hml hown hts hN hK hA hls hI hP hD hS (fun r H1 locs1 wx' h1 h2 h3 h4 => kk r H1 locs1 _ _ ⟨xv, rc, rf, imf, sf, ig, md, wx', wm, bk, h1, hM, hR, hQ, h2, h3, h4⟩)
set_option maxHeartbeats 4000000 in
set_option maxRecDepth 100000 in
theorem cs_alike {p : Program} {l : Launch} {e : Env} {s : State} {m : MethodId} {b L : Nat} {xs : Nat → Int32} {below : List Frame} {meth : Method} {cd : Code} {H : Heap} {locs : List Loc} {Q : State → Prop} {ls : Array Slot} {A : Nat → Prop} {D : va_G} {c : Nat → ClassId} {kS vS : Nat} {fS : Nat → Int32} {h0 m0 k nm nq : Nat} {R : Int32 → (Nat → Option Nat) → (Nat → Int32) → (Nat → Int32) → (Nat → Int32) → (Nat → va_W) → Prop}  (C : CX p s m cd b L xs A D c kS vS fS) (hk : k ≤ 200) (hls : ls.size = 4) (hJ : LQ R D A s c h0 m0 nm nq H locs) (kk : ∀ (r : Int32) (H1 : Heap) (locs1 : List Loc) (nm' nq' : Nat), LQ R D A s c h0 m0 nm' nq' H1 locs1 → W p l e room_1 s m #[Value.ref b] below meth cd H1 locs1 (100 + 100 * (k + 1) + (nm' + nq' / 256)) (3160000 + 5000 * (k + 1) + (2 * nm' + 2 * nq')) Q (F0 m 602 ls (.int r :: []))) : W p l e room_1 s m #[Value.ref b] below meth cd H locs (100 + 100 * k + (nm + nq / 256)) (3160000 + 5000 * k + (2 * nm + 2 * nq)) Q (F0 m 599 ls (.ref h0 :: [])) := by
  obtain ⟨hx, hb, hml, hown, hts, hN, hK, hA, hE, hX, hbl, hbA⟩ := C
  obtain ⟨xv, rc, rf, imf, sf, ig, md, wx, wm, bk, hI, hM, hR, hQ, hP, hD, hS⟩ := hJ
  exact cl_X10_alike hk hx hb hml hown hts hN hK hA hls hI hP hD hS (fun r H1 locs1 wx' h1 h2 h3 h4 => kk r H1 locs1 _ _ ⟨xv, rc, rf, imf, sf, ig, md, wx', wm, bk, h1, hM, hR, hQ, h2, h3, h4⟩)
set_option maxHeartbeats 4000000 in
set_option maxRecDepth 100000 in
theorem cs_longest {p : Program} {l : Launch} {e : Env} {s : State} {m : MethodId} {b L : Nat} {xs : Nat → Int32} {below : List Frame} {meth : Method} {cd : Code} {H : Heap} {locs : List Loc} {Q : State → Prop} {ls : Array Slot} {A : Nat → Prop} {D : va_G} {c : Nat → ClassId} {kS vS : Nat} {fS : Nat → Int32} {h0 m0 k nm nq : Nat} {R : Int32 → (Nat → Option Nat) → (Nat → Int32) → (Nat → Int32) → (Nat → Int32) → (Nat → va_W) → Prop} (a1 : Int32) (a2 : Int32) (a3 : Int32)  (C : CX p s m cd b L xs A D c kS vS fS) (hk : k ≤ 200) (hls : ls.size = 4) (hJ : LQ R D A s c h0 m0 nm nq H locs) (kk : ∀ (r : Int32) (H1 : Heap) (locs1 : List Loc) (nm' nq' : Nat), LQ R D A s c h0 m0 nm' nq' H1 locs1 → W p l e room_1 s m #[Value.ref b] below meth cd H1 locs1 (100 + 100 * (k + 1) + (nm' + nq' / 256)) (3160000 + 5000 * (k + 1) + (2 * nm' + 2 * nq')) Q (F0 m 712 ls (.int r :: []))) : W p l e room_1 s m #[Value.ref b] below meth cd H locs (100 + 100 * k + (nm + nq / 256)) (3160000 + 5000 * k + (2 * nm + 2 * nq)) Q (F0 m 709 ls (.int a3 :: .int a2 :: .int a1 :: .ref h0 :: [])) := by
  obtain ⟨hx, hb, hml, hown, hts, hN, hK, hA, hE, hX, hbl, hbA⟩ := C
  obtain ⟨xv, rc, rf, imf, sf, ig, md, wx, wm, bk, hI, hM, hR, hQ, hP, hD, hS⟩ := hJ
  exact cl_X10_longest a1 a2 a3 hk hx hb hml hown hts hN hK hA hls hI hP hD hS (fun r H1 locs1 wx' h1 h2 h3 h4 => kk r H1 locs1 _ _ ⟨xv, rc, rf, imf, sf, ig, md, wx', wm, bk, h1, hM, hR, hQ, h2, h3, h4⟩)
set_option maxHeartbeats 4000000 in
set_option maxRecDepth 100000 in
theorem cs_covers {p : Program} {l : Launch} {e : Env} {s : State} {m : MethodId} {b L : Nat} {xs : Nat → Int32} {below : List Frame} {meth : Method} {cd : Code} {H : Heap} {locs : List Loc} {Q : State → Prop} {ls : Array Slot} {A : Nat → Prop} {D : va_G} {c : Nat → ClassId} {kS vS : Nat} {fS : Nat → Int32} {h0 m0 k nm nq : Nat} {R : Int32 → (Nat → Option Nat) → (Nat → Int32) → (Nat → Int32) → (Nat → Int32) → (Nat → va_W) → Prop} (a1 : Int32)  (C : CX p s m cd b L xs A D c kS vS fS) (hk : k ≤ 200) (hls : ls.size = 4) (hJ : LQ R D A s c h0 m0 nm nq H locs) (kk : ∀ (r : Int32) (H1 : Heap) (locs1 : List Loc) (nm' nq' : Nat), LQ R D A s c h0 m0 nm' nq' H1 locs1 → W p l e room_1 s m #[Value.ref b] below meth cd H1 locs1 (100 + 100 * (k + 1) + (nm' + nq' / 256)) (3160000 + 5000 * (k + 1) + (2 * nm' + 2 * nq')) Q (F0 m 745 ls (.int r :: []))) : W p l e room_1 s m #[Value.ref b] below meth cd H locs (100 + 100 * k + (nm + nq / 256)) (3160000 + 5000 * k + (2 * nm + 2 * nq)) Q (F0 m 742 ls (.int a1 :: .ref h0 :: [])) := by
  obtain ⟨hx, hb, hml, hown, hts, hN, hK, hA, hE, hX, hbl, hbA⟩ := C
  obtain ⟨xv, rc, rf, imf, sf, ig, md, wx, wm, bk, hI, hM, hR, hQ, hP, hD, hS⟩ := hJ
  exact cl_X10_covers a1 hk hx hb hml hown hts hN hK hA hls hI hP hD hS (fun r H1 locs1 wx' h1 h2 h3 h4 => kk r H1 locs1 _ _ ⟨xv, rc, rf, imf, sf, ig, md, wx', wm, bk, h1, hM, hR, hQ, h2, h3, h4⟩)
set_option maxHeartbeats 4000000 in
set_option maxRecDepth 100000 in
theorem cs_settles {p : Program} {l : Launch} {e : Env} {s : State} {m : MethodId} {b L : Nat} {xs : Nat → Int32} {below : List Frame} {meth : Method} {cd : Code} {H : Heap} {locs : List Loc} {Q : State → Prop} {ls : Array Slot} {A : Nat → Prop} {D : va_G} {c : Nat → ClassId} {kS vS : Nat} {fS : Nat → Int32} {h0 m0 k nm nq : Nat} {R : Int32 → (Nat → Option Nat) → (Nat → Int32) → (Nat → Int32) → (Nat → Int32) → (Nat → va_W) → Prop} (a1 : Int32) (a2 : Int32)  (C : CX p s m cd b L xs A D c kS vS fS) (hk : k ≤ 200) (hls : ls.size = 4) (hJ : LQ R D A s c h0 m0 nm nq H locs) (kk : ∀ (r : Int32) (H1 : Heap) (locs1 : List Loc) (nm' nq' : Nat), LQ R D A s c h0 m0 nm' nq' H1 locs1 → W p l e room_1 s m #[Value.ref b] below meth cd H1 locs1 (100 + 100 * (k + 1) + (nm' + nq' / 256)) (3160000 + 5000 * (k + 1) + (2 * nm' + 2 * nq')) Q (F0 m 773 ls (.int r :: []))) : W p l e room_1 s m #[Value.ref b] below meth cd H locs (100 + 100 * k + (nm + nq / 256)) (3160000 + 5000 * k + (2 * nm + 2 * nq)) Q (F0 m 770 ls (.int a2 :: .int a1 :: .ref h0 :: [])) := by
  obtain ⟨hx, hb, hml, hown, hts, hN, hK, hA, hE, hX, hbl, hbA⟩ := C
  obtain ⟨xv, rc, rf, imf, sf, ig, md, wx, wm, bk, hI, hM, hR, hQ, hP, hD, hS⟩ := hJ
  exact cl_X10_settles a1 a2 hk hx hb hml hown hts hN hK hA hls hI hP hD hS (fun r H1 locs1 wx' h1 h2 h3 h4 => kk r H1 locs1 _ _ ⟨xv, rc, rf, imf, sf, ig, md, wx', wm, bk, h1, hM, hR, hQ, h2, h3, h4⟩)
set_option maxHeartbeats 4000000 in
set_option maxRecDepth 100000 in
theorem cs_row {p : Program} {l : Launch} {e : Env} {s : State} {m : MethodId} {b L : Nat} {xs : Nat → Int32} {below : List Frame} {meth : Method} {cd : Code} {H : Heap} {locs : List Loc} {Q : State → Prop} {ls : Array Slot} {A : Nat → Prop} {D : va_G} {c : Nat → ClassId} {kS vS : Nat} {fS : Nat → Int32} {h0 m0 k nm nq : Nat} {R : Int32 → (Nat → Option Nat) → (Nat → Int32) → (Nat → Int32) → (Nat → Int32) → (Nat → va_W) → Prop} (a1 : Int32) (a2 : Int32)  (C : CX p s m cd b L xs A D c kS vS fS) (hk : k ≤ 200) (hls : ls.size = 4) (hJ : LQ R D A s c h0 m0 nm nq H locs) (kk : ∀ (r : Int32) (H1 : Heap) (locs1 : List Loc) (nm' nq' : Nat), LQ R D A s c h0 m0 nm' nq' H1 locs1 → W p l e room_1 s m #[Value.ref b] below meth cd H1 locs1 (100 + 100 * (k + 1) + (nm' + nq' / 256)) (3160000 + 5000 * (k + 1) + (2 * nm' + 2 * nq')) Q (F0 m 806 ls (.int r :: []))) : W p l e room_1 s m #[Value.ref b] below meth cd H locs (100 + 100 * k + (nm + nq / 256)) (3160000 + 5000 * k + (2 * nm + 2 * nq)) Q (F0 m 803 ls (.int a2 :: .int a1 :: .ref h0 :: [])) := by
  obtain ⟨hx, hb, hml, hown, hts, hN, hK, hA, hE, hX, hbl, hbA⟩ := C
  obtain ⟨xv, rc, rf, imf, sf, ig, md, wx, wm, bk, hI, hM, hR, hQ, hP, hD, hS⟩ := hJ
  exact cl_X10_row a1 a2 hk hx hb hml hown hts hN hK hA hls hI hP hD hS (fun r H1 locs1 wx' h1 h2 h3 h4 => kk r H1 locs1 _ _ ⟨xv, rc, rf, imf, sf, ig, md, wx', wm, bk, h1, hM, hR, hQ, h2, h3, h4⟩)
set_option maxHeartbeats 4000000 in
set_option maxRecDepth 100000 in
theorem cs_done {p : Program} {l : Launch} {e : Env} {s : State} {m : MethodId} {b L : Nat} {xs : Nat → Int32} {below : List Frame} {meth : Method} {cd : Code} {H : Heap} {locs : List Loc} {Q : State → Prop} {ls : Array Slot} {A : Nat → Prop} {D : va_G} {c : Nat → ClassId} {kS vS : Nat} {fS : Nat → Int32} {h0 m0 k nm nq : Nat} {R : Int32 → (Nat → Option Nat) → (Nat → Int32) → (Nat → Int32) → (Nat → Int32) → (Nat → va_W) → Prop}  (C : CX p s m cd b L xs A D c kS vS fS) (hk : k ≤ 200) (hls : ls.size = 4) (hJ : LQ R D A s c h0 m0 nm nq H locs) (kk : ∀ (r : Int32) (H1 : Heap) (locs1 : List Loc) (nm' nq' : Nat), LQ R D A s c h0 m0 nm' nq' H1 locs1 → W p l e room_1 s m #[Value.ref b] below meth cd H1 locs1 (100 + 100 * (k + 1) + (nm' + nq' / 256)) (3160000 + 5000 * (k + 1) + (2 * nm' + 2 * nq')) Q (F0 m 829 ls (.int r :: []))) : W p l e room_1 s m #[Value.ref b] below meth cd H locs (100 + 100 * k + (nm + nq / 256)) (3160000 + 5000 * k + (2 * nm + 2 * nq)) Q (F0 m 826 ls (.ref h0 :: [])) := by
  obtain ⟨hx, hb, hml, hown, hts, hN, hK, hA, hE, hX, hbl, hbA⟩ := C
  obtain ⟨xv, rc, rf, imf, sf, ig, md, wx, wm, bk, hI, hM, hR, hQ, hP, hD, hS⟩ := hJ
  exact cl_X10_done hk hx hb hml hown hts hN hK hA hls hI hP hD hS (fun r H1 locs1 wx' h1 h2 h3 h4 => kk r H1 locs1 _ _ ⟨xv, rc, rf, imf, sf, ig, md, wx', wm, bk, h1, hM, hR, hQ, h2, h3, h4⟩)
set_option maxHeartbeats 4000000 in
set_option maxRecDepth 100000 in
theorem cs_free {p : Program} {l : Launch} {e : Env} {s : State} {m : MethodId} {b L : Nat} {xs : Nat → Int32} {below : List Frame} {meth : Method} {cd : Code} {H : Heap} {locs : List Loc} {Q : State → Prop} {ls : Array Slot} {A : Nat → Prop} {D : va_G} {c : Nat → ClassId} {kS vS : Nat} {fS : Nat → Int32} {h0 m0 k nm nq : Nat} {R : Int32 → (Nat → Option Nat) → (Nat → Int32) → (Nat → Int32) → (Nat → Int32) → (Nat → va_W) → Prop} (a1 : Int32)  (C : CX p s m cd b L xs A D c kS vS fS) (hk : k ≤ 200) (hls : ls.size = 4) (hJ : LQ R D A s c h0 m0 nm nq H locs) (kk : ∀ (r : Int32) (H1 : Heap) (locs1 : List Loc) (nm' nq' : Nat), LQ R D A s c h0 m0 nm' nq' H1 locs1 → W p l e room_1 s m #[Value.ref b] below meth cd H1 locs1 (100 + 100 * (k + 1) + (nm' + nq' / 256)) (3160000 + 5000 * (k + 1) + (2 * nm' + 2 * nq')) Q (F0 m 847 ls (.int r :: []))) : W p l e room_1 s m #[Value.ref b] below meth cd H locs (100 + 100 * k + (nm + nq / 256)) (3160000 + 5000 * k + (2 * nm + 2 * nq)) Q (F0 m 844 ls (.int a1 :: .ref h0 :: [])) := by
  obtain ⟨hx, hb, hml, hown, hts, hN, hK, hA, hE, hX, hbl, hbA⟩ := C
  obtain ⟨xv, rc, rf, imf, sf, ig, md, wx, wm, bk, hI, hM, hR, hQ, hP, hD, hS⟩ := hJ
  exact cl_X10_free a1 hk hx hb hml hown hts hN hK hA hls hI hP hD hS (fun r H1 locs1 wx' h1 h2 h3 h4 => kk r H1 locs1 _ _ ⟨xv, rc, rf, imf, sf, ig, md, wx', wm, bk, h1, hM, hR, hQ, h2, h3, h4⟩)
set_option maxHeartbeats 4000000 in
set_option maxRecDepth 100000 in
theorem cs_count {p : Program} {l : Launch} {e : Env} {s : State} {m : MethodId} {b L : Nat} {xs : Nat → Int32} {below : List Frame} {meth : Method} {cd : Code} {H : Heap} {locs : List Loc} {Q : State → Prop} {ls : Array Slot} {A : Nat → Prop} {D : va_G} {c : Nat → ClassId} {kS vS : Nat} {fS : Nat → Int32} {h0 m0 k nm nq : Nat} {R : Int32 → (Nat → Option Nat) → (Nat → Int32) → (Nat → Int32) → (Nat → Int32) → (Nat → va_W) → Prop} (a1 : Int32)  (C : CX p s m cd b L xs A D c kS vS fS) (hk : k ≤ 200) (hls : ls.size = 4) (hJ : LQ R D A s c h0 m0 nm nq H locs) (kk : ∀ (r : Int32) (H1 : Heap) (locs1 : List Loc) (nm' nq' : Nat), LQ R D A s c h0 m0 nm' nq' H1 locs1 → W p l e room_1 s m #[Value.ref b] below meth cd H1 locs1 (100 + 100 * (k + 1) + (nm' + nq' / 256)) (3160000 + 5000 * (k + 1) + (2 * nm' + 2 * nq')) Q (F0 m 1078 ls (.int r :: []))) : W p l e room_1 s m #[Value.ref b] below meth cd H locs (100 + 100 * k + (nm + nq / 256)) (3160000 + 5000 * k + (2 * nm + 2 * nq)) Q (F0 m 1075 ls (.int a1 :: .ref h0 :: [])) := by
  obtain ⟨hx, hb, hml, hown, hts, hN, hK, hA, hE, hX, hbl, hbA⟩ := C
  obtain ⟨xv, rc, rf, imf, sf, ig, md, wx, wm, bk, hI, hM, hR, hQ, hP, hD, hS⟩ := hJ
  exact cl_X10_count a1 hk hx hb hml hown hts hN hK hA hls hI hP hD hS (fun r H1 locs1 wx' h1 h2 h3 h4 => kk r H1 locs1 _ _ ⟨xv, rc, rf, imf, sf, ig, md, wx', wm, bk, h1, hM, hR, hQ, h2, h3, h4⟩)
set_option maxHeartbeats 4000000 in
set_option maxRecDepth 100000 in
theorem cs_land {p : Program} {l : Launch} {e : Env} {s : State} {m : MethodId} {b L : Nat} {xs : Nat → Int32} {below : List Frame} {meth : Method} {cd : Code} {H : Heap} {locs : List Loc} {Q : State → Prop} {ls : Array Slot} {A : Nat → Prop} {D : va_G} {c : Nat → ClassId} {kS vS : Nat} {fS : Nat → Int32} {h0 m0 k nm nq : Nat} {R : Int32 → (Nat → Option Nat) → (Nat → Int32) → (Nat → Int32) → (Nat → Int32) → (Nat → va_W) → Prop}  (C : CX p s m cd b L xs A D c kS vS fS) (hk : k ≤ 200) (hls : ls.size = 4) (hJ : LQ R D A s c h0 m0 nm nq H locs) (kk : ∀ (r : Int32) (H1 : Heap) (locs1 : List Loc) (nm' nq' : Nat), LQ R D A s c h0 m0 nm' nq' H1 locs1 → W p l e room_1 s m #[Value.ref b] below meth cd H1 locs1 (100 + 100 * (k + 1) + (nm' + nq' / 256)) (3160000 + 5000 * (k + 1) + (2 * nm' + 2 * nq')) Q (F0 m 266 ls (.int r :: []))) : W p l e room_1 s m #[Value.ref b] below meth cd H locs (100 + 100 * k + (nm + nq / 256)) (3160000 + 5000 * k + (2 * nm + 2 * nq)) Q (F0 m 263 ls (.ref h0 :: [])) := by
  obtain ⟨hx, hb, hml, hown, hts, hN, hK, hA, hE, hX, hbl, hbA⟩ := C
  obtain ⟨xv, rc, rf, imf, sf, ig, md, wx, wm, bk, hI, hM, hR, hQ, hP, hD, hS⟩ := hJ
  exact cl_X10_land hk hx hb hml hown hts hN hK hA hE hls hI hP hD hS (fun r H1 locs1 wx' h1 h2 h3 h4 => kk r H1 locs1 _ _ ⟨xv, rc, rf, imf, sf, ig, md, wx', wm, bk, h1, hM, hR, hQ, h2, h3, h4⟩)
set_option maxHeartbeats 4000000 in
set_option maxRecDepth 100000 in
theorem cs_fewest {p : Program} {l : Launch} {e : Env} {s : State} {m : MethodId} {b L : Nat} {xs : Nat → Int32} {below : List Frame} {meth : Method} {cd : Code} {H : Heap} {locs : List Loc} {Q : State → Prop} {ls : Array Slot} {A : Nat → Prop} {D : va_G} {c : Nat → ClassId} {kS vS : Nat} {fS : Nat → Int32} {h0 m0 k nm nq : Nat} {R : Int32 → (Nat → Option Nat) → (Nat → Int32) → (Nat → Int32) → (Nat → Int32) → (Nat → va_W) → Prop} (a1 : Int32)  (C : CX p s m cd b L xs A D c kS vS fS) (hk : k ≤ 200) (hls : ls.size = 4) (hJ : LQ R D A s c h0 m0 nm nq H locs) (kk : ∀ (r : Int32) (H1 : Heap) (locs1 : List Loc) (nm' nq' : Nat), LQ R D A s c h0 m0 nm' nq' H1 locs1 → W p l e room_1 s m #[Value.ref b] below meth cd H1 locs1 (100 + 100 * (k + 1) + (nm' + nq' / 256)) (3160000 + 5000 * (k + 1) + (2 * nm' + 2 * nq')) Q (F0 m 485 ls (.int r :: []))) : W p l e room_1 s m #[Value.ref b] below meth cd H locs (100 + 100 * k + (nm + nq / 256)) (3160000 + 5000 * k + (2 * nm + 2 * nq)) Q (F0 m 482 ls (.int a1 :: .ref h0 :: [])) := by
  obtain ⟨hx, hb, hml, hown, hts, hN, hK, hA, hE, hX, hbl, hbA⟩ := C
  obtain ⟨xv, rc, rf, imf, sf, ig, md, wx, wm, bk, hI, hM, hR, hQ, hP, hD, hS⟩ := hJ
  exact cl_X10_fewest a1 hk hx hb hml hown hts hN hK hA hls hI hP hD hS (fun r H1 locs1 wx' nm' nq' h1 h2 h3 h4 => kk r H1 locs1 _ _ ⟨xv, rc, rf, imf, sf, ig, md, wx', wm, bk, h1, hM, hR, hQ, h2, h3, h4⟩)
set_option maxHeartbeats 4000000 in
set_option maxRecDepth 100000 in
theorem cs_step {p : Program} {l : Launch} {e : Env} {s : State} {m : MethodId} {b L : Nat} {xs : Nat → Int32} {below : List Frame} {meth : Method} {cd : Code} {H : Heap} {locs : List Loc} {Q : State → Prop} {ls : Array Slot} {A : Nat → Prop} {D : va_G} {c : Nat → ClassId} {kS vS : Nat} {fS : Nat → Int32} {h0 m0 k nm nq : Nat} {R : Int32 → (Nat → Option Nat) → (Nat → Int32) → (Nat → Int32) → (Nat → Int32) → (Nat → va_W) → Prop} (a1 : Int32) (a2 : Int32)  (C : CX p s m cd b L xs A D c kS vS fS) (hk : k ≤ 200) (hls : ls.size = 4) (hJ : LQ R D A s c h0 m0 nm nq H locs) (kk : ∀ (r : Int32) (H1 : Heap) (locs1 : List Loc) (nm' nq' : Nat), LQ R D A s c h0 m0 nm' nq' H1 locs1 → W p l e room_1 s m #[Value.ref b] below meth cd H1 locs1 (100 + 100 * (k + 1) + (nm' + nq' / 256)) (3160000 + 5000 * (k + 1) + (2 * nm' + 2 * nq')) Q (F0 m 513 ls (.int r :: []))) : W p l e room_1 s m #[Value.ref b] below meth cd H locs (100 + 100 * k + (nm + nq / 256)) (3160000 + 5000 * k + (2 * nm + 2 * nq)) Q (F0 m 510 ls (.int a2 :: .int a1 :: .ref h0 :: [])) := by
  obtain ⟨hx, hb, hml, hown, hts, hN, hK, hA, hE, hX, hbl, hbA⟩ := C
  obtain ⟨xv, rc, rf, imf, sf, ig, md, wx, wm, bk, hI, hM, hR, hQ, hP, hD, hS⟩ := hJ
  exact cl_X10_step a1 a2 hk hx hb hml hown hts hN hK hA hls hI hP hD hS (fun r H1 locs1 wx' nm' nq' h1 h2 h3 h4 => kk r H1 locs1 _ _ ⟨xv, rc, rf, imf, sf, ig, md, wx', wm, bk, h1, hM, hR, hQ, h2, h3, h4⟩)
set_option maxHeartbeats 4000000 in
set_option maxRecDepth 100000 in
theorem cs_comes {p : Program} {l : Launch} {e : Env} {s : State} {m : MethodId} {b L : Nat} {xs : Nat → Int32} {below : List Frame} {meth : Method} {cd : Code} {H : Heap} {locs : List Loc} {Q : State → Prop} {ls : Array Slot} {A : Nat → Prop} {D : va_G} {c : Nat → ClassId} {kS vS : Nat} {fS : Nat → Int32} {h0 m0 k nm nq : Nat} {R : Int32 → (Nat → Option Nat) → (Nat → Int32) → (Nat → Int32) → (Nat → Int32) → (Nat → va_W) → Prop} (a1 : Int32) (a2 : Int32)  (C : CX p s m cd b L xs A D c kS vS fS) (hk : k ≤ 200) (hls : ls.size = 4) (hJ : LQ R D A s c h0 m0 nm nq H locs) (kk : ∀ (r : Int32) (H1 : Heap) (locs1 : List Loc) (nm' nq' : Nat), LQ R D A s c h0 m0 nm' nq' H1 locs1 → W p l e room_1 s m #[Value.ref b] below meth cd H1 locs1 (100 + 100 * (k + 1) + (nm' + nq' / 256)) (3160000 + 5000 * (k + 1) + (2 * nm' + 2 * nq')) Q (F0 m 546 ls (.int r :: []))) : W p l e room_1 s m #[Value.ref b] below meth cd H locs (100 + 100 * k + (nm + nq / 256)) (3160000 + 5000 * k + (2 * nm + 2 * nq)) Q (F0 m 543 ls (.int a2 :: .int a1 :: .ref h0 :: [])) := by
  obtain ⟨hx, hb, hml, hown, hts, hN, hK, hA, hE, hX, hbl, hbA⟩ := C
  obtain ⟨xv, rc, rf, imf, sf, ig, md, wx, wm, bk, hI, hM, hR, hQ, hP, hD, hS⟩ := hJ
  exact cl_X10_comes a1 a2 hk hx hb hml hown hts hN hK hA hls hI hP hD hS (fun r H1 locs1 wx' nm' nq' h1 h2 h3 h4 => kk r H1 locs1 _ _ ⟨xv, rc, rf, imf, sf, ig, md, wx', wm, bk, h1, hM, hR, hQ, h2, h3, h4⟩)
set_option maxHeartbeats 4000000 in
set_option maxRecDepth 100000 in
theorem cs_closed {p : Program} {l : Launch} {e : Env} {s : State} {m : MethodId} {b L : Nat} {xs : Nat → Int32} {below : List Frame} {meth : Method} {cd : Code} {H : Heap} {locs : List Loc} {Q : State → Prop} {ls : Array Slot} {A : Nat → Prop} {D : va_G} {c : Nat → ClassId} {kS vS : Nat} {fS : Nat → Int32} {h0 m0 k nm nq : Nat} {R : Int32 → (Nat → Option Nat) → (Nat → Int32) → (Nat → Int32) → (Nat → Int32) → (Nat → va_W) → Prop} (a1 : Int32) (a2 : Int32)  (C : CX p s m cd b L xs A D c kS vS fS) (hk : k ≤ 200) (hls : ls.size = 4) (hJ : LQ R D A s c h0 m0 nm nq H locs) (kk : ∀ (r : Int32) (H1 : Heap) (locs1 : List Loc) (nm' nq' : Nat), LQ R D A s c h0 m0 nm' nq' H1 locs1 → W p l e room_1 s m #[Value.ref b] below meth cd H1 locs1 (100 + 100 * (k + 1) + (nm' + nq' / 256)) (3160000 + 5000 * (k + 1) + (2 * nm' + 2 * nq')) Q (F0 m 579 ls (.int r :: []))) : W p l e room_1 s m #[Value.ref b] below meth cd H locs (100 + 100 * k + (nm + nq / 256)) (3160000 + 5000 * k + (2 * nm + 2 * nq)) Q (F0 m 576 ls (.int a2 :: .int a1 :: .ref h0 :: [])) := by
  obtain ⟨hx, hb, hml, hown, hts, hN, hK, hA, hE, hX, hbl, hbA⟩ := C
  obtain ⟨xv, rc, rf, imf, sf, ig, md, wx, wm, bk, hI, hM, hR, hQ, hP, hD, hS⟩ := hJ
  exact cl_X10_closed a1 a2 hk hx hb hml hown hts hN hK hA hls hI hP hD hS (fun r H1 locs1 wx' nm' nq' h1 h2 h3 h4 => kk r H1 locs1 _ _ ⟨xv, rc, rf, imf, sf, ig, md, wx', wm, bk, h1, hM, hR, hQ, h2, h3, h4⟩)
set_option maxHeartbeats 4000000 in
set_option maxRecDepth 100000 in
theorem cs_decoys {p : Program} {l : Launch} {e : Env} {s : State} {m : MethodId} {b L : Nat} {xs : Nat → Int32} {below : List Frame} {meth : Method} {cd : Code} {H : Heap} {locs : List Loc} {Q : State → Prop} {ls : Array Slot} {A : Nat → Prop} {D : va_G} {c : Nat → ClassId} {kS vS : Nat} {fS : Nat → Int32} {h0 m0 k nm nq : Nat} {R : Int32 → (Nat → Option Nat) → (Nat → Int32) → (Nat → Int32) → (Nat → Int32) → (Nat → va_W) → Prop} (a1 : Int32)  (C : CX p s m cd b L xs A D c kS vS fS) (hk : k ≤ 200) (hls : ls.size = 4) (hJ : LQ R D A s c h0 m0 nm nq H locs) (kk : ∀ (r : Int32) (H1 : Heap) (locs1 : List Loc) (nm' nq' : Nat), LQ R D A s c h0 m0 nm' nq' H1 locs1 → W p l e room_1 s m #[Value.ref b] below meth cd H1 locs1 (100 + 100 * (k + 1) + (nm' + nq' / 256)) (3160000 + 5000 * (k + 1) + (2 * nm' + 2 * nq')) Q (F0 m 620 ls (.int r :: []))) : W p l e room_1 s m #[Value.ref b] below meth cd H locs (100 + 100 * k + (nm + nq / 256)) (3160000 + 5000 * k + (2 * nm + 2 * nq)) Q (F0 m 617 ls (.int a1 :: .ref h0 :: [])) := by
  obtain ⟨hx, hb, hml, hown, hts, hN, hK, hA, hE, hX, hbl, hbA⟩ := C
  obtain ⟨xv, rc, rf, imf, sf, ig, md, wx, wm, bk, hI, hM, hR, hQ, hP, hD, hS⟩ := hJ
  exact cl_X10_decoys a1 hk hx hb hml hown hts hN hK hA hls hI hP hD hS (fun r H1 locs1 wx' nm' nq' h1 h2 h3 h4 => kk r H1 locs1 _ _ ⟨xv, rc, rf, imf, sf, ig, md, wx', wm, bk, h1, hM, hR, hQ, h2, h3, h4⟩)
set_option maxHeartbeats 4000000 in
set_option maxRecDepth 100000 in
theorem cs_post {p : Program} {l : Launch} {e : Env} {s : State} {m : MethodId} {b L : Nat} {xs : Nat → Int32} {below : List Frame} {meth : Method} {cd : Code} {H : Heap} {locs : List Loc} {Q : State → Prop} {ls : Array Slot} {A : Nat → Prop} {D : va_G} {c : Nat → ClassId} {kS vS : Nat} {fS : Nat → Int32} {h0 m0 k nm nq : Nat} {R : Int32 → (Nat → Option Nat) → (Nat → Int32) → (Nat → Int32) → (Nat → Int32) → (Nat → va_W) → Prop} (a1 : Int32) (a2 : Int32) (a3 : Int32)  (C : CX p s m cd b L xs A D c kS vS fS) (haa3 : 0 ≤ a3.toInt ∧ a3.toInt ≤ 1) (hk : k ≤ 200) (hls : ls.size = 4) (hJ : LQ R D A s c h0 m0 nm nq H locs) (kk : ∀ (r : Int32) (H1 : Heap) (locs1 : List Loc) (nm' nq' : Nat), LQ R D A s c h0 m0 nm' nq' H1 locs1 → W p l e room_1 s m #[Value.ref b] below meth cd H1 locs1 (100 + 100 * (k + 1) + (nm' + nq' / 256)) (3160000 + 5000 * (k + 1) + (2 * nm' + 2 * nq')) Q (F0 m 661 ls (.int r :: []))) : W p l e room_1 s m #[Value.ref b] below meth cd H locs (100 + 100 * k + (nm + nq / 256)) (3160000 + 5000 * k + (2 * nm + 2 * nq)) Q (F0 m 658 ls (.int a3 :: .int a2 :: .int a1 :: .ref h0 :: [])) := by
  obtain ⟨hx, hb, hml, hown, hts, hN, hK, hA, hE, hX, hbl, hbA⟩ := C
  obtain ⟨xv, rc, rf, imf, sf, ig, md, wx, wm, bk, hI, hM, hR, hQ, hP, hD, hS⟩ := hJ
  exact cl_X10_post a1 a2 a3 hk hx hb hml hown hts hN hK hA hls hI hP hD hS haa3 (fun r H1 locs1 wx' nm' nq' h1 h2 h3 h4 => kk r H1 locs1 _ _ ⟨xv, rc, rf, imf, sf, ig, md, wx', wm, bk, h1, hM, hR, hQ, h2, h3, h4⟩)
set_option maxHeartbeats 4000000 in
set_option maxRecDepth 100000 in
theorem cs_tick {p : Program} {l : Launch} {e : Env} {s : State} {m : MethodId} {b L : Nat} {xs : Nat → Int32} {below : List Frame} {meth : Method} {cd : Code} {H : Heap} {locs : List Loc} {Q : State → Prop} {ls : Array Slot} {A : Nat → Prop} {D : va_G} {c : Nat → ClassId} {kS vS : Nat} {fS : Nat → Int32} {h0 m0 k nm nq : Nat} {R : Int32 → (Nat → Option Nat) → (Nat → Int32) → (Nat → Int32) → (Nat → Int32) → (Nat → va_W) → Prop} (a1 : Int32) (a2 : Int32)  (C : CX p s m cd b L xs A D c kS vS fS) (hk : k ≤ 200) (hls : ls.size = 4) (hJ : LQ R D A s c h0 m0 nm nq H locs) (kk : ∀ (r : Int32) (H1 : Heap) (locs1 : List Loc) (nm' nq' : Nat), LQ R D A s c h0 m0 nm' nq' H1 locs1 → W p l e room_1 s m #[Value.ref b] below meth cd H1 locs1 (100 + 100 * (k + 1) + (nm' + nq' / 256)) (3160000 + 5000 * (k + 1) + (2 * nm' + 2 * nq')) Q (F0 m 875 ls (.int r :: []))) : W p l e room_1 s m #[Value.ref b] below meth cd H locs (100 + 100 * k + (nm + nq / 256)) (3160000 + 5000 * k + (2 * nm + 2 * nq)) Q (F0 m 872 ls (.int a2 :: .int a1 :: .ref h0 :: [])) := by
  obtain ⟨hx, hb, hml, hown, hts, hN, hK, hA, hE, hX, hbl, hbA⟩ := C
  obtain ⟨xv, rc, rf, imf, sf, ig, md, wx, wm, bk, hI, hM, hR, hQ, hP, hD, hS⟩ := hJ
  rcases (show (0 ≤ a1.toInt ∧ a1.toInt < rc.toInt) ∨ (a1.toInt < 0 ∨ rc.toInt ≤ a1.toInt) by omega) with q | q
  · have hr := XI_rc hI
    have hc := cl_int (x := a1) q.1
    obtain ⟨g, hg, hB⟩ := (hR (Int32.toNatClampNeg a1) (by omega)).1 (by omega)
    have hi : Int32.toNatClampNeg a1 < 10 := by omega
    exact cl_X10_tick_1 a1 a2 hk hx hb hml hown hts hN hK hA hls hI hB (hP.perm (pw_out hi)) (hD.perm (pw_out hi)) hS q hg (fun r H1 locs1 wx' h1 h2 h3 h4 => kk r H1 locs1 _ _ ⟨xv, rc, rf, imf, sf, ig, md, wx', wm, bk, h1, hM, hR, hQ, h2.perm (pw_out hi).symm, h3.perm (pw_out hi).symm, h4⟩)
  · exact cl_X10_tick_0 a1 a2 hk hx hb hml hown hts hN hK hA hls hI hP hD hS q (fun r H1 locs1 wx' h1 h2 h3 h4 => kk r H1 locs1 _ _ ⟨xv, rc, rf, imf, sf, ig, md, wx', wm, bk, h1, hM, hR, hQ, h2, h3, h4⟩)
set_option maxHeartbeats 4000000 in
set_option maxRecDepth 100000 in
theorem cs_ahead {p : Program} {l : Launch} {e : Env} {s : State} {m : MethodId} {b L : Nat} {xs : Nat → Int32} {below : List Frame} {meth : Method} {cd : Code} {H : Heap} {locs : List Loc} {Q : State → Prop} {ls : Array Slot} {A : Nat → Prop} {D : va_G} {c : Nat → ClassId} {kS vS : Nat} {fS : Nat → Int32} {h0 m0 k nm nq : Nat} {R : Int32 → (Nat → Option Nat) → (Nat → Int32) → (Nat → Int32) → (Nat → Int32) → (Nat → va_W) → Prop} (a1 : Int32) (a2 : Int32) (a3 : Int32)  (C : CX p s m cd b L xs A D c kS vS fS) (hk : k ≤ 200) (hls : ls.size = 4) (hJ : LQ R D A s c h0 m0 nm nq H locs) (kk : ∀ (r : Int32) (H1 : Heap) (locs1 : List Loc) (nm' nq' : Nat), LQ R D A s c h0 m0 nm' nq' H1 locs1 → W p l e room_1 s m #[Value.ref b] below meth cd H1 locs1 (100 + 100 * (k + 1) + (nm' + nq' / 256)) (3160000 + 5000 * (k + 1) + (2 * nm' + 2 * nq')) Q (F0 m 913 ls (.int r :: []))) : W p l e room_1 s m #[Value.ref b] below meth cd H locs (100 + 100 * k + (nm + nq / 256)) (3160000 + 5000 * k + (2 * nm + 2 * nq)) Q (F0 m 910 ls (.int a3 :: .int a2 :: .int a1 :: .ref h0 :: [])) := by
  obtain ⟨hx, hb, hml, hown, hts, hN, hK, hA, hE, hX, hbl, hbA⟩ := C
  obtain ⟨xv, rc, rf, imf, sf, ig, md, wx, wm, bk, hI, hM, hR, hQ, hP, hD, hS⟩ := hJ
  rcases (show (0 ≤ a1.toInt ∧ a1.toInt < rc.toInt) ∨ (a1.toInt < 0 ∨ rc.toInt ≤ a1.toInt) by omega) with q | q
  · have hr := XI_rc hI
    have hc := cl_int (x := a1) q.1
    obtain ⟨g, hg, hB⟩ := (hR (Int32.toNatClampNeg a1) (by omega)).1 (by omega)
    have hi : Int32.toNatClampNeg a1 < 10 := by omega
    exact cl_X10_ahead_1 a1 a2 a3 hk hx hb hml hown hts hN hK hA hls hI hB (hP.perm (pw_out hi)) (hD.perm (pw_out hi)) hS q hg (fun r H1 locs1 wx' h1 h2 h3 h4 => kk r H1 locs1 _ _ ⟨xv, rc, rf, imf, sf, ig, md, wx', wm, bk, h1, hM, hR, hQ, h2.perm (pw_out hi).symm, h3.perm (pw_out hi).symm, h4⟩)
  · exact cl_X10_ahead_0 a1 a2 a3 hk hx hb hml hown hts hN hK hA hls hI hP hD hS q (fun r H1 locs1 wx' h1 h2 h3 h4 => kk r H1 locs1 _ _ ⟨xv, rc, rf, imf, sf, ig, md, wx', wm, bk, h1, hM, hR, hQ, h2, h3, h4⟩)
set_option maxHeartbeats 4000000 in
set_option maxRecDepth 100000 in
theorem cs_home {p : Program} {l : Launch} {e : Env} {s : State} {m : MethodId} {b L : Nat} {xs : Nat → Int32} {below : List Frame} {meth : Method} {cd : Code} {H : Heap} {locs : List Loc} {Q : State → Prop} {ls : Array Slot} {A : Nat → Prop} {D : va_G} {c : Nat → ClassId} {kS vS : Nat} {fS : Nat → Int32} {h0 m0 k nm nq : Nat} {R : Int32 → (Nat → Option Nat) → (Nat → Int32) → (Nat → Int32) → (Nat → Int32) → (Nat → va_W) → Prop} (a1 : Int32) (a2 : Int32)  (C : CX p s m cd b L xs A D c kS vS fS) (hk : k ≤ 200) (hls : ls.size = 4) (hJ : LQ R D A s c h0 m0 nm nq H locs) (kk : ∀ (r : Int32) (H1 : Heap) (locs1 : List Loc) (nm' nq' : Nat), LQ R D A s c h0 m0 nm' nq' H1 locs1 → W p l e room_1 s m #[Value.ref b] below meth cd H1 locs1 (100 + 100 * (k + 1) + (nm' + nq' / 256)) (3160000 + 5000 * (k + 1) + (2 * nm' + 2 * nq')) Q (F0 m 974 ls (.int r :: []))) : W p l e room_1 s m #[Value.ref b] below meth cd H locs (100 + 100 * k + (nm + nq / 256)) (3160000 + 5000 * k + (2 * nm + 2 * nq)) Q (F0 m 971 ls (.int a2 :: .int a1 :: .ref h0 :: [])) := by
  obtain ⟨hx, hb, hml, hown, hts, hN, hK, hA, hE, hX, hbl, hbA⟩ := C
  obtain ⟨xv, rc, rf, imf, sf, ig, md, wx, wm, bk, hI, hM, hR, hQ, hP, hD, hS⟩ := hJ
  rcases (show (0 ≤ a1.toInt ∧ a1.toInt < rc.toInt) ∨ (a1.toInt < 0 ∨ rc.toInt ≤ a1.toInt) by omega) with q | q
  · have hr := XI_rc hI
    have hc := cl_int (x := a1) q.1
    obtain ⟨g, hg, hB⟩ := (hR (Int32.toNatClampNeg a1) (by omega)).1 (by omega)
    have hi : Int32.toNatClampNeg a1 < 10 := by omega
    exact cl_X10_home_1 a1 a2 hk hx hb hml hown hts hN hK hA hls hI hB (hP.perm (pw_out hi)) (hD.perm (pw_out hi)) hS q hg (fun r H1 locs1 wx' h1 h2 h3 h4 => kk r H1 locs1 _ _ ⟨xv, rc, rf, imf, sf, ig, md, wx', wm, bk, h1, hM, hR, hQ, h2.perm (pw_out hi).symm, h3.perm (pw_out hi).symm, h4⟩)
  · exact cl_X10_home_0 a1 a2 hk hx hb hml hown hts hN hK hA hls hI hP hD hS q (fun r H1 locs1 wx' h1 h2 h3 h4 => kk r H1 locs1 _ _ ⟨xv, rc, rf, imf, sf, ig, md, wx', wm, bk, h1, hM, hR, hQ, h2, h3, h4⟩)
set_option maxHeartbeats 4000000 in
set_option maxRecDepth 100000 in
theorem cs_days {p : Program} {l : Launch} {e : Env} {s : State} {m : MethodId} {b L : Nat} {xs : Nat → Int32} {below : List Frame} {meth : Method} {cd : Code} {H : Heap} {locs : List Loc} {Q : State → Prop} {ls : Array Slot} {A : Nat → Prop} {D : va_G} {c : Nat → ClassId} {kS vS : Nat} {fS : Nat → Int32} {h0 m0 k nm nq : Nat} {R : Int32 → (Nat → Option Nat) → (Nat → Int32) → (Nat → Int32) → (Nat → Int32) → (Nat → va_W) → Prop} (a1 : Int32) (a2 : Int32) (a3 : Int32) (a4 : Int32)  (C : CX p s m cd b L xs A D c kS vS fS) (hk : k ≤ 200) (hls : ls.size = 4) (hJ : LQ R D A s c h0 m0 nm nq H locs) (kk : ∀ (r : Int32) (H1 : Heap) (locs1 : List Loc) (nm' nq' : Nat), LQ R D A s c h0 m0 nm' nq' H1 locs1 → W p l e room_1 s m #[Value.ref b] below meth cd H1 locs1 (100 + 100 * (k + 1) + (nm' + nq' / 256)) (3160000 + 5000 * (k + 1) + (2 * nm' + 2 * nq')) Q (F0 m 1040 ls (.int r :: []))) : W p l e room_1 s m #[Value.ref b] below meth cd H locs (100 + 100 * k + (nm + nq / 256)) (3160000 + 5000 * k + (2 * nm + 2 * nq)) Q (F0 m 1037 ls (.int a4 :: .int a3 :: .int a2 :: .int a1 :: .ref h0 :: [])) := by
  obtain ⟨hx, hb, hml, hown, hts, hN, hK, hA, hE, hX, hbl, hbA⟩ := C
  obtain ⟨xv, rc, rf, imf, sf, ig, md, wx, wm, bk, hI, hM, hR, hQ, hP, hD, hS⟩ := hJ
  rcases (show (0 ≤ a1.toInt ∧ a1.toInt < rc.toInt) ∨ (a1.toInt < 0 ∨ rc.toInt ≤ a1.toInt) by omega) with q | q
  · have hr := XI_rc hI
    have hc := cl_int (x := a1) q.1
    obtain ⟨g, hg, hB⟩ := (hR (Int32.toNatClampNeg a1) (by omega)).1 (by omega)
    have hi : Int32.toNatClampNeg a1 < 10 := by omega
    exact cl_X10_days_1 a1 a2 a3 a4 hk hx hb hml hown hts hN hK hA hls hI hB (hP.perm (pw_out hi)) (hD.perm (pw_out hi)) hS q hg (fun r H1 locs1 wx' h1 h2 h3 h4 => kk r H1 locs1 _ _ ⟨xv, rc, rf, imf, sf, ig, md, wx', wm, bk, h1, hM, hR, hQ, h2.perm (pw_out hi).symm, h3.perm (pw_out hi).symm, h4⟩)
  · exact cl_X10_days_0 a1 a2 a3 a4 hk hx hb hml hown hts hN hK hA hls hI hP hD hS q (fun r H1 locs1 wx' h1 h2 h3 h4 => kk r H1 locs1 _ _ ⟨xv, rc, rf, imf, sf, ig, md, wx', wm, bk, h1, hM, hR, hQ, h2, h3, h4⟩)
set_option maxHeartbeats 4000000 in
set_option maxRecDepth 100000 in
theorem cs_finest {p : Program} {l : Launch} {e : Env} {s : State} {m : MethodId} {b L : Nat} {xs : Nat → Int32} {below : List Frame} {meth : Method} {cd : Code} {H : Heap} {locs : List Loc} {Q : State → Prop} {ls : Array Slot} {A : Nat → Prop} {D : va_G} {c : Nat → ClassId} {kS vS : Nat} {fS : Nat → Int32} {h0 m0 k nm nq : Nat} {R : Int32 → (Nat → Option Nat) → (Nat → Int32) → (Nat → Int32) → (Nat → Int32) → (Nat → va_W) → Prop} (a1 : Int32)  (C : CX p s m cd b L xs A D c kS vS fS) (hk : k ≤ 200) (hls : ls.size = 4) (hJ : LQ R D A s c h0 m0 nm nq H locs) (kk : ∀ (r : Int32) (H1 : Heap) (locs1 : List Loc) (nm' nq' : Nat), LQ R D A s c h0 m0 nm' nq' H1 locs1 → W p l e room_1 s m #[Value.ref b] below meth cd H1 locs1 (100 + 100 * (k + 1) + (nm' + nq' / 256)) (3160000 + 5000 * (k + 1) + (2 * nm' + 2 * nq')) Q (F0 m 946 ls (.int r :: []))) : W p l e room_1 s m #[Value.ref b] below meth cd H locs (100 + 100 * k + (nm + nq / 256)) (3160000 + 5000 * k + (2 * nm + 2 * nq)) Q (F0 m 943 ls (.int a1 :: .ref h0 :: [])) := by
  obtain ⟨hx, hb, hml, hown, hts, hN, hK, hA, hE, hX, hbl, hbA⟩ := C
  obtain ⟨xv, rc, rf, imf, sf, ig, md, wx, wm, bk, hI, hM, hR, hQ, hP, hD, hS⟩ := hJ
  have hr := XI_rc hI
  rcases (show rc.toInt = 0 ∨ rc.toInt = 1 ∨ rc.toInt = 2 ∨ rc.toInt = 3 ∨ rc.toInt = 4 ∨ rc.toInt = 5 ∨ rc.toInt = 6 by omega) with q | q | q | q | q | q | q
  · have hrc : rc = 0 := eq_of q (by decide) rfl
    exact cl_X10_finest_0_0 a1 hk hx hb hml hown hts hN hK hA hls hI hrc hP hD hS (fun r H1 locs1 wx' h1 h2 h3 h4 => kk r H1 locs1 _ _ ⟨xv, rc, rf, imf, sf, ig, md, wx', wm, bk, h1, hM, hR, hQ, h2, h3, h4⟩)
  · have hrc : rc = 1 := eq_of q (by decide) rfl
    obtain ⟨g0, e0, B0⟩ := (hR 0 (by omega)).1 (by omega)
    obtain ⟨rs, hsp⟩ := pl_split (bk := bk) (k := 1) 9
    have hsp : pl bk 10 = rs ++ (bk 0 ++ ([])) := hsp
    exact cl_X10_finest_1_1 a1 hk hx hb hml hown hts hN hK hA hls hI B0 hrc (hP.perm (pw_spl hsp)) (hD.perm (pw_spl hsp)) hS e0 (fun r H1 locs1 wx' h1 h2 h3 h4 => kk r H1 locs1 _ _ ⟨xv, rc, rf, imf, sf, ig, md, wx', wm, bk, h1, hM, hR, hQ, h2.perm (pw_spl hsp).symm, h3.perm (pw_spl hsp).symm, h4⟩)
  · have hrc : rc = 2 := eq_of q (by decide) rfl
    obtain ⟨g0, e0, B0⟩ := (hR 0 (by omega)).1 (by omega)
    obtain ⟨g1, e1, B1⟩ := (hR 1 (by omega)).1 (by omega)
    obtain ⟨rs, hsp⟩ := pl_split (bk := bk) (k := 2) 8
    have hsp : pl bk 10 = rs ++ (bk 1 ++ (bk 0 ++ ([]))) := hsp
    exact cl_X10_finest_2_2 a1 hk hx hb hml hown hts hN hK hA hls hI B0 B1 hrc (hP.perm (pw_spl hsp)) (hD.perm (pw_spl hsp)) hS ⟨e0, e1⟩ (fun r H1 locs1 wx' h1 h2 h3 h4 => kk r H1 locs1 _ _ ⟨xv, rc, rf, imf, sf, ig, md, wx', wm, bk, h1, hM, hR, hQ, h2.perm (pw_spl hsp).symm, h3.perm (pw_spl hsp).symm, h4⟩)
  · have hrc : rc = 3 := eq_of q (by decide) rfl
    obtain ⟨g0, e0, B0⟩ := (hR 0 (by omega)).1 (by omega)
    obtain ⟨g1, e1, B1⟩ := (hR 1 (by omega)).1 (by omega)
    obtain ⟨g2, e2, B2⟩ := (hR 2 (by omega)).1 (by omega)
    obtain ⟨rs, hsp⟩ := pl_split (bk := bk) (k := 3) 7
    have hsp : pl bk 10 = rs ++ (bk 2 ++ (bk 1 ++ (bk 0 ++ ([])))) := hsp
    exact cl_X10_finest_3_3 a1 hk hx hb hml hown hts hN hK hA hls hI B0 B1 B2 hrc (hP.perm (pw_spl hsp)) (hD.perm (pw_spl hsp)) hS ⟨e0, e1, e2⟩ (fun r H1 locs1 wx' h1 h2 h3 h4 => kk r H1 locs1 _ _ ⟨xv, rc, rf, imf, sf, ig, md, wx', wm, bk, h1, hM, hR, hQ, h2.perm (pw_spl hsp).symm, h3.perm (pw_spl hsp).symm, h4⟩)
  · have hrc : rc = 4 := eq_of q (by decide) rfl
    obtain ⟨g0, e0, B0⟩ := (hR 0 (by omega)).1 (by omega)
    obtain ⟨g1, e1, B1⟩ := (hR 1 (by omega)).1 (by omega)
    obtain ⟨g2, e2, B2⟩ := (hR 2 (by omega)).1 (by omega)
    obtain ⟨g3, e3, B3⟩ := (hR 3 (by omega)).1 (by omega)
    obtain ⟨rs, hsp⟩ := pl_split (bk := bk) (k := 4) 6
    have hsp : pl bk 10 = rs ++ (bk 3 ++ (bk 2 ++ (bk 1 ++ (bk 0 ++ ([]))))) := hsp
    exact cl_X10_finest_4_4 a1 hk hx hb hml hown hts hN hK hA hls hI B0 B1 B2 B3 hrc (hP.perm (pw_spl hsp)) (hD.perm (pw_spl hsp)) hS ⟨e0, e1, e2, e3⟩ (fun r H1 locs1 wx' h1 h2 h3 h4 => kk r H1 locs1 _ _ ⟨xv, rc, rf, imf, sf, ig, md, wx', wm, bk, h1, hM, hR, hQ, h2.perm (pw_spl hsp).symm, h3.perm (pw_spl hsp).symm, h4⟩)
  · have hrc : rc = 5 := eq_of q (by decide) rfl
    obtain ⟨g0, e0, B0⟩ := (hR 0 (by omega)).1 (by omega)
    obtain ⟨g1, e1, B1⟩ := (hR 1 (by omega)).1 (by omega)
    obtain ⟨g2, e2, B2⟩ := (hR 2 (by omega)).1 (by omega)
    obtain ⟨g3, e3, B3⟩ := (hR 3 (by omega)).1 (by omega)
    obtain ⟨g4, e4, B4⟩ := (hR 4 (by omega)).1 (by omega)
    obtain ⟨rs, hsp⟩ := pl_split (bk := bk) (k := 5) 5
    have hsp : pl bk 10 = rs ++ (bk 4 ++ (bk 3 ++ (bk 2 ++ (bk 1 ++ (bk 0 ++ ([])))))) := hsp
    exact cl_X10_finest_5_5 a1 hk hx hb hml hown hts hN hK hA hls hI B0 B1 B2 B3 B4 hrc (hP.perm (pw_spl hsp)) (hD.perm (pw_spl hsp)) hS ⟨e0, e1, e2, e3, e4⟩ (fun r H1 locs1 wx' h1 h2 h3 h4 => kk r H1 locs1 _ _ ⟨xv, rc, rf, imf, sf, ig, md, wx', wm, bk, h1, hM, hR, hQ, h2.perm (pw_spl hsp).symm, h3.perm (pw_spl hsp).symm, h4⟩)
  · have hrc : rc = 6 := eq_of q (by decide) rfl
    obtain ⟨g0, e0, B0⟩ := (hR 0 (by omega)).1 (by omega)
    obtain ⟨g1, e1, B1⟩ := (hR 1 (by omega)).1 (by omega)
    obtain ⟨g2, e2, B2⟩ := (hR 2 (by omega)).1 (by omega)
    obtain ⟨g3, e3, B3⟩ := (hR 3 (by omega)).1 (by omega)
    obtain ⟨g4, e4, B4⟩ := (hR 4 (by omega)).1 (by omega)
    obtain ⟨g5, e5, B5⟩ := (hR 5 (by omega)).1 (by omega)
    obtain ⟨rs, hsp⟩ := pl_split (bk := bk) (k := 6) 4
    have hsp : pl bk 10 = rs ++ (bk 5 ++ (bk 4 ++ (bk 3 ++ (bk 2 ++ (bk 1 ++ (bk 0 ++ ([]))))))) := hsp
    exact cl_X10_finest_6_6 a1 hk hx hb hml hown hts hN hK hA hls hI B0 B1 B2 B3 B4 B5 hrc (hP.perm (pw_spl hsp)) (hD.perm (pw_spl hsp)) hS ⟨e0, e1, e2, e3, e4, e5⟩ (fun r H1 locs1 wx' h1 h2 h3 h4 => kk r H1 locs1 _ _ ⟨xv, rc, rf, imf, sf, ig, md, wx', wm, bk, h1, hM, hR, hQ, h2.perm (pw_spl hsp).symm, h3.perm (pw_spl hsp).symm, h4⟩)
set_option maxHeartbeats 4000000 in
set_option maxRecDepth 100000 in
theorem cs_rule {p : Program} {l : Launch} {e : Env} {s : State} {m : MethodId} {b L : Nat} {xs : Nat → Int32} {below : List Frame} {meth : Method} {cd : Code} {H : Heap} {locs : List Loc} {Q : State → Prop} {ls : Array Slot} {A : Nat → Prop} {D : va_G} {c : Nat → ClassId} {kS vS : Nat} {fS : Nat → Int32} {h0 m0 k nm nq : Nat}  (C : CX p s m cd b L xs A D c kS vS fS) (hk : k ≤ 200) (hls : ls.size = 4) (hJ : LQ (LR c) D A s c h0 m0 nm nq H locs) (kk : ∀ (r : Int32) (H1 : Heap) (locs1 : List Loc) (nm' nq' : Nat), LQ (LR c) D A s c h0 m0 nm' nq' H1 locs1 → W p l e room_1 s m #[Value.ref b] below meth cd H1 locs1 (100 + 100 * (k + 1) + (nm' + nq' / 256)) (3160000 + 5000 * (k + 1) + (2 * nm' + 2 * nq')) Q (F0 m 279 ls (.int r :: []))) : W p l e room_1 s m #[Value.ref b] below meth cd H locs (100 + 100 * k + (nm + nq / 256)) (3160000 + 5000 * k + (2 * nm + 2 * nq)) Q (F0 m 276 ls (.ref h0 :: [])) := by
  obtain ⟨hx, hb, hml, hown, hts, hN, hK, hA, hE, hX, hbl, hbA⟩ := C
  obtain ⟨xv, rc, rf, imf, sf, ig, md, wx, wm, bk, hI, hM, hR, hQ, hP, hD, hS⟩ := hJ
  refine cl_X10_rule hk hx hb hml hown hts hN hK hA hE hls hI hP hD hS (fun r H1 locs1 wx' rc' rf' bl' h1 h2 h3 h4 h5 => ?_)
  rcases h5 with ⟨e1, e2, e3⟩ | ⟨g, e1, e2, e3⟩
  · subst e1
    subst e3
    exact kk r H1 locs1 _ _ ⟨xv, rc', _, imf, sf, ig, md, wx', wm, bk, h1, hM, (fun i hi => by rw [e2]; exact hR i hi), hQ, h2, h3, h4⟩
  · subst e1
    have hr := XI_rc hI
    have hr' := XI_rc h1
    have hc := cl_int (x := rc) hr.1
    have hz : bk (Int32.toNatClampNeg rc) = [] := (hR _ (by omega)).2 (by omega)
    have hu : va_up bk (Int32.toNatClampNeg rc) [] = bk := by rw [← hz]; exact up_id
    have hpm := pw_in (wx := wx') (wm := wm) (w := bl') (bk := bk) (i := Int32.toNatClampNeg rc) (by omega)
    rw [hu] at hpm
    refine kk r H1 locs1 _ _ ⟨xv, rc', _, imf, sf, ig, md, wx', wm, va_up bk (Int32.toNatClampNeg rc) bl', h1, hM, ?_, ⟨hQ.1, PI_bk hQ.2 (fun j hj => va_up_ne _ _ (by omega))⟩, h2.perm hpm, h3.perm hpm, h4⟩
    intro i hi
    by_cases e : i = Int32.toNatClampNeg rc
    · subst e
      rw [va_up_self, va_up_self]
      exact ⟨fun _ => ⟨g, rfl, e3⟩, fun q => by omega⟩
    · rw [va_up_ne _ _ e, va_up_ne _ _ e]
      exact ⟨fun q => (hR i hi).1 (by omega), fun q => (hR i hi).2 (by omega)⟩
set_option maxHeartbeats 4000000 in
set_option maxRecDepth 100000 in
theorem cs_seed {p : Program} {l : Launch} {e : Env} {s : State} {m : MethodId} {b L : Nat} {xs : Nat → Int32} {below : List Frame} {meth : Method} {cd : Code} {H : Heap} {locs : List Loc} {Q : State → Prop} {ls : Array Slot} {A : Nat → Prop} {D : va_G} {c : Nat → ClassId} {kS vS : Nat} {fS : Nat → Int32} {h0 m0 k nm nq : Nat} (a1 : Int32)  (C : CX p s m cd b L xs A D c kS vS fS) (hk : k ≤ 200) (hls : ls.size = 4) (hJ : LQ (LR c) D A s c h0 m0 nm nq H locs) (kk : ∀ (r : Int32) (H1 : Heap) (locs1 : List Loc) (nm' nq' : Nat), LQ (R4 c a1 r) D A s c h0 m0 nm' nq' H1 locs1 → W p l e room_1 s m #[Value.ref b] below meth cd H1 locs1 (100 + 100 * (k + 1) + (nm' + nq' / 256)) (3160000 + 5000 * (k + 1) + (2 * nm' + 2 * nq')) Q (F0 m 1002 ls (.int r :: []))) : W p l e room_1 s m #[Value.ref b] below meth cd H locs (100 + 100 * k + (nm + nq / 256)) (3160000 + 5000 * k + (2 * nm + 2 * nq)) Q (F0 m 999 ls (.int a1 :: .ref h0 :: [])) := by
  obtain ⟨hx, hb, hml, hown, hts, hN, hK, hA, hE, hX, hbl, hbA⟩ := C
  obtain ⟨xv, rc, rf, imf, sf, ig, md, wx, wm, bk, hI, hM, hR, hQ, hP, hD, hS⟩ := hJ
  exact cl_X10_seed a1 hk hx hb hml hown hts hN hK hA hls hI hP hD hS (fun r H1 locs1 wx' xv' h1 h2 h3 h4 h5 => kk r H1 locs1 _ _ ⟨xv', rc, rf, imf, sf, ig, md, wx', wm, bk, h1, hM, hR, ⟨hQ.2, by
      have h7 := hQ.1
      rcases h5 with ⟨q1, q2, q3⟩ | ⟨q1, q2, q3⟩
      · exact Or.inl ⟨q1, by rw [q2]; exact h7, q3⟩
      · exact Or.inr ⟨q1, q2, by rw [q3, h7]⟩⟩, h2, h3, h4⟩)
set_option maxHeartbeats 4000000 in
set_option maxRecDepth 100000 in
theorem cs_image {p : Program} {l : Launch} {e : Env} {s : State} {m : MethodId} {b L : Nat} {xs : Nat → Int32} {below : List Frame} {meth : Method} {cd : Code} {H : Heap} {locs : List Loc} {Q : State → Prop} {ls : Array Slot} {A : Nat → Prop} {D : va_G} {c : Nat → ClassId} {kS vS : Nat} {fS : Nat → Int32} {h0 m0 k nm nq : Nat} (a1 : Int32)  (C : CX p s m cd b L xs A D c kS vS fS) (hk : k ≤ 200) (hls : ls.size = 4) (hJ : LQ (LR c) D A s c h0 m0 nm nq H locs) (kk : ∀ (r : Int32) (H1 : Heap) (locs1 : List Loc) (nm' nq' : Nat), LQ (R2 c a1) D A s c h0 m0 nm' nq' H1 locs1 → W p l e room_1 s m #[Value.ref b] below meth cd H1 locs1 (100 + 100 * (k + 1) + (nm' + nq' / 256)) (3160000 + 5000 * (k + 1) + (2 * nm' + 2 * nq')) Q (F0 m 1101 ls (.int r :: []))) : W p l e room_1 s m #[Value.ref b] below meth cd H locs (100 + 100 * k + (nm + nq / 256)) (3160000 + 5000 * k + (2 * nm + 2 * nq)) Q (F0 m 1098 ls (.int a1 :: .ref h0 :: [])) := by
  obtain ⟨hx, hb, hml, hown, hts, hN, hK, hA, hE, hX, hbl, hbA⟩ := C
  obtain ⟨xv, rc, rf, imf, sf, ig, md, wx, wm, bk, hI, hM, hR, hQ, hP, hD, hS⟩ := hJ
  rcases (show (0 ≤ a1.toInt ∧ a1.toInt ≤ 3) ∨ (a1.toInt < 0 ∨ 3 < a1.toInt) by omega) with q | q
  · have hc := cl_int (x := a1) q.1
    have hj : Int32.toNatClampNeg a1 < 4 := by omega
    have hi : 6 + Int32.toNatClampNeg a1 < 10 := by omega
    rcases hQ.2 _ hj with ⟨z1, z2, z3⟩ | ⟨g, z1, z2, z3⟩
    · refine cl_X10_image_0 a1 hk hx hb hml hown hts hN hK hA hls hI hP hD hS q z1 (fun r H1 locs1 wx' imf' bl' h1 h2 h3 h4 h5 => ?_)
      obtain ⟨g, e1, e2⟩ := h5
      subst e1
      have hu : va_up bk (6 + Int32.toNatClampNeg a1) [] = bk := by rw [← z3]; exact up_id
      have hpm := pw_in (wx := wx') (wm := wm) (w := bl') (bk := bk) hi
      rw [hu] at hpm
      refine kk r H1 locs1 _ _ ⟨xv, rc, rf, _, sf, ig, md, wx', wm, va_up bk (6 + Int32.toNatClampNeg a1) bl', h1, hM, (fun i hi => by rw [va_up_ne _ _ (by omega)]; exact hR i hi), ⟨hQ.1, Or.inr ⟨q.1, q.2, fun j hj hn => ?_, g, va_up_self _ _ _, by rw [va_up_self]; exact e2⟩⟩, h2.perm hpm, h3.perm hpm, h4⟩
      have hp := hQ.2 j hj
      unfold PI1 at hp ⊢
      rw [va_up_ne _ _ hn, va_up_ne bk _ (by omega)]
      exact hp
    · refine cl_X10_image_1 a1 hk hx hb hml hown hts hN hK hA hls hI z3 (hP.perm (pw_out hi)) (hD.perm (pw_out hi)) hS q z1 (fun r H1 locs1 wx' bl' h1 h2 h3 h4 h5 => ?_)
      have hpm := pw_in (wx := wx') (wm := wm) (w := bl') (bk := bk) hi
      refine kk r H1 locs1 _ _ ⟨xv, rc, rf, imf, sf, ig, md, wx', wm, va_up bk (6 + Int32.toNatClampNeg a1) bl', h1, hM, (fun i hi => by rw [va_up_ne _ _ (by omega)]; exact hR i hi), ⟨hQ.1, Or.inr ⟨q.1, q.2, fun j hj hn => ?_, g, z1, by rw [va_up_self]; exact h5⟩⟩, h2.perm hpm, h3.perm hpm, h4⟩
      have hp := hQ.2 j hj
      unfold PI1 at hp ⊢
      rw [va_up_ne bk _ (by omega)]
      exact hp
  · exact cl_X10_image_2 a1 hk hx hb hml hown hts hN hK hA hls hI hP hD hS q (fun r H1 locs1 wx' h1 h2 h3 h4 => kk r H1 locs1 _ _ ⟨xv, rc, rf, imf, sf, ig, md, wx', wm, bk, h1, hM, hR, ⟨hQ.1, Or.inl ⟨q, hQ.2⟩⟩, h2, h3, h4⟩)
set_option maxHeartbeats 4000000 in
set_option maxRecDepth 100000 in
theorem cs_back {p : Program} {l : Launch} {e : Env} {s : State} {m : MethodId} {b L : Nat} {xs : Nat → Int32} {below : List Frame} {meth : Method} {cd : Code} {H : Heap} {locs : List Loc} {Q : State → Prop} {ls : Array Slot} {A : Nat → Prop} {D : va_G} {c : Nat → ClassId} {kS vS : Nat} {fS : Nat → Int32} {h0 m0 k nm nq : Nat} (a1 : Int32)  (C : CX p s m cd b L xs A D c kS vS fS) (hk : k ≤ 200) (hls : ls.size = 4) (hJ : LQ (LR c) D A s c h0 m0 nm nq H locs) (kk : ∀ (r : Int32) (H1 : Heap) (locs1 : List Loc) (nm' nq' : Nat), LQ (R3 c a1) D A s c h0 m0 nm' nq' H1 locs1 → W p l e room_1 s m #[Value.ref b] below meth cd H1 locs1 (100 + 100 * (k + 1) + (nm' + nq' / 256)) (3160000 + 5000 * (k + 1) + (2 * nm' + 2 * nq')) Q (F0 m 1124 ls (.int r :: []))) : W p l e room_1 s m #[Value.ref b] below meth cd H locs (100 + 100 * k + (nm + nq / 256)) (3160000 + 5000 * k + (2 * nm + 2 * nq)) Q (F0 m 1121 ls (.int a1 :: .ref h0 :: [])) := by
  obtain ⟨hx, hb, hml, hown, hts, hN, hK, hA, hE, hX, hbl, hbA⟩ := C
  obtain ⟨xv, rc, rf, imf, sf, ig, md, wx, wm, bk, hI, hM, hR, hQ, hP, hD, hS⟩ := hJ
  rcases (show (0 ≤ a1.toInt ∧ a1.toInt ≤ 3) ∨ (a1.toInt < 0 ∨ 3 < a1.toInt) by omega) with q | q
  · have hc := cl_int (x := a1) q.1
    have hj : Int32.toNatClampNeg a1 < 4 := by omega
    have hi : 6 + Int32.toNatClampNeg a1 < 10 := by omega
    rcases hQ.2 _ hj with ⟨z1, z2, z3⟩ | ⟨g, z1, z2, z3⟩
    · exact cl_X10_back_0 a1 hk hx hb hml hown hts hN hK hA hls hI hP hD hS q z1 (fun r H1 locs1 wx' h1 h2 h3 h4 => kk r H1 locs1 _ _ ⟨xv, rc, rf, imf, sf, ig, md, wx', wm, bk, h1, hM, hR, ⟨hQ.2, Or.inl ⟨Or.inr (Or.inr (by rw [z2]; decide)), hQ.1⟩⟩, h2, h3, h4⟩)
    · exact cl_X10_back_1 a1 hk hx hb hml hown hts hN hK hA hls hI z3 (hP.perm (pw_out hi)) (hD.perm (pw_out hi)) hS q z1 (fun r H1 locs1 wx' h1 h2 h3 h4 => kk r H1 locs1 _ _ ⟨_, rc, rf, imf, sf, ig, md, wx', wm, bk, h1, hM, hR, ⟨hQ.2, Or.inr ⟨q.1, q.2, by rw [z2]; decide, rfl⟩⟩, h2.perm (pw_out hi).symm, h3.perm (pw_out hi).symm, h4⟩)
  · exact cl_X10_back_2 a1 hk hx hb hml hown hts hN hK hA hls hI hP hD hS q (fun r H1 locs1 wx' h1 h2 h3 h4 => kk r H1 locs1 _ _ ⟨xv, rc, rf, imf, sf, ig, md, wx', wm, bk, h1, hM, hR, ⟨hQ.2, Or.inl ⟨(by omega), hQ.1⟩⟩, h2, h3, h4⟩)
