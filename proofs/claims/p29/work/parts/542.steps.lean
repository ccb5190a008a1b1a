set_option maxHeartbeats 4000000 in
set_option maxRecDepth 100000 in
theorem rs_feed {p : Program} {l : Launch} {e : Env} {s : State} {m : MethodId} {b L : Nat} {xs : Nat → Int32} {below : List Frame} {meth : Method} {cd : Code} {H : Heap} {locs : List Loc} {Q : State → Prop} {ls : Array Slot} {A : Nat → Prop} {D : va_G} {c : Nat → ClassId} {kS vS : Nat} {fS : Nat → Int32} {h0 m0 k nm nq : Nat} {R : Int32 → (Nat → Option Nat) → (Nat → Int32) → (Nat → Int32) → (Nat → Int32) → (Nat → va_W) → Prop} (a1 : Int32) (a2 : Int32) (a3 : Int32) (a4 : Int32) (a5 : Int32)  (C : CX p s m cd b L xs A D c kS vS fS) (hk : k ≤ 200) (hls : ls.size = 4) (hJ : LQ R D A s c h0 m0 nm nq H locs) (kk : ∀ (r : Int32) (H1 : Heap) (locs1 : List Loc), LQ R D A s c h0 m0 nm nq H1 locs1 → W p l e room_1 s m #[Value.ref b] below meth cd H1 locs1 (100 + 100 * (k + 1) + (nm + nq / 256)) (3160000 + 5000 * (k + 1) + (2 * nm + 2 * nq)) Q (F0 m 235 ls (.int r :: []))) : W p l e room_1 s m #[Value.ref b] below meth cd H locs (100 + 100 * k + (nm + nq / 256)) (3160000 + 5000 * k + (2 * nm + 2 * nq)) Q (F0 m 232 ls (.int a5 :: .int a4 :: .int a3 :: .int a2 :: .int a1 :: .ref m0 :: [])) := by
  obtain ⟨hx, hb, hml, hown, hts, hN, hK, hA, hE, hX, hbl, hbA⟩ := C
  obtain ⟨xv, rc, rf, imf, sf, ig, md, wx, wm, bk, hI, hM, hR, hQ, hP, hD, hS⟩ := hJ
  have hnm := XI_nm hI
  exact rf_X11_feed a1 a2 a3 a4 a5 hnm.1 hnm.2 hk hx hb hml hown hts hN hK hA hls hM (hP.perm pw_mx) (hD.perm pw_mx) hS (fun r H1 locs1 wm' h1 h2 h3 h4 => kk r H1 locs1 ⟨xv, rc, rf, imf, sf, ig, md, wx, wm', bk, hI, h1, hR, hQ, h2.perm pw_mx, h3.perm pw_mx, h4⟩)
set_option maxHeartbeats 4000000 in
set_option maxRecDepth 100000 in
theorem rs_end {p : Program} {l : Launch} {e : Env} {s : State} {m : MethodId} {b L : Nat} {xs : Nat → Int32} {below : List Frame} {meth : Method} {cd : Code} {H : Heap} {locs : List Loc} {Q : State → Prop} {ls : Array Slot} {A : Nat → Prop} {D : va_G} {c : Nat → ClassId} {kS vS : Nat} {fS : Nat → Int32} {h0 m0 k nm nq : Nat} {R : Int32 → (Nat → Option Nat) → (Nat → Int32) → (Nat → Int32) → (Nat → Int32) → (Nat → va_W) → Prop} (a1 : Int32)  (C : CX p s m cd b L xs A D c kS vS fS) (hk : k ≤ 200) (hls : ls.size = 4) (hJ : LQ R D A s c h0 m0 nm nq H locs) (kk : ∀ (r : Int32) (H1 : Heap) (locs1 : List Loc), LQ R D A s c h0 m0 nm nq H1 locs1 → W p l e room_1 s m #[Value.ref b] below meth cd H1 locs1 (100 + 100 * (k + 1) + (nm + nq / 256)) (3160000 + 5000 * (k + 1) + (2 * nm + 2 * nq)) Q (F0 m 258 ls (.int r :: []))) : W p l e room_1 s m #[Value.ref b] below meth cd H locs (100 + 100 * k + (nm + nq / 256)) (3160000 + 5000 * k + (2 * nm + 2 * nq)) Q (F0 m 255 ls (.int a1 :: .ref m0 :: [])) := by
  obtain ⟨hx, hb, hml, hown, hts, hN, hK, hA, hE, hX, hbl, hbA⟩ := C
  obtain ⟨xv, rc, rf, imf, sf, ig, md, wx, wm, bk, hI, hM, hR, hQ, hP, hD, hS⟩ := hJ
  have hnm := XI_nm hI
  exact rf_X11_end a1 hnm.1 hnm.2 hk hx hb hml hown hts hN hK hA hls hM (hP.perm pw_mx) (hD.perm pw_mx) hS (fun r H1 locs1 wm' h1 h2 h3 h4 => kk r H1 locs1 ⟨xv, rc, rf, imf, sf, ig, md, wx, wm', bk, hI, h1, hR, hQ, h2.perm pw_mx, h3.perm pw_mx, h4⟩)
set_option maxHeartbeats 4000000 in
set_option maxRecDepth 100000 in
theorem rs_rule {p : Program} {l : Launch} {e : Env} {s : State} {m : MethodId} {b L : Nat} {xs : Nat → Int32} {below : List Frame} {meth : Method} {cd : Code} {H : Heap} {locs : List Loc} {Q : State → Prop} {ls : Array Slot} {A : Nat → Prop} {D : va_G} {c : Nat → ClassId} {kS vS : Nat} {fS : Nat → Int32} {h0 m0 k nm nq : Nat} {R : Int32 → (Nat → Option Nat) → (Nat → Int32) → (Nat → Int32) → (Nat → Int32) → (Nat → va_W) → Prop}  (C : CX p s m cd b L xs A D c kS vS fS) (hk : k ≤ 200) (hls : ls.size = 4) (hJ : LQ R D A s c h0 m0 nm nq H locs) (kk : ∀ (r : Int32) (H1 : Heap) (locs1 : List Loc), LQ R D A s c h0 m0 nm nq H1 locs1 → W p l e room_1 s m #[Value.ref b] below meth cd H1 locs1 (100 + 100 * (k + 1) + (nm + nq / 256)) (3160000 + 5000 * (k + 1) + (2 * nm + 2 * nq)) Q (F0 m 284 ls (.int r :: []))) : W p l e room_1 s m #[Value.ref b] below meth cd H locs (100 + 100 * k + (nm + nq / 256)) (3160000 + 5000 * k + (2 * nm + 2 * nq)) Q (F0 m 281 ls (.ref m0 :: [])) := by
  obtain ⟨hx, hb, hml, hown, hts, hN, hK, hA, hE, hX, hbl, hbA⟩ := C
  obtain ⟨xv, rc, rf, imf, sf, ig, md, wx, wm, bk, hI, hM, hR, hQ, hP, hD, hS⟩ := hJ
  have hnm := XI_nm hI
  exact rf_X11_rule hnm.1 hnm.2 hk hx hb hml hown hts hN hK hA hls hM (hP.perm pw_mx) (hD.perm pw_mx) hS (fun r H1 locs1 wm' h1 h2 h3 h4 => kk r H1 locs1 ⟨xv, rc, rf, imf, sf, ig, md, wx, wm', bk, hI, h1, hR, hQ, h2.perm pw_mx, h3.perm pw_mx, h4⟩)
set_option maxHeartbeats 4000000 in
set_option maxRecDepth 100000 in
theorem rs_way {p : Program} {l : Launch} {e : Env} {s : State} {m : MethodId} {b L : Nat} {xs : Nat → Int32} {below : List Frame} {meth : Method} {cd : Code} {H : Heap} {locs : List Loc} {Q : State → Prop} {ls : Array Slot} {A : Nat → Prop} {D : va_G} {c : Nat → ClassId} {kS vS : Nat} {fS : Nat → Int32} {h0 m0 k nm nq : Nat} {R : Int32 → (Nat → Option Nat) → (Nat → Int32) → (Nat → Int32) → (Nat → Int32) → (Nat → va_W) → Prop} (a1 : Int32) (a2 : Int32)  (C : CX p s m cd b L xs A D c kS vS fS) (hk : k ≤ 200) (hls : ls.size = 4) (hJ : LQ R D A s c h0 m0 nm nq H locs) (kk : ∀ (r : Int32) (H1 : Heap) (locs1 : List Loc), LQ R D A s c h0 m0 nm nq H1 locs1 → W p l e room_1 s m #[Value.ref b] below meth cd H1 locs1 (100 + 100 * (k + 1) + (nm + nq / 256)) (3160000 + 5000 * (k + 1) + (2 * nm + 2 * nq)) Q (F0 m 317 ls (.int r :: []))) : W p l e room_1 s m #[Value.ref b] below meth cd H locs (100 + 100 * k + (nm + nq / 256)) (3160000 + 5000 * k + (2 * nm + 2 * nq)) Q (F0 m 314 ls (.int a2 :: .int a1 :: .ref m0 :: [])) := by
  obtain ⟨hx, hb, hml, hown, hts, hN, hK, hA, hE, hX, hbl, hbA⟩ := C
  obtain ⟨xv, rc, rf, imf, sf, ig, md, wx, wm, bk, hI, hM, hR, hQ, hP, hD, hS⟩ := hJ
  have hnm := XI_nm hI
  exact rf_X11_way a1 a2 hnm.1 hnm.2 hk hx hb hml hown hts hN hK hA hls hM (hP.perm pw_mx) (hD.perm pw_mx) hS (fun r H1 locs1 wm' h1 h2 h3 h4 => kk r H1 locs1 ⟨xv, rc, rf, imf, sf, ig, md, wx, wm', bk, hI, h1, hR, hQ, h2.perm pw_mx, h3.perm pw_mx, h4⟩)
set_option maxHeartbeats 4000000 in
set_option maxRecDepth 100000 in
theorem rs_goer {p : Program} {l : Launch} {e : Env} {s : State} {m : MethodId} {b L : Nat} {xs : Nat → Int32} {below : List Frame} {meth : Method} {cd : Code} {H : Heap} {locs : List Loc} {Q : State → Prop} {ls : Array Slot} {A : Nat → Prop} {D : va_G} {c : Nat → ClassId} {kS vS : Nat} {fS : Nat → Int32} {h0 m0 k nm nq : Nat} {R : Int32 → (Nat → Option Nat) → (Nat → Int32) → (Nat → Int32) → (Nat → Int32) → (Nat → va_W) → Prop} (a1 : Int32) (a2 : Int32)  (C : CX p s m cd b L xs A D c kS vS fS) (hk : k ≤ 200) (hls : ls.size = 4) (hJ : LQ R D A s c h0 m0 nm nq H locs) (kk : ∀ (r : Int32) (H1 : Heap) (locs1 : List Loc), LQ R D A s c h0 m0 nm nq H1 locs1 → W p l e room_1 s m #[Value.ref b] below meth cd H1 locs1 (100 + 100 * (k + 1) + (nm + nq / 256)) (3160000 + 5000 * (k + 1) + (2 * nm + 2 * nq)) Q (F0 m 350 ls (.int r :: []))) : W p l e room_1 s m #[Value.ref b] below meth cd H locs (100 + 100 * k + (nm + nq / 256)) (3160000 + 5000 * k + (2 * nm + 2 * nq)) Q (F0 m 347 ls (.int a2 :: .int a1 :: .ref m0 :: [])) := by
  obtain ⟨hx, hb, hml, hown, hts, hN, hK, hA, hE, hX, hbl, hbA⟩ := C
  obtain ⟨xv, rc, rf, imf, sf, ig, md, wx, wm, bk, hI, hM, hR, hQ, hP, hD, hS⟩ := hJ
  have hnm := XI_nm hI
  exact rf_X11_goer a1 a2 hnm.1 hnm.2 hk hx hb hml hown hts hN hK hA hls hM (hP.perm pw_mx) (hD.perm pw_mx) hS (fun r H1 locs1 wm' h1 h2 h3 h4 => kk r H1 locs1 ⟨xv, rc, rf, imf, sf, ig, md, wx, wm', bk, hI, h1, hR, hQ, h2.perm pw_mx, h3.perm pw_mx, h4⟩)
set_option maxHeartbeats 4000000 in
set_option maxRecDepth 100000 in
theorem rs_place {p : Program} {l : Launch} {e : Env} {s : State} {m : MethodId} {b L : Nat} {xs : Nat → Int32} {below : List Frame} {meth : Method} {cd : Code} {H : Heap} {locs : List Loc} {Q : State → Prop} {ls : Array Slot} {A : Nat → Prop} {D : va_G} {c : Nat → ClassId} {kS vS : Nat} {fS : Nat → Int32} {h0 m0 k nm nq : Nat} {R : Int32 → (Nat → Option Nat) → (Nat → Int32) → (Nat → Int32) → (Nat → Int32) → (Nat → va_W) → Prop} (a1 : Int32) (a2 : Int32)  (C : CX p s m cd b L xs A D c kS vS fS) (hk : k ≤ 200) (hls : ls.size = 4) (hJ : LQ R D A s c h0 m0 nm nq H locs) (kk : ∀ (r : Int32) (H1 : Heap) (locs1 : List Loc), LQ R D A s c h0 m0 nm nq H1 locs1 → W p l e room_1 s m #[Value.ref b] below meth cd H1 locs1 (100 + 100 * (k + 1) + (nm + nq / 256)) (3160000 + 5000 * (k + 1) + (2 * nm + 2 * nq)) Q (F0 m 383 ls (.int r :: []))) : W p l e room_1 s m #[Value.ref b] below meth cd H locs (100 + 100 * k + (nm + nq / 256)) (3160000 + 5000 * k + (2 * nm + 2 * nq)) Q (F0 m 380 ls (.int a2 :: .int a1 :: .ref m0 :: [])) := by
  obtain ⟨hx, hb, hml, hown, hts, hN, hK, hA, hE, hX, hbl, hbA⟩ := C
  obtain ⟨xv, rc, rf, imf, sf, ig, md, wx, wm, bk, hI, hM, hR, hQ, hP, hD, hS⟩ := hJ
  have hnm := XI_nm hI
  exact rf_X11_place a1 a2 hnm.1 hnm.2 hk hx hb hml hown hts hN hK hA hls hM (hP.perm pw_mx) (hD.perm pw_mx) hS (fun r H1 locs1 wm' h1 h2 h3 h4 => kk r H1 locs1 ⟨xv, rc, rf, imf, sf, ig, md, wx, wm', bk, hI, h1, hR, hQ, h2.perm pw_mx, h3.perm pw_mx, h4⟩)
set_option maxHeartbeats 4000000 in
set_option maxRecDepth 100000 in
theorem rs_far {p : Program} {l : Launch} {e : Env} {s : State} {m : MethodId} {b L : Nat} {xs : Nat → Int32} {below : List Frame} {meth : Method} {cd : Code} {H : Heap} {locs : List Loc} {Q : State → Prop} {ls : Array Slot} {A : Nat → Prop} {D : va_G} {c : Nat → ClassId} {kS vS : Nat} {fS : Nat → Int32} {h0 m0 k nm nq : Nat} {R : Int32 → (Nat → Option Nat) → (Nat → Int32) → (Nat → Int32) → (Nat → Int32) → (Nat → va_W) → Prop} (a1 : Int32) (a2 : Int32)  (C : CX p s m cd b L xs A D c kS vS fS) (hk : k ≤ 200) (hls : ls.size = 4) (hJ : LQ R D A s c h0 m0 nm nq H locs) (kk : ∀ (r : Int32) (H1 : Heap) (locs1 : List Loc), LQ R D A s c h0 m0 nm nq H1 locs1 → W p l e room_1 s m #[Value.ref b] below meth cd H1 locs1 (100 + 100 * (k + 1) + (nm + nq / 256)) (3160000 + 5000 * (k + 1) + (2 * nm + 2 * nq)) Q (F0 m 416 ls (.int r :: []))) : W p l e room_1 s m #[Value.ref b] below meth cd H locs (100 + 100 * k + (nm + nq / 256)) (3160000 + 5000 * k + (2 * nm + 2 * nq)) Q (F0 m 413 ls (.int a2 :: .int a1 :: .ref m0 :: [])) := by
  obtain ⟨hx, hb, hml, hown, hts, hN, hK, hA, hE, hX, hbl, hbA⟩ := C
  obtain ⟨xv, rc, rf, imf, sf, ig, md, wx, wm, bk, hI, hM, hR, hQ, hP, hD, hS⟩ := hJ
  have hnm := XI_nm hI
  exact rf_X11_far a1 a2 hnm.1 hnm.2 hk hx hb hml hown hts hN hK hA hls hM (hP.perm pw_mx) (hD.perm pw_mx) hS (fun r H1 locs1 wm' h1 h2 h3 h4 => kk r H1 locs1 ⟨xv, rc, rf, imf, sf, ig, md, wx, wm', bk, hI, h1, hR, hQ, h2.perm pw_mx, h3.perm pw_mx, h4⟩)
set_option maxHeartbeats 4000000 in
set_option maxRecDepth 100000 in
theorem rs_fewest {p : Program} {l : Launch} {e : Env} {s : State} {m : MethodId} {b L : Nat} {xs : Nat → Int32} {below : List Frame} {meth : Method} {cd : Code} {H : Heap} {locs : List Loc} {Q : State → Prop} {ls : Array Slot} {A : Nat → Prop} {D : va_G} {c : Nat → ClassId} {kS vS : Nat} {fS : Nat → Int32} {h0 m0 k nm nq : Nat} {R : Int32 → (Nat → Option Nat) → (Nat → Int32) → (Nat → Int32) → (Nat → Int32) → (Nat → va_W) → Prop} (a1 : Int32)  (C : CX p s m cd b L xs A D c kS vS fS) (hk : k ≤ 200) (hls : ls.size = 4) (hJ : LQ R D A s c h0 m0 nm nq H locs) (kk : ∀ (r : Int32) (H1 : Heap) (locs1 : List Loc), LQ R D A s c h0 m0 nm nq H1 locs1 → W p l e room_1 s m #[Value.ref b] below meth cd H1 locs1 (100 + 100 * (k + 1) + (nm + nq / 256)) (3160000 + 5000 * (k + 1) + (2 * nm + 2 * nq)) Q (F0 m 495 ls (.int r :: []))) : W p l e room_1 s m #[Value.ref b] below meth cd H locs (100 + 100 * k + (nm + nq / 256)) (3160000 + 5000 * k + (2 * nm + 2 * nq)) Q (F0 m 492 ls (.int a1 :: .ref m0 :: [])) := by
  obtain ⟨hx, hb, hml, hown, hts, hN, hK, hA, hE, hX, hbl, hbA⟩ := C
  obtain ⟨xv, rc, rf, imf, sf, ig, md, wx, wm, bk, hI, hM, hR, hQ, hP, hD, hS⟩ := hJ
  have hnm := XI_nm hI
  exact rf_X11_fewest a1 hnm.1 hnm.2 hk hx hb hml hown hts hN hK hA hls hM (hP.perm pw_mx) (hD.perm pw_mx) hS (fun r H1 locs1 wm' h1 h2 h3 h4 => kk r H1 locs1 ⟨xv, rc, rf, imf, sf, ig, md, wx, wm', bk, hI, h1, hR, hQ, h2.perm pw_mx, h3.perm pw_mx, h4⟩)
set_option maxHeartbeats 4000000 in
set_option maxRecDepth 100000 in
theorem rs_step {p : Program} {l : Launch} {e : Env} {s : State} {m : MethodId} {b L : Nat} {xs : Nat → Int32} {below : List Frame} {meth : Method} {cd : Code} {H : Heap} {locs : List Loc} {Q : State → Prop} {ls : Array Slot} {A : Nat → Prop} {D : va_G} {c : Nat → ClassId} {kS vS : Nat} {fS : Nat → Int32} {h0 m0 k nm nq : Nat} {R : Int32 → (Nat → Option Nat) → (Nat → Int32) → (Nat → Int32) → (Nat → Int32) → (Nat → va_W) → Prop} (a1 : Int32) (a2 : Int32)  (C : CX p s m cd b L xs A D c kS vS fS) (hk : k ≤ 200) (hls : ls.size = 4) (hJ : LQ R D A s c h0 m0 nm nq H locs) (kk : ∀ (r : Int32) (H1 : Heap) (locs1 : List Loc), LQ R D A s c h0 m0 nm nq H1 locs1 → W p l e room_1 s m #[Value.ref b] below meth cd H1 locs1 (100 + 100 * (k + 1) + (nm + nq / 256)) (3160000 + 5000 * (k + 1) + (2 * nm + 2 * nq)) Q (F0 m 528 ls (.int r :: []))) : W p l e room_1 s m #[Value.ref b] below meth cd H locs (100 + 100 * k + (nm + nq / 256)) (3160000 + 5000 * k + (2 * nm + 2 * nq)) Q (F0 m 525 ls (.int a2 :: .int a1 :: .ref m0 :: [])) := by
  obtain ⟨hx, hb, hml, hown, hts, hN, hK, hA, hE, hX, hbl, hbA⟩ := C
  obtain ⟨xv, rc, rf, imf, sf, ig, md, wx, wm, bk, hI, hM, hR, hQ, hP, hD, hS⟩ := hJ
  have hnm := XI_nm hI
  exact rf_X11_step a1 a2 hnm.1 hnm.2 hk hx hb hml hown hts hN hK hA hls hM (hP.perm pw_mx) (hD.perm pw_mx) hS (fun r H1 locs1 wm' h1 h2 h3 h4 => kk r H1 locs1 ⟨xv, rc, rf, imf, sf, ig, md, wx, wm', bk, hI, h1, hR, hQ, h2.perm pw_mx, h3.perm pw_mx, h4⟩)
set_option maxHeartbeats 4000000 in
set_option maxRecDepth 100000 in
theorem rs_comes {p : Program} {l : Launch} {e : Env} {s : State} {m : MethodId} {b L : Nat} {xs : Nat → Int32} {below : List Frame} {meth : Method} {cd : Code} {H : Heap} {locs : List Loc} {Q : State → Prop} {ls : Array Slot} {A : Nat → Prop} {D : va_G} {c : Nat → ClassId} {kS vS : Nat} {fS : Nat → Int32} {h0 m0 k nm nq : Nat} {R : Int32 → (Nat → Option Nat) → (Nat → Int32) → (Nat → Int32) → (Nat → Int32) → (Nat → va_W) → Prop} (a1 : Int32) (a2 : Int32)  (C : CX p s m cd b L xs A D c kS vS fS) (hk : k ≤ 200) (hls : ls.size = 4) (hJ : LQ R D A s c h0 m0 nm nq H locs) (kk : ∀ (r : Int32) (H1 : Heap) (locs1 : List Loc), LQ R D A s c h0 m0 nm nq H1 locs1 → W p l e room_1 s m #[Value.ref b] below meth cd H1 locs1 (100 + 100 * (k + 1) + (nm + nq / 256)) (3160000 + 5000 * (k + 1) + (2 * nm + 2 * nq)) Q (F0 m 561 ls (.int r :: []))) : W p l e room_1 s m #[Value.ref b] below meth cd H locs (100 + 100 * k + (nm + nq / 256)) (3160000 + 5000 * k + (2 * nm + 2 * nq)) Q (F0 m 558 ls (.int a2 :: .int a1 :: .ref m0 :: [])) := by
  obtain ⟨hx, hb, hml, hown, hts, hN, hK, hA, hE, hX, hbl, hbA⟩ := C
  obtain ⟨xv, rc, rf, imf, sf, ig, md, wx, wm, bk, hI, hM, hR, hQ, hP, hD, hS⟩ := hJ
  have hnm := XI_nm hI
  exact rf_X11_comes a1 a2 hnm.1 hnm.2 hk hx hb hml hown hts hN hK hA hls hM (hP.perm pw_mx) (hD.perm pw_mx) hS (fun r H1 locs1 wm' h1 h2 h3 h4 => kk r H1 locs1 ⟨xv, rc, rf, imf, sf, ig, md, wx, wm', bk, hI, h1, hR, hQ, h2.perm pw_mx, h3.perm pw_mx, h4⟩)
set_option maxHeartbeats 4000000 in
set_option maxRecDepth 100000 in
theorem rs_closed {p : Program} {l : Launch} {e : Env} {s : State} {m : MethodId} {b L : Nat} {xs : Nat → Int32} {below : List Frame} {meth : Method} {cd : Code} {H : Heap} {locs : List Loc} {Q : State → Prop} {ls : Array Slot} {A : Nat → Prop} {D : va_G} {c : Nat → ClassId} {kS vS : Nat} {fS : Nat → Int32} {h0 m0 k nm nq : Nat} {R : Int32 → (Nat → Option Nat) → (Nat → Int32) → (Nat → Int32) → (Nat → Int32) → (Nat → va_W) → Prop} (a1 : Int32) (a2 : Int32)  (C : CX p s m cd b L xs A D c kS vS fS) (hk : k ≤ 200) (hls : ls.size = 4) (hJ : LQ R D A s c h0 m0 nm nq H locs) (kk : ∀ (r : Int32) (H1 : Heap) (locs1 : List Loc), LQ R D A s c h0 m0 nm nq H1 locs1 → W p l e room_1 s m #[Value.ref b] below meth cd H1 locs1 (100 + 100 * (k + 1) + (nm + nq / 256)) (3160000 + 5000 * (k + 1) + (2 * nm + 2 * nq)) Q (F0 m 594 ls (.int r :: []))) : W p l e room_1 s m #[Value.ref b] below meth cd H locs (100 + 100 * k + (nm + nq / 256)) (3160000 + 5000 * k + (2 * nm + 2 * nq)) Q (F0 m 591 ls (.int a2 :: .int a1 :: .ref m0 :: [])) := by
  obtain ⟨hx, hb, hml, hown, hts, hN, hK, hA, hE, hX, hbl, hbA⟩ := C
  obtain ⟨xv, rc, rf, imf, sf, ig, md, wx, wm, bk, hI, hM, hR, hQ, hP, hD, hS⟩ := hJ
  have hnm := XI_nm hI
  exact rf_X11_closed a1 a2 hnm.1 hnm.2 hk hx hb hml hown hts hN hK hA hls hM (hP.perm pw_mx) (hD.perm pw_mx) hS (fun r H1 locs1 wm' h1 h2 h3 h4 => kk r H1 locs1 ⟨xv, rc, rf, imf, sf, ig, md, wx, wm', bk, hI, h1, hR, hQ, h2.perm pw_mx, h3.perm pw_mx, h4⟩)
set_option maxHeartbeats 4000000 in
set_option maxRecDepth 100000 in
theorem rs_alike {p : Program} {l : Launch} {e : Env} {s : State} {m : MethodId} {b L : Nat} {xs : Nat → Int32} {below : List Frame} {meth : Method} {cd : Code} {H : Heap} {locs : List Loc} {Q : State → Prop} {ls : Array Slot} {A : Nat → Prop} {D : va_G} {c : Nat → ClassId} {kS vS : Nat} {fS : Nat → Int32} {h0 m0 k nm nq : Nat} {R : Int32 → (Nat → Option Nat) → (Nat → Int32) → (Nat → Int32) → (Nat → Int32) → (Nat → va_W) → Prop}  (C : CX p s m cd b L xs A D c kS vS fS) (hk : k ≤ 200) (hls : ls.size = 4) (hJ : LQ R D A s c h0 m0 nm nq H locs) (kk : ∀ (r : Int32) (H1 : Heap) (locs1 : List Loc), LQ R D A s c h0 m0 nm nq H1 locs1 → W p l e room_1 s m #[Value.ref b] below meth cd H1 locs1 (100 + 100 * (k + 1) + (nm + nq / 256)) (3160000 + 5000 * (k + 1) + (2 * nm + 2 * nq)) Q (F0 m 607 ls (.int r :: []))) : W p l e room_1 s m #[Value.ref b] below meth cd H locs (100 + 100 * k + (nm + nq / 256)) (3160000 + 5000 * k + (2 * nm + 2 * nq)) Q (F0 m 604 ls (.ref m0 :: [])) := by
  obtain ⟨hx, hb, hml, hown, hts, hN, hK, hA, hE, hX, hbl, hbA⟩ := C
  obtain ⟨xv, rc, rf, imf, sf, ig, md, wx, wm, bk, hI, hM, hR, hQ, hP, hD, hS⟩ := hJ
  have hnm := XI_nm hI
  exact rf_X11_alike hnm.1 hnm.2 hk hx hb hml hown hts hN hK hA hls hM (hP.perm pw_mx) (hD.perm pw_mx) hS (fun r H1 locs1 wm' h1 h2 h3 h4 => kk r H1 locs1 ⟨xv, rc, rf, imf, sf, ig, md, wx, wm', bk, hI, h1, hR, hQ, h2.perm pw_mx, h3.perm pw_mx, h4⟩)
set_option maxHeartbeats 4000000 in
set_option maxRecDepth 100000 in
theorem rs_decoys {p : Program} {l : Launch} {e : Env} {s : State} {m : MethodId} {b L : Nat} {xs : Nat → Int32} {below : List Frame} {meth : Method} {cd : Code} {H : Heap} {locs : List Loc} {Q : State → Prop} {ls : Array Slot} {A : Nat → Prop} {D : va_G} {c : Nat → ClassId} {kS vS : Nat} {fS : Nat → Int32} {h0 m0 k nm nq : Nat} {R : Int32 → (Nat → Option Nat) → (Nat → Int32) → (Nat → Int32) → (Nat → Int32) → (Nat → va_W) → Prop} (a1 : Int32)  (C : CX p s m cd b L xs A D c kS vS fS) (hk : k ≤ 200) (hls : ls.size = 4) (hJ : LQ R D A s c h0 m0 nm nq H locs) (kk : ∀ (r : Int32) (H1 : Heap) (locs1 : List Loc), LQ R D A s c h0 m0 nm nq H1 locs1 → W p l e room_1 s m #[Value.ref b] below meth cd H1 locs1 (100 + 100 * (k + 1) + (nm + nq / 256)) (3160000 + 5000 * (k + 1) + (2 * nm + 2 * nq)) Q (F0 m 630 ls (.int r :: []))) : W p l e room_1 s m #[Value.ref b] below meth cd H locs (100 + 100 * k + (nm + nq / 256)) (3160000 + 5000 * k + (2 * nm + 2 * nq)) Q (F0 m 627 ls (.int a1 :: .ref m0 :: [])) := by
  obtain ⟨hx, hb, hml, hown, hts, hN, hK, hA, hE, hX, hbl, hbA⟩ := C
  obtain ⟨xv, rc, rf, imf, sf, ig, md, wx, wm, bk, hI, hM, hR, hQ, hP, hD, hS⟩ := hJ
  have hnm := XI_nm hI
  exact rf_X11_decoys a1 hnm.1 hnm.2 hk hx hb hml hown hts hN hK hA hls hM (hP.perm pw_mx) (hD.perm pw_mx) hS (fun r H1 locs1 wm' h1 h2 h3 h4 => kk r H1 locs1 ⟨xv, rc, rf, imf, sf, ig, md, wx, wm', bk, hI, h1, hR, hQ, h2.perm pw_mx, h3.perm pw_mx, h4⟩)
set_option maxHeartbeats 4000000 in
set_option maxRecDepth 100000 in
theorem rs_post {p : Program} {l : Launch} {e : Env} {s : State} {m : MethodId} {b L : Nat} {xs : Nat → Int32} {below : List Frame} {meth : Method} {cd : Code} {H : Heap} {locs : List Loc} {Q : State → Prop} {ls : Array Slot} {A : Nat → Prop} {D : va_G} {c : Nat → ClassId} {kS vS : Nat} {fS : Nat → Int32} {h0 m0 k nm nq : Nat} {R : Int32 → (Nat → Option Nat) → (Nat → Int32) → (Nat → Int32) → (Nat → Int32) → (Nat → va_W) → Prop} (a1 : Int32) (a2 : Int32) (a3 : Int32)  (C : CX p s m cd b L xs A D c kS vS fS) (haa3 : 0 ≤ a3.toInt ∧ a3.toInt ≤ 1) (hk : k ≤ 200) (hls : ls.size = 4) (hJ : LQ R D A s c h0 m0 nm nq H locs) (kk : ∀ (r : Int32) (H1 : Heap) (locs1 : List Loc), LQ R D A s c h0 m0 nm nq H1 locs1 → W p l e room_1 s m #[Value.ref b] below meth cd H1 locs1 (100 + 100 * (k + 1) + (nm + nq / 256)) (3160000 + 5000 * (k + 1) + (2 * nm + 2 * nq)) Q (F0 m 689 ls (.int r :: []))) : W p l e room_1 s m #[Value.ref b] below meth cd H locs (100 + 100 * k + (nm + nq / 256)) (3160000 + 5000 * k + (2 * nm + 2 * nq)) Q (F0 m 686 ls (.int a3 :: .int a2 :: .int a1 :: .ref m0 :: [])) := by
  obtain ⟨hx, hb, hml, hown, hts, hN, hK, hA, hE, hX, hbl, hbA⟩ := C
  obtain ⟨xv, rc, rf, imf, sf, ig, md, wx, wm, bk, hI, hM, hR, hQ, hP, hD, hS⟩ := hJ
  have hnm := XI_nm hI
  exact rf_X11_post a1 a2 a3 hnm.1 hnm.2 hk hx hb hml hown hts hN hK hA hls hM (hP.perm pw_mx) (hD.perm pw_mx) hS haa3 (fun r H1 locs1 wm' h1 h2 h3 h4 => kk r H1 locs1 ⟨xv, rc, rf, imf, sf, ig, md, wx, wm', bk, hI, h1, hR, hQ, h2.perm pw_mx, h3.perm pw_mx, h4⟩)
set_option maxHeartbeats 4000000 in
set_option maxRecDepth 100000 in
theorem rs_longest {p : Program} {l : Launch} {e : Env} {s : State} {m : MethodId} {b L : Nat} {xs : Nat → Int32} {below : List Frame} {meth : Method} {cd : Code} {H : Heap} {locs : List Loc} {Q : State → Prop} {ls : Array Slot} {A : Nat → Prop} {D : va_G} {c : Nat → ClassId} {kS vS : Nat} {fS : Nat → Int32} {h0 m0 k nm nq : Nat} {R : Int32 → (Nat → Option Nat) → (Nat → Int32) → (Nat → Int32) → (Nat → Int32) → (Nat → va_W) → Prop} (a1 : Int32) (a2 : Int32) (a3 : Int32)  (C : CX p s m cd b L xs A D c kS vS fS) (hk : k ≤ 200) (hls : ls.size = 4) (hJ : LQ R D A s c h0 m0 nm nq H locs) (kk : ∀ (r : Int32) (H1 : Heap) (locs1 : List Loc), LQ R D A s c h0 m0 nm nq H1 locs1 → W p l e room_1 s m #[Value.ref b] below meth cd H1 locs1 (100 + 100 * (k + 1) + (nm + nq / 256)) (3160000 + 5000 * (k + 1) + (2 * nm + 2 * nq)) Q (F0 m 732 ls (.int r :: []))) : W p l e room_1 s m #[Value.ref b] below meth cd H locs (100 + 100 * k + (nm + nq / 256)) (3160000 + 5000 * k + (2 * nm + 2 * nq)) Q (F0 m 729 ls (.int a3 :: .int a2 :: .int a1 :: .ref m0 :: [])) := by
  obtain ⟨hx, hb, hml, hown, hts, hN, hK, hA, hE, hX, hbl, hbA⟩ := C
  obtain ⟨xv, rc, rf, imf, sf, ig, md, wx, wm, bk, hI, hM, hR, hQ, hP, hD, hS⟩ := hJ
  have hnm := XI_nm hI
  exact rf_X11_longest a1 a2 a3 hnm.1 hnm.2 hk hx hb hml hown hts hN hK hA hls hM (hP.perm pw_mx) (hD.perm pw_mx) hS (fun r H1 locs1 wm' h1 h2 h3 h4 => kk r H1 locs1 ⟨xv, rc, rf, imf, sf, ig, md, wx, wm', bk, hI, h1, hR, hQ, h2.perm pw_mx, h3.perm pw_mx, h4⟩)
set_option maxHeartbeats 4000000 in
set_option maxRecDepth 100000 in
theorem rs_covers {p : Program} {l : Launch} {e : Env} {s : State} {m : MethodId} {b L : Nat} {xs : Nat → Int32} {below : List Frame} {meth : Method} {cd : Code} {H : Heap} {locs : List Loc} {Q : State → Prop} {ls : Array Slot} {A : Nat → Prop} {D : va_G} {c : Nat → ClassId} {kS vS : Nat} {fS : Nat → Int32} {h0 m0 k nm nq : Nat} {R : Int32 → (Nat → Option Nat) → (Nat → Int32) → (Nat → Int32) → (Nat → Int32) → (Nat → va_W) → Prop} (a1 : Int32)  (C : CX p s m cd b L xs A D c kS vS fS) (hk : k ≤ 200) (hls : ls.size = 4) (hJ : LQ R D A s c h0 m0 nm nq H locs) (kk : ∀ (r : Int32) (H1 : Heap) (locs1 : List Loc), LQ R D A s c h0 m0 nm nq H1 locs1 → W p l e room_1 s m #[Value.ref b] below meth cd H1 locs1 (100 + 100 * (k + 1) + (nm + nq / 256)) (3160000 + 5000 * (k + 1) + (2 * nm + 2 * nq)) Q (F0 m 755 ls (.int r :: []))) : W p l e room_1 s m #[Value.ref b] below meth cd H locs (100 + 100 * k + (nm + nq / 256)) (3160000 + 5000 * k + (2 * nm + 2 * nq)) Q (F0 m 752 ls (.int a1 :: .ref m0 :: [])) := by
  obtain ⟨hx, hb, hml, hown, hts, hN, hK, hA, hE, hX, hbl, hbA⟩ := C
  obtain ⟨xv, rc, rf, imf, sf, ig, md, wx, wm, bk, hI, hM, hR, hQ, hP, hD, hS⟩ := hJ
  have hnm := XI_nm hI
  exact rf_X11_covers a1 hnm.1 hnm.2 hk hx hb hml hown hts hN hK hA hls hM (hP.perm pw_mx) (hD.perm pw_mx) hS (fun r H1 locs1 wm' h1 h2 h3 h4 => kk r H1 locs1 ⟨xv, rc, rf, imf, sf, ig, md, wx, wm', bk, hI, h1, hR, hQ, h2.perm pw_mx, h3.perm pw_mx, h4⟩)
set_option maxHeartbeats 4000000 in
set_option maxRecDepth 100000 in
theorem rs_settles_ {p : Program} {l : Launch} {e : Env} {s : State} {m : MethodId} {b L : Nat} {xs : Nat → Int32} {below : List Frame} {meth : Method} {cd : Code} {H : Heap} {locs : List Loc} {Q : State → Prop} {ls : Array Slot} {A : Nat → Prop} {D : va_G} {c : Nat → ClassId} {kS vS : Nat} {fS : Nat → Int32} {h0 m0 k nm nq : Nat} {R : Int32 → (Nat → Option Nat) → (Nat → Int32) → (Nat → Int32) → (Nat → Int32) → (Nat → va_W) → Prop} (a1 : Int32) (a2 : Int32)  (C : CX p s m cd b L xs A D c kS vS fS) (hk : k ≤ 200) (hls : ls.size = 4) (hJ : LQ R D A s c h0 m0 nm nq H locs) (kk : ∀ (r : Int32) (H1 : Heap) (locs1 : List Loc), LQ R D A s c h0 m0 nm nq H1 locs1 → W p l e room_1 s m #[Value.ref b] below meth cd H1 locs1 (100 + 100 * (k + 1) + (nm + nq / 256)) (3160000 + 5000 * (k + 1) + (2 * nm + 2 * nq)) Q (F0 m 788 ls (.int r :: []))) : W p l e room_1 s m #[Value.ref b] below meth cd H locs (100 + 100 * k + (nm + nq / 256)) (3160000 + 5000 * k + (2 * nm + 2 * nq)) Q (F0 m 785 ls (.int a2 :: .int a1 :: .ref m0 :: [])) := by
  obtain ⟨hx, hb, hml, hown, hts, hN, hK, hA, hE, hX, hbl, hbA⟩ := C
  obtain ⟨xv, rc, rf, imf, sf, ig, md, wx, wm, bk, hI, hM, hR, hQ, hP, hD, hS⟩ := hJ
  have hnm := XI_nm hI
  exact rf_X11_settles_ a1 a2 hnm.1 hnm.2 hk hx hb hml hown hts hN hK hA hls hM (hP.perm pw_mx) (hD.perm pw_mx) hS (fun r H1 locs1 wm' h1 h2 h3 h4 => kk r H1 locs1 ⟨xv, rc, rf, imf, sf, ig, md, wx, wm', bk, hI, h1, hR, hQ, h2.perm pw_mx, h3.perm pw_mx, h4⟩)
set_option maxHeartbeats 4000000 in
set_option maxRecDepth 100000 in
theorem rs_done {p : Program} {l : Launch} {e : Env} {s : State} {m : MethodId} {b L : Nat} {xs : Nat → Int32} {below : List Frame} {meth : Method} {cd : Code} {H : Heap} {locs : List Loc} {Q : State → Prop} {ls : Array Slot} {A : Nat → Prop} {D : va_G} {c : Nat → ClassId} {kS vS : Nat} {fS : Nat → Int32} {h0 m0 k nm nq : Nat} {R : Int32 → (Nat → Option Nat) → (Nat → Int32) → (Nat → Int32) → (Nat → Int32) → (Nat → va_W) → Prop}  (C : CX p s m cd b L xs A D c kS vS fS) (hk : k ≤ 200) (hls : ls.size = 4) (hJ : LQ R D A s c h0 m0 nm nq H locs) (kk : ∀ (r : Int32) (H1 : Heap) (locs1 : List Loc), LQ R D A s c h0 m0 nm nq H1 locs1 → W p l e room_1 s m #[Value.ref b] below meth cd H1 locs1 (100 + 100 * (k + 1) + (nm + nq / 256)) (3160000 + 5000 * (k + 1) + (2 * nm + 2 * nq)) Q (F0 m 834 ls (.int r :: []))) : W p l e room_1 s m #[Value.ref b] below meth cd H locs (100 + 100 * k + (nm + nq / 256)) (3160000 + 5000 * k + (2 * nm + 2 * nq)) Q (F0 m 831 ls (.ref m0 :: [])) := by
  obtain ⟨hx, hb, hml, hown, hts, hN, hK, hA, hE, hX, hbl, hbA⟩ := C
  obtain ⟨xv, rc, rf, imf, sf, ig, md, wx, wm, bk, hI, hM, hR, hQ, hP, hD, hS⟩ := hJ
  have hnm := XI_nm hI
  exact rf_X11_done hnm.1 hnm.2 hk hx hb hml hown hts hN hK hA hls hM (hP.perm pw_mx) (hD.perm pw_mx) hS (fun r H1 locs1 wm' h1 h2 h3 h4 => kk r H1 locs1 ⟨xv, rc, rf, imf, sf, ig, md, wx, wm', bk, hI, h1, hR, hQ, h2.perm pw_mx, h3.perm pw_mx, h4⟩)
set_option maxHeartbeats 4000000 in
set_option maxRecDepth 100000 in
theorem rs_free {p : Program} {l : Launch} {e : Env} {s : State} {m : MethodId} {b L : Nat} {xs : Nat → Int32} {below : List Frame} {meth : Method} {cd : Code} {H : Heap} {locs : List Loc} {Q : State → Prop} {ls : Array Slot} {A : Nat → Prop} {D : va_G} {c : Nat → ClassId} {kS vS : Nat} {fS : Nat → Int32} {h0 m0 k nm nq : Nat} {R : Int32 → (Nat → Option Nat) → (Nat → Int32) → (Nat → Int32) → (Nat → Int32) → (Nat → va_W) → Prop} (a1 : Int32)  (C : CX p s m cd b L xs A D c kS vS fS) (hk : k ≤ 200) (hls : ls.size = 4) (hJ : LQ R D A s c h0 m0 nm nq H locs) (kk : ∀ (r : Int32) (H1 : Heap) (locs1 : List Loc), LQ R D A s c h0 m0 nm nq H1 locs1 → W p l e room_1 s m #[Value.ref b] below meth cd H1 locs1 (100 + 100 * (k + 1) + (nm + nq / 256)) (3160000 + 5000 * (k + 1) + (2 * nm + 2 * nq)) Q (F0 m 857 ls (.int r :: []))) : W p l e room_1 s m #[Value.ref b] below meth cd H locs (100 + 100 * k + (nm + nq / 256)) (3160000 + 5000 * k + (2 * nm + 2 * nq)) Q (F0 m 854 ls (.int a1 :: .ref m0 :: [])) := by
  obtain ⟨hx, hb, hml, hown, hts, hN, hK, hA, hE, hX, hbl, hbA⟩ := C
  obtain ⟨xv, rc, rf, imf, sf, ig, md, wx, wm, bk, hI, hM, hR, hQ, hP, hD, hS⟩ := hJ
  have hnm := XI_nm hI
  exact rf_X11_free a1 hnm.1 hnm.2 hk hx hb hml hown hts hN hK hA hls hM (hP.perm pw_mx) (hD.perm pw_mx) hS (fun r H1 locs1 wm' h1 h2 h3 h4 => kk r H1 locs1 ⟨xv, rc, rf, imf, sf, ig, md, wx, wm', bk, hI, h1, hR, hQ, h2.perm pw_mx, h3.perm pw_mx, h4⟩)
set_option maxHeartbeats 4000000 in
set_option maxRecDepth 100000 in
theorem rs_count {p : Program} {l : Launch} {e : Env} {s : State} {m : MethodId} {b L : Nat} {xs : Nat → Int32} {below : List Frame} {meth : Method} {cd : Code} {H : Heap} {locs : List Loc} {Q : State → Prop} {ls : Array Slot} {A : Nat → Prop} {D : va_G} {c : Nat → ClassId} {kS vS : Nat} {fS : Nat → Int32} {h0 m0 k nm nq : Nat} {R : Int32 → (Nat → Option Nat) → (Nat → Int32) → (Nat → Int32) → (Nat → Int32) → (Nat → va_W) → Prop} (a1 : Int32)  (C : CX p s m cd b L xs A D c kS vS fS) (hk : k ≤ 200) (hls : ls.size = 4) (hJ : LQ R D A s c h0 m0 nm nq H locs) (kk : ∀ (r : Int32) (H1 : Heap) (locs1 : List Loc), LQ R D A s c h0 m0 nm nq H1 locs1 → W p l e room_1 s m #[Value.ref b] below meth cd H1 locs1 (100 + 100 * (k + 1) + (nm + nq / 256)) (3160000 + 5000 * (k + 1) + (2 * nm + 2 * nq)) Q (F0 m 1088 ls (.int r :: []))) : W p l e room_1 s m #[Value.ref b] below meth cd H locs (100 + 100 * k + (nm + nq / 256)) (3160000 + 5000 * k + (2 * nm + 2 * nq)) Q (F0 m 1085 ls (.int a1 :: .ref m0 :: [])) := by
  obtain ⟨hx, hb, hml, hown, hts, hN, hK, hA, hE, hX, hbl, hbA⟩ := C
  obtain ⟨xv, rc, rf, imf, sf, ig, md, wx, wm, bk, hI, hM, hR, hQ, hP, hD, hS⟩ := hJ
  have hnm := XI_nm hI
  exact rf_X11_count a1 hnm.1 hnm.2 hk hx hb hml hown hts hN hK hA hls hM (hP.perm pw_mx) (hD.perm pw_mx) hS (fun r H1 locs1 wm' h1 h2 h3 h4 => kk r H1 locs1 ⟨xv, rc, rf, imf, sf, ig, md, wx, wm', bk, hI, h1, hR, hQ, h2.perm pw_mx, h3.perm pw_mx, h4⟩)
set_option maxHeartbeats 4000000 in
set_option maxRecDepth 100000 in
theorem rs_land {p : Program} {l : Launch} {e : Env} {s : State} {m : MethodId} {b L : Nat} {xs : Nat → Int32} {below : List Frame} {meth : Method} {cd : Code} {H : Heap} {locs : List Loc} {Q : State → Prop} {ls : Array Slot} {A : Nat → Prop} {D : va_G} {c : Nat → ClassId} {kS vS : Nat} {fS : Nat → Int32} {h0 m0 k nm nq : Nat}  (C : CX p s m cd b L xs A D c kS vS fS) (hk : k ≤ 200) (hls : ls.size = 4) (hJ : LQ (LR c) D A s c h0 m0 nm nq H locs) (kk : ∀ (r : Int32) (H1 : Heap) (locs1 : List Loc), LQ (LR c) D A s c h0 m0 nm nq H1 locs1 → W p l e room_1 s m #[Value.ref b] below meth cd H1 locs1 (100 + 100 * (k + 1) + (nm + nq / 256)) (3160000 + 5000 * (k + 1) + (2 * nm + 2 * nq)) Q (F0 m 271 ls (.int r :: []))) : W p l e room_1 s m #[Value.ref b] below meth cd H locs (100 + 100 * k + (nm + nq / 256)) (3160000 + 5000 * k + (2 * nm + 2 * nq)) Q (F0 m 268 ls (.ref m0 :: [])) := by
  obtain ⟨hx, hb, hml, hown, hts, hN, hK, hA, hE, hX, hbl, hbA⟩ := C
  obtain ⟨xv, rc, rf, imf, sf, ig, md, wx, wm, bk, hI, hM, hR, hQ, hP, hD, hS⟩ := hJ
  have hnm := XI_nm hI
  exact rf_X11_land hnm.1 hnm.2 hk hx hb hml hown hts hN hK hA hls hM (hP.perm pw_mx) (hD.perm pw_mx) hS (fun r H1 locs1 wm' sf' h1 h2 h3 h4 h5 => kk r H1 locs1 ⟨xv, rc, rf, imf, sf', ig, md, wx, wm', bk, hI, h1, hR, ⟨h5.trans hQ.1, hQ.2⟩, h2.perm pw_mx, h3.perm pw_mx, h4⟩)
set_option maxHeartbeats 4000000 in
set_option maxRecDepth 100000 in
theorem rs_go {p : Program} {l : Launch} {e : Env} {s : State} {m : MethodId} {b L : Nat} {xs : Nat → Int32} {below : List Frame} {meth : Method} {cd : Code} {H : Heap} {locs : List Loc} {Q : State → Prop} {ls : Array Slot} {A : Nat → Prop} {D : va_G} {c : Nat → ClassId} {kS vS : Nat} {fS : Nat → Int32} {h0 m0 k nm nq : Nat} (a1 : Int32) (a2 : Int32)  (C : CX p s m cd b L xs A D c kS vS fS) (hk : k ≤ 200) (hls : ls.size = 4) (hJ : LQ (LR c) D A s c h0 m0 nm nq H locs) (kk : ∀ (r : Int32) (H1 : Heap) (locs1 : List Loc), LQ (LR c) D A s c h0 m0 nm nq H1 locs1 → W p l e room_1 s m #[Value.ref b] below meth cd H1 locs1 (100 + 100 * (k + 1) + (nm + nq / 256)) (3160000 + 5000 * (k + 1) + (2 * nm + 2 * nq)) Q (F0 m 449 ls (.int r :: []))) : W p l e room_1 s m #[Value.ref b] below meth cd H locs (100 + 100 * k + (nm + nq / 256)) (3160000 + 5000 * k + (2 * nm + 2 * nq)) Q (F0 m 446 ls (.int a2 :: .int a1 :: .ref m0 :: [])) := by
  obtain ⟨hx, hb, hml, hown, hts, hN, hK, hA, hE, hX, hbl, hbA⟩ := C
  obtain ⟨xv, rc, rf, imf, sf, ig, md, wx, wm, bk, hI, hM, hR, hQ, hP, hD, hS⟩ := hJ
  have hnm := XI_nm hI
  exact rf_X11_go a1 a2 hnm.1 hnm.2 hk hx hb hml hown hts hN hK hA hls hM (hP.perm pw_mx) (hD.perm pw_mx) hS (fun r H1 locs1 wm' sf' h1 h2 h3 h4 h5 => kk r H1 locs1 ⟨xv, rc, rf, imf, sf', ig, md, wx, wm', bk, hI, h1, hR, ⟨h5.trans hQ.1, hQ.2⟩, h2.perm pw_mx, h3.perm pw_mx, h4⟩)
set_option maxHeartbeats 4000000 in
set_option maxRecDepth 100000 in
theorem rs_turn {p : Program} {l : Launch} {e : Env} {s : State} {m : MethodId} {b L : Nat} {xs : Nat → Int32} {below : List Frame} {meth : Method} {cd : Code} {H : Heap} {locs : List Loc} {Q : State → Prop} {ls : Array Slot} {A : Nat → Prop} {D : va_G} {c : Nat → ClassId} {kS vS : Nat} {fS : Nat → Int32} {h0 m0 k nm nq : Nat} (a1 : Int32)  (C : CX p s m cd b L xs A D c kS vS fS) (hk : k ≤ 200) (hls : ls.size = 4) (hJ : LQ (LR c) D A s c h0 m0 nm nq H locs) (kk : ∀ (r : Int32) (H1 : Heap) (locs1 : List Loc), LQ (LR c) D A s c h0 m0 nm nq H1 locs1 → W p l e room_1 s m #[Value.ref b] below meth cd H1 locs1 (100 + 100 * (k + 1) + (nm + nq / 256)) (3160000 + 5000 * (k + 1) + (2 * nm + 2 * nq)) Q (F0 m 472 ls (.int r :: []))) : W p l e room_1 s m #[Value.ref b] below meth cd H locs (100 + 100 * k + (nm + nq / 256)) (3160000 + 5000 * k + (2 * nm + 2 * nq)) Q (F0 m 469 ls (.int a1 :: .ref m0 :: [])) := by
  obtain ⟨hx, hb, hml, hown, hts, hN, hK, hA, hE, hX, hbl, hbA⟩ := C
  obtain ⟨xv, rc, rf, imf, sf, ig, md, wx, wm, bk, hI, hM, hR, hQ, hP, hD, hS⟩ := hJ
  have hnm := XI_nm hI
  exact rf_X11_turn a1 hnm.1 hnm.2 hk hx hb hml hown hts hN hK hA hls hM (hP.perm pw_mx) (hD.perm pw_mx) hS (fun r H1 locs1 wm' sf' h1 h2 h3 h4 h5 => kk r H1 locs1 ⟨xv, rc, rf, imf, sf', ig, md, wx, wm', bk, hI, h1, hR, ⟨h5.trans hQ.1, hQ.2⟩, h2.perm pw_mx, h3.perm pw_mx, h4⟩)
set_option maxHeartbeats 4000000 in
set_option maxRecDepth 100000 in
theorem rs_row {p : Program} {l : Launch} {e : Env} {s : State} {m : MethodId} {b L : Nat} {xs : Nat → Int32} {below : List Frame} {meth : Method} {cd : Code} {H : Heap} {locs : List Loc} {Q : State → Prop} {ls : Array Slot} {A : Nat → Prop} {D : va_G} {c : Nat → ClassId} {kS vS : Nat} {fS : Nat → Int32} {h0 m0 k nm nq : Nat} (a1 : Int32) (a2 : Int32)  (C : CX p s m cd b L xs A D c kS vS fS) (hk : k ≤ 200) (hls : ls.size = 4) (hJ : LQ (LR c) D A s c h0 m0 nm nq H locs) (kk : ∀ (r : Int32) (H1 : Heap) (locs1 : List Loc), LQ (LR c) D A s c h0 m0 nm nq H1 locs1 → W p l e room_1 s m #[Value.ref b] below meth cd H1 locs1 (100 + 100 * (k + 1) + (nm + nq / 256)) (3160000 + 5000 * (k + 1) + (2 * nm + 2 * nq)) Q (F0 m 821 ls (.int r :: []))) : W p l e room_1 s m #[Value.ref b] below meth cd H locs (100 + 100 * k + (nm + nq / 256)) (3160000 + 5000 * k + (2 * nm + 2 * nq)) Q (F0 m 818 ls (.int a2 :: .int a1 :: .ref m0 :: [])) := by
  obtain ⟨hx, hb, hml, hown, hts, hN, hK, hA, hE, hX, hbl, hbA⟩ := C
  obtain ⟨xv, rc, rf, imf, sf, ig, md, wx, wm, bk, hI, hM, hR, hQ, hP, hD, hS⟩ := hJ
  have hnm := XI_nm hI
  exact rf_X11_row a1 a2 hnm.1 hnm.2 hk hx hb hml hown hts hN hK hA hls hM (hP.perm pw_mx) (hD.perm pw_mx) hS (fun r H1 locs1 wm' sf' h1 h2 h3 h4 h5 => kk r H1 locs1 ⟨xv, rc, rf, imf, sf', ig, md, wx, wm', bk, hI, h1, hR, ⟨h5.trans hQ.1, hQ.2⟩, h2.perm pw_mx, h3.perm pw_mx, h4⟩)
set_option maxHeartbeats 4000000 in
set_option maxRecDepth 100000 in
theorem rs_tick {p : Program} {l : Launch} {e : Env} {s : State} {m : MethodId} {b L : Nat} {xs : Nat → Int32} {below : List Frame} {meth : Method} {cd : Code} {H : Heap} {locs : List Loc} {Q : State → Prop} {ls : Array Slot} {A : Nat → Prop} {D : va_G} {c : Nat → ClassId} {kS vS : Nat} {fS : Nat → Int32} {h0 m0 k nm nq : Nat} (a1 : Int32) (a2 : Int32)  (C : CX p s m cd b L xs A D c kS vS fS) (hk : k ≤ 200) (hls : ls.size = 4) (hJ : LQ (LR c) D A s c h0 m0 nm nq H locs) (kk : ∀ (r : Int32) (H1 : Heap) (locs1 : List Loc), LQ (LR c) D A s c h0 m0 nm nq H1 locs1 → W p l e room_1 s m #[Value.ref b] below meth cd H1 locs1 (100 + 100 * (k + 1) + (nm + nq / 256)) (3160000 + 5000 * (k + 1) + (2 * nm + 2 * nq)) Q (F0 m 890 ls (.int r :: []))) : W p l e room_1 s m #[Value.ref b] below meth cd H locs (100 + 100 * k + (nm + nq / 256)) (3160000 + 5000 * k + (2 * nm + 2 * nq)) Q (F0 m 887 ls (.int a2 :: .int a1 :: .ref m0 :: [])) := by
  obtain ⟨hx, hb, hml, hown, hts, hN, hK, hA, hE, hX, hbl, hbA⟩ := C
  obtain ⟨xv, rc, rf, imf, sf, ig, md, wx, wm, bk, hI, hM, hR, hQ, hP, hD, hS⟩ := hJ
  have hnm := XI_nm hI
  exact rf_X11_tick a1 a2 hnm.1 hnm.2 hk hx hb hml hown hts hN hK hA hls hM (hP.perm pw_mx) (hD.perm pw_mx) hS (fun r H1 locs1 wm' sf' h1 h2 h3 h4 h5 => kk r H1 locs1 ⟨xv, rc, rf, imf, sf', ig, md, wx, wm', bk, hI, h1, hR, ⟨h5.trans hQ.1, hQ.2⟩, h2.perm pw_mx, h3.perm pw_mx, h4⟩)
set_option maxHeartbeats 4000000 in
set_option maxRecDepth 100000 in
theorem rs_ahead {p : Program} {l : Launch} {e : Env} {s : State} {m : MethodId} {b L : Nat} {xs : Nat → Int32} {below : List Frame} {meth : Method} {cd : Code} {H : Heap} {locs : List Loc} {Q : State → Prop} {ls : Array Slot} {A : Nat → Prop} {D : va_G} {c : Nat → ClassId} {kS vS : Nat} {fS : Nat → Int32} {h0 m0 k nm nq : Nat} (a1 : Int32) (a2 : Int32) (a3 : Int32)  (C : CX p s m cd b L xs A D c kS vS fS) (hk : k ≤ 200) (hls : ls.size = 4) (hJ : LQ (LR c) D A s c h0 m0 nm nq H locs) (kk : ∀ (r : Int32) (H1 : Heap) (locs1 : List Loc), LQ (LR c) D A s c h0 m0 nm nq H1 locs1 → W p l e room_1 s m #[Value.ref b] below meth cd H1 locs1 (100 + 100 * (k + 1) + (nm + nq / 256)) (3160000 + 5000 * (k + 1) + (2 * nm + 2 * nq)) Q (F0 m 933 ls (.int r :: []))) : W p l e room_1 s m #[Value.ref b] below meth cd H locs (100 + 100 * k + (nm + nq / 256)) (3160000 + 5000 * k + (2 * nm + 2 * nq)) Q (F0 m 930 ls (.int a3 :: .int a2 :: .int a1 :: .ref m0 :: [])) := by
  obtain ⟨hx, hb, hml, hown, hts, hN, hK, hA, hE, hX, hbl, hbA⟩ := C
  obtain ⟨xv, rc, rf, imf, sf, ig, md, wx, wm, bk, hI, hM, hR, hQ, hP, hD, hS⟩ := hJ
  have hnm := XI_nm hI
  exact rf_X11_ahead a1 a2 a3 hnm.1 hnm.2 hk hx hb hml hown hts hN hK hA hls hM (hP.perm pw_mx) (hD.perm pw_mx) hS (fun r H1 locs1 wm' sf' h1 h2 h3 h4 h5 => kk r H1 locs1 ⟨xv, rc, rf, imf, sf', ig, md, wx, wm', bk, hI, h1, hR, ⟨h5.trans hQ.1, hQ.2⟩, h2.perm pw_mx, h3.perm pw_mx, h4⟩)
set_option maxHeartbeats 4000000 in
set_option maxRecDepth 100000 in
theorem rs_finest {p : Program} {l : Launch} {e : Env} {s : State} {m : MethodId} {b L : Nat} {xs : Nat → Int32} {below : List Frame} {meth : Method} {cd : Code} {H : Heap} {locs : List Loc} {Q : State → Prop} {ls : Array Slot} {A : Nat → Prop} {D : va_G} {c : Nat → ClassId} {kS vS : Nat} {fS : Nat → Int32} {h0 m0 k nm nq : Nat} (a1 : Int32)  (C : CX p s m cd b L xs A D c kS vS fS) (hk : k ≤ 200) (hls : ls.size = 4) (hJ : LQ (LR c) D A s c h0 m0 nm nq H locs) (kk : ∀ (r : Int32) (H1 : Heap) (locs1 : List Loc), LQ (LR c) D A s c h0 m0 nm nq H1 locs1 → W p l e room_1 s m #[Value.ref b] below meth cd H1 locs1 (100 + 100 * (k + 1) + (nm + nq / 256)) (3160000 + 5000 * (k + 1) + (2 * nm + 2 * nq)) Q (F0 m 956 ls (.int r :: []))) : W p l e room_1 s m #[Value.ref b] below meth cd H locs (100 + 100 * k + (nm + nq / 256)) (3160000 + 5000 * k + (2 * nm + 2 * nq)) Q (F0 m 953 ls (.int a1 :: .ref m0 :: [])) := by
  obtain ⟨hx, hb, hml, hown, hts, hN, hK, hA, hE, hX, hbl, hbA⟩ := C
  obtain ⟨xv, rc, rf, imf, sf, ig, md, wx, wm, bk, hI, hM, hR, hQ, hP, hD, hS⟩ := hJ
  have hnm := XI_nm hI
  exact rf_X11_finest a1 hnm.1 hnm.2 hk hx hb hml hown hts hN hK hA hls hM (hP.perm pw_mx) (hD.perm pw_mx) hS (fun r H1 locs1 wm' sf' h1 h2 h3 h4 h5 => kk r H1 locs1 ⟨xv, rc, rf, imf, sf', ig, md, wx, wm', bk, hI, h1, hR, ⟨h5.trans hQ.1, hQ.2⟩, h2.perm pw_mx, h3.perm pw_mx, h4⟩)
set_option maxHeartbeats 4000000 in
set_option maxRecDepth 100000 in
theorem rs_home {p : Program} {l : Launch} {e : Env} {s : State} {m : MethodId} {b L : Nat} {xs : Nat → Int32} {below : List Frame} {meth : Method} {cd : Code} {H : Heap} {locs : List Loc} {Q : State → Prop} {ls : Array Slot} {A : Nat → Prop} {D : va_G} {c : Nat → ClassId} {kS vS : Nat} {fS : Nat → Int32} {h0 m0 k nm nq : Nat} (a1 : Int32) (a2 : Int32)  (C : CX p s m cd b L xs A D c kS vS fS) (hk : k ≤ 200) (hls : ls.size = 4) (hJ : LQ (LR c) D A s c h0 m0 nm nq H locs) (kk : ∀ (r : Int32) (H1 : Heap) (locs1 : List Loc), LQ (LR c) D A s c h0 m0 nm nq H1 locs1 → W p l e room_1 s m #[Value.ref b] below meth cd H1 locs1 (100 + 100 * (k + 1) + (nm + nq / 256)) (3160000 + 5000 * (k + 1) + (2 * nm + 2 * nq)) Q (F0 m 989 ls (.int r :: []))) : W p l e room_1 s m #[Value.ref b] below meth cd H locs (100 + 100 * k + (nm + nq / 256)) (3160000 + 5000 * k + (2 * nm + 2 * nq)) Q (F0 m 986 ls (.int a2 :: .int a1 :: .ref m0 :: [])) := by
  obtain ⟨hx, hb, hml, hown, hts, hN, hK, hA, hE, hX, hbl, hbA⟩ := C
  obtain ⟨xv, rc, rf, imf, sf, ig, md, wx, wm, bk, hI, hM, hR, hQ, hP, hD, hS⟩ := hJ
  have hnm := XI_nm hI
  exact rf_X11_home a1 a2 hnm.1 hnm.2 hk hx hb hml hown hts hN hK hA hls hM (hP.perm pw_mx) (hD.perm pw_mx) hS (fun r H1 locs1 wm' sf' h1 h2 h3 h4 h5 => kk r H1 locs1 ⟨xv, rc, rf, imf, sf', ig, md, wx, wm', bk, hI, h1, hR, ⟨h5.trans hQ.1, hQ.2⟩, h2.perm pw_mx, h3.perm pw_mx, h4⟩)
set_option maxHeartbeats 4000000 in
set_option maxRecDepth 100000 in
theorem rs_days {p : Program} {l : Launch} {e : Env} {s : State} {m : MethodId} {b L : Nat} {xs : Nat → Int32} {below : List Frame} {meth : Method} {cd : Code} {H : Heap} {locs : List Loc} {Q : State → Prop} {ls : Array Slot} {A : Nat → Prop} {D : va_G} {c : Nat → ClassId} {kS vS : Nat} {fS : Nat → Int32} {h0 m0 k nm nq : Nat} (a1 : Int32) (a2 : Int32) (a3 : Int32) (a4 : Int32)  (C : CX p s m cd b L xs A D c kS vS fS) (hk : k ≤ 200) (hls : ls.size = 4) (hJ : LQ (LR c) D A s c h0 m0 nm nq H locs) (kk : ∀ (r : Int32) (H1 : Heap) (locs1 : List Loc), LQ (LR c) D A s c h0 m0 nm nq H1 locs1 → W p l e room_1 s m #[Value.ref b] below meth cd H1 locs1 (100 + 100 * (k + 1) + (nm + nq / 256)) (3160000 + 5000 * (k + 1) + (2 * nm + 2 * nq)) Q (F0 m 1065 ls (.int r :: []))) : W p l e room_1 s m #[Value.ref b] below meth cd H locs (100 + 100 * k + (nm + nq / 256)) (3160000 + 5000 * k + (2 * nm + 2 * nq)) Q (F0 m 1062 ls (.int a4 :: .int a3 :: .int a2 :: .int a1 :: .ref m0 :: [])) := by
  obtain ⟨hx, hb, hml, hown, hts, hN, hK, hA, hE, hX, hbl, hbA⟩ := C
  obtain ⟨xv, rc, rf, imf, sf, ig, md, wx, wm, bk, hI, hM, hR, hQ, hP, hD, hS⟩ := hJ
  have hnm := XI_nm hI
  exact rf_X11_days a1 a2 a3 a4 hnm.1 hnm.2 hk hx hb hml hown hts hN hK hA hls hM (hP.perm pw_mx) (hD.perm pw_mx) hS (fun r H1 locs1 wm' sf' h1 h2 h3 h4 h5 => kk r H1 locs1 ⟨xv, rc, rf, imf, sf', ig, md, wx, wm', bk, hI, h1, hR, ⟨h5.trans hQ.1, hQ.2⟩, h2.perm pw_mx, h3.perm pw_mx, h4⟩)
set_option maxHeartbeats 4000000 in
set_option maxRecDepth 100000 in
theorem rs_seed {p : Program} {l : Launch} {e : Env} {s : State} {m : MethodId} {b L : Nat} {xs : Nat → Int32} {below : List Frame} {meth : Method} {cd : Code} {H : Heap} {locs : List Loc} {Q : State → Prop} {ls : Array Slot} {A : Nat → Prop} {D : va_G} {c : Nat → ClassId} {kS vS : Nat} {fS : Nat → Int32} {h0 m0 k nm nq : Nat} {r0 : Int32} (a1 : Int32)  (C : CX p s m cd b L xs A D c kS vS fS) (hk : k ≤ 200) (hls : ls.size = 4) (hJ : LQ (R4 c a1 r0) D A s c h0 m0 nm nq H locs) (kk : ∀ (r : Int32) (H1 : Heap) (locs1 : List Loc), LQ (LR c) D A s c h0 m0 nm nq H1 locs1 → r = r0 → W p l e room_1 s m #[Value.ref b] below meth cd H1 locs1 (100 + 100 * (k + 1) + (nm + nq / 256)) (3160000 + 5000 * (k + 1) + (2 * nm + 2 * nq)) Q (F0 m 1011 ls (.int r :: (.int r0 :: [])))) : W p l e room_1 s m #[Value.ref b] below meth cd H locs (100 + 100 * k + (nm + nq / 256)) (3160000 + 5000 * k + (2 * nm + 2 * nq)) Q (F0 m 1008 ls (.int a1 :: .ref m0 :: (.int r0 :: []))) := by
  obtain ⟨hx, hb, hml, hown, hts, hN, hK, hA, hE, hX, hbl, hbA⟩ := C
  obtain ⟨xv, rc, rf, imf, sf, ig, md, wx, wm, bk, hI, hM, hR, hQ, hP, hD, hS⟩ := hJ
  have hnm := XI_nm hI
  refine rf_X11_seed a1 hnm.1 hnm.2 hk hx hb hml hown hts hN hK hA hls hM (hP.perm pw_mx) (hD.perm pw_mx) hS (fun r H1 locs1 wm' sf' h1 h2 h3 h4 h5 => ?_)
  have hq : sf' 7 = xv ∧ r = r0 := by
    rcases h5 with ⟨q1, q2, q3⟩ | ⟨q1, q2, q3⟩ <;> rcases hQ.2 with ⟨z1, z2, z3⟩ | ⟨z1, z2, z3⟩
    · exact ⟨q2.trans z2, q3.trans z3.symm⟩
    · omega
    · omega
    · exact ⟨q2.trans z2.symm, q3.trans z3.symm⟩
  exact kk r H1 locs1 ⟨xv, rc, rf, imf, sf', ig, md, wx, wm', bk, hI, h1, hR, ⟨hq.1, hQ.1⟩, h2.perm pw_mx, h3.perm pw_mx, h4⟩ hq.2
set_option maxHeartbeats 4000000 in
set_option maxRecDepth 100000 in
theorem rs_image {p : Program} {l : Launch} {e : Env} {s : State} {m : MethodId} {b L : Nat} {xs : Nat → Int32} {below : List Frame} {meth : Method} {cd : Code} {H : Heap} {locs : List Loc} {Q : State → Prop} {ls : Array Slot} {A : Nat → Prop} {D : va_G} {c : Nat → ClassId} {kS vS : Nat} {fS : Nat → Int32} {h0 m0 k nm nq : Nat} (a1 : Int32)  (C : CX p s m cd b L xs A D c kS vS fS) (hk : k ≤ 200) (hls : ls.size = 4) (hJ : LQ (R2 c a1) D A s c h0 m0 nm nq H locs) (kk : ∀ (r : Int32) (H1 : Heap) (locs1 : List Loc), LQ (LR c) D A s c h0 m0 nm nq H1 locs1 → W p l e room_1 s m #[Value.ref b] below meth cd H1 locs1 (100 + 100 * (k + 1) + (nm + nq / 256)) (3160000 + 5000 * (k + 1) + (2 * nm + 2 * nq)) Q (F0 m 1111 ls (.int r :: []))) : W p l e room_1 s m #[Value.ref b] below meth cd H locs (100 + 100 * k + (nm + nq / 256)) (3160000 + 5000 * k + (2 * nm + 2 * nq)) Q (F0 m 1108 ls (.int a1 :: .ref m0 :: [])) := by
  obtain ⟨hx, hb, hml, hown, hts, hN, hK, hA, hE, hX, hbl, hbA⟩ := C
  obtain ⟨xv, rc, rf, imf, sf, ig, md, wx, wm, bk, hI, hM, hR, hQ, hP, hD, hS⟩ := hJ
  have hnm := XI_nm hI
  refine rf_X11_image a1 hnm.1 hnm.2 hk hx hb hml hown hts hN hK hA hls hM (hP.perm pw_mx) (hD.perm pw_mx) hS (fun r H1 locs1 wm' ig' md' h1 h2 h3 h4 h5 => ?_)
  have hq : PI c imf ig' md' bk := by
    rcases h5 with ⟨q1, q2, q3⟩ | ⟨q1, q2, q3, q4⟩ <;> rcases hQ.2 with ⟨z1, z2⟩ | ⟨z1, z2, z3, g, z4, z5⟩
    · rw [q2, q3]; exact z2
    · omega
    · omega
    · intro j hj
      have hc := cl_int (x := a1) q1
      have hc2 : a1.toInt.toNat = Int32.toNatClampNeg a1 := rfl
      by_cases hn : j = Int32.toNatClampNeg a1
      · have h7 := q3.1 7 (by decide)
        rw [hc2] at h7
        refine Or.inr ⟨g, by rw [hn]; exact z4, by rw [q4, hn]; simp [upd], ?_⟩
        rw [hn, h7, hQ.1]
        exact z5
      · have h7 := q3.2 (202 * j + 7) (by rw [hc2]; omega)
        have hp := z3 j hj hn
        unfold PI1 at hp ⊢
        rw [h7, q4, show upd md (Int32.toNatClampNeg a1) 1 j = md j by simp [upd, hn]]
        exact hp
  exact kk r H1 locs1 ⟨xv, rc, rf, imf, sf, ig', md', wx, wm', bk, hI, h1, hR, ⟨hQ.1, hq⟩, h2.perm pw_mx, h3.perm pw_mx, h4⟩
set_option maxHeartbeats 4000000 in
set_option maxRecDepth 100000 in
theorem rs_back {p : Program} {l : Launch} {e : Env} {s : State} {m : MethodId} {b L : Nat} {xs : Nat → Int32} {below : List Frame} {meth : Method} {cd : Code} {H : Heap} {locs : List Loc} {Q : State → Prop} {ls : Array Slot} {A : Nat → Prop} {D : va_G} {c : Nat → ClassId} {kS vS : Nat} {fS : Nat → Int32} {h0 m0 k nm nq : Nat} (a1 : Int32)  (C : CX p s m cd b L xs A D c kS vS fS) (hk : k ≤ 200) (hls : ls.size = 4) (hJ : LQ (R3 c a1) D A s c h0 m0 nm nq H locs) (kk : ∀ (r : Int32) (H1 : Heap) (locs1 : List Loc), LQ (LR c) D A s c h0 m0 nm nq H1 locs1 → W p l e room_1 s m #[Value.ref b] below meth cd H1 locs1 (100 + 100 * (k + 1) + (nm + nq / 256)) (3160000 + 5000 * (k + 1) + (2 * nm + 2 * nq)) Q (F0 m 1134 ls (.int r :: []))) : W p l e room_1 s m #[Value.ref b] below meth cd H locs (100 + 100 * k + (nm + nq / 256)) (3160000 + 5000 * k + (2 * nm + 2 * nq)) Q (F0 m 1131 ls (.int a1 :: .ref m0 :: [])) := by
  obtain ⟨hx, hb, hml, hown, hts, hN, hK, hA, hE, hX, hbl, hbA⟩ := C
  obtain ⟨xv, rc, rf, imf, sf, ig, md, wx, wm, bk, hI, hM, hR, hQ, hP, hD, hS⟩ := hJ
  have hnm := XI_nm hI
  refine rf_X11_back a1 hnm.1 hnm.2 hk hx hb hml hown hts hN hK hA hls hM (hP.perm pw_mx) (hD.perm pw_mx) hS (fun r H1 locs1 wm' sf' h1 h2 h3 h4 h5 => ?_)
  have hq : sf' 7 = xv := by
    rcases h5 with ⟨q1, q2⟩ | ⟨q1, q2, q3, q4⟩ <;> rcases hQ.2 with ⟨z1, z2⟩ | ⟨z1, z2, z3, z4⟩
    · rw [q2]; exact z2
    · omega
    · omega
    · rw [z4]; exact q4 7 (by decide)
  exact kk r H1 locs1 ⟨xv, rc, rf, imf, sf', ig, md, wx, wm', bk, hI, h1, hR, ⟨hq, hQ.1⟩, h2.perm pw_mx, h3.perm pw_mx, h4⟩
