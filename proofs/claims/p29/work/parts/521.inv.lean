theorem subT0 {D : va_G} {cl : List vw_C} {we we' tl : va_W} {H : Heap} (h : va_P D cl (we ++ tl) H) (is : List Nat) (hs : is.map (fun i => we[i]?) = we'.map some) : va_P D cl we' H := (subT h is hs).mem (fun q hq => List.mem_append_left _ hq)
theorem dsubT0 {A : Nat → Prop} {we we' tl : va_W} (h : va_D A (we ++ tl)) (is : List Nat) (hn : va_nd is = true) (hs : is.map (fun i => we[i]?) = we'.map some) : va_D A we' := h.sub is hn (is_app hs)
set_option maxHeartbeats 4000000 in
set_option maxRecDepth 100000 in
def XIW (c : Nat → ClassId) (h0 : Nat) (xv : Int32) (rc : Int32) (rf : Nat → Option Nat) (imf : Nat → Option Nat) (nm : Nat) (nq : Nat) (ad : Nat → Nat) (vi : Nat → Int32) (fn : Nat → Nat → Int32) (lf : Nat → Nat → Int64) (uv : Nat → Value) (nn : Nat → Nat) : va_W := ((h0, .inr (9, [.ref (ad 1), .ref (ad 3), .ref (ad 6), .ref (ad 7), .ref (ad 25), .ref (ad 43), .ref (ad 44), .ref (ad 49), .ref (ad 53), .int rc])) :: ((ad 1), .inr (8, [.ref (ad 2), .int (vi 2), .int (vi 3), .int (vi 4), .int (vi 5), .int (vi 6)])) :: ((ad 2), .inl (c 0, 400, .inl (fn 7))) :: ((ad 3), .inr (5, [.ref (ad 1), .ref (ad 4), .ref (ad 5), .int (vi 8), .int (vi 9)])) :: ((ad 4), .inl (c 0, 400, .inl (fn 10))) :: ((ad 5), .inl (c 0, 36, .inl (fn 11))) :: ((ad 6), .inl (c 4, 6, .inr (.inr (.inr (.inr rf))))) :: ((ad 7), .inr (7, [.ref (ad 8), .ref (ad 16), .int (vi 13), .int (vi 14), .int (vi 15), .int xv, .int (vi 17), .ref (ad 24)])) :: ((ad 8), .inr (3, [.int (vi 18), .int (vi 19), .ref (ad 9), .ref (ad 10), .ref (ad 11), .ref (ad 12), .ref (ad 13), .ref (ad 14), .ref (ad 15)])) :: ((ad 9), .inl (c 0, 14, .inl (fn 20))) :: ((ad 10), .inl (c 0, 14, .inl (fn 21))) :: ((ad 11), .inl (c 0, 14, .inl (fn 22))) :: ((ad 12), .inl (c 0, 14, .inl (fn 23))) :: ((ad 13), .inl (c 0, 14, .inl (fn 24))) :: ((ad 14), .inl (c 0, 8, .inl (fn 25))) :: ((ad 15), .inl (c 0, 8, .inl (fn 26))) :: ((ad 16), .inr (1, [.int (vi 27), .ref (ad 17), .ref (ad 18), .ref (ad 19), .ref (ad 20), .ref (ad 21), .ref (ad 22), .ref (ad 23)])) :: ((ad 17), .inl (c 0, 6, .inl (fn 28))) :: ((ad 18), .inl (c 0, 6, .inl (fn 29))) :: ((ad 19), .inl (c 0, 6, .inl (fn 30))) :: ((ad 20), .inl (c 0, 6, .inl (fn 31))) :: ((ad 21), .inl (c 0, 6, .inl (fn 32))) :: ((ad 22), .inl (c 0, 6, .inl (fn 33))) :: ((ad 23), .inl (c 0, 6, .inl (fn 34))) :: ((ad 24), .inl (c 0, 40, .inl (fn 35))) :: ((ad 25), .inr (7, [.ref (ad 26), .ref (ad 34), .int (vi 36), .int (vi 37), .int (vi 38), .int (vi 39), .int (vi 40), .ref (ad 42)])) :: ((ad 26), .inr (3, [.int (vi 41), .int (vi 42), .ref (ad 27), .ref (ad 28), .ref (ad 29), .ref (ad 30), .ref (ad 31), .ref (ad 32), .ref (ad 33)])) :: ((ad 27), .inl (c 0, 14, .inl (fn 43))) :: ((ad 28), .inl (c 0, 14, .inl (fn 44))) :: ((ad 29), .inl (c 0, 14, .inl (fn 45))) :: ((ad 30), .inl (c 0, 14, .inl (fn 46))) :: ((ad 31), .inl (c 0, 14, .inl (fn 47))) :: ((ad 32), .inl (c 0, 8, .inl (fn 48))) :: ((ad 33), .inl (c 0, 8, .inl (fn 49))) :: ((ad 34), .inr (1, [.int (vi 50), .ref (ad 35), .ref (ad 36), .ref (ad 37), .ref (ad 38), .ref (ad 39), .ref (ad 40), .ref (ad 41)])) :: ((ad 35), .inl (c 0, 6, .inl (fn 51))) :: ((ad 36), .inl (c 0, 6, .inl (fn 52))) :: ((ad 37), .inl (c 0, 6, .inl (fn 53))) :: ((ad 38), .inl (c 0, 6, .inl (fn 54))) :: ((ad 39), .inl (c 0, 6, .inl (fn 55))) :: ((ad 40), .inl (c 0, 6, .inl (fn 56))) :: ((ad 41), .inl (c 0, 6, .inl (fn 57))) :: ((ad 42), .inl (c 0, 40, .inl (fn 58))) :: ((ad 43), .inl (c 5, 4, .inr (.inr (.inr (.inr imf))))) :: ((ad 44), .inr (2, [.ref (ad 45), .ref (ad 46), .ref (ad 47), (uv 60), (uv 61), .ref (ad 48), .int (vi 62)])) :: ((ad 45), .inl (c 1, 64, .inr (.inl (lf 63)))) :: ((ad 46), .inl (c 0, 8, .inl (fn 64))) :: ((ad 47), .inl (c 0, 8, .inl (fn 65))) :: ((ad 48), .inl (c 1, 12, .inr (.inl (lf 66)))) :: ((ad 49), .inr (6, [.ref (ad 50), .ref (ad 51), .int (vi 67), .int (vi 68), .ref (ad 52), .int (vi 69), .ref (ad 8), .ref (ad 16), .int (vi 70), .int (vi 71), .int (vi 72), .int (vi 73)])) :: ((ad 50), .inl (c 0, nm, .inl (fn 75))) :: ((ad 51), .inl (c 0, nq, .inl (fn 77))) :: ((ad 52), .inl (c 0, 6, .inl (fn 78))) :: ((ad 53), .inr (0, [.int (vi 79), .int (vi 80), .ref (ad 8), .ref (ad 16), .ref (ad 54), .int (vi 81), .ref (ad 55), .ref (ad 56)])) :: ((ad 54), .inl (c 0, 14, .inl (fn 82))) :: ((ad 55), .inl (c 1, (nn 83), .inr (.inl (lf 84)))) :: ((ad 56), .inl (c 0, (nn 85), .inl (fn 86))) :: [])
set_option maxHeartbeats 4000000 in
set_option maxRecDepth 100000 in
def XIF (xv : Int32) (rc : Int32) (rf : Nat → Option Nat) (imf : Nat → Option Nat) (nm : Nat) (nq : Nat) (ad : Nat → Nat) (vi : Nat → Int32) (fn : Nat → Nat → Int32) (lf : Nat → Nat → Int64) (uv : Nat → Value) (nn : Nat → Nat) (i : Nat) : Prop := match i with
  | 0 => 0 ≤ rc.toInt ∧ rc.toInt ≤ 6
  | 1 => 0 ≤ (vi 2).toInt ∧ (vi 2).toInt ≤ 400
  | 2 => 0 ≤ (vi 3).toInt ∧ (vi 3).toInt ≤ 400
  | 3 => 0 ≤ (vi 5).toInt ∧ (vi 5).toInt ≤ 99999
  | 4 => 0 ≤ (vi 6).toInt ∧ (vi 6).toInt ≤ 400
  | 5 => Rg (fn 7) 0 255
  | 6 => 0 ≤ (vi 8).toInt ∧ (vi 8).toInt ≤ 400
  | 7 => 0 ≤ (vi 9).toInt ∧ (vi 9).toInt ≤ 60
  | 8 => CodeOK (fn 10)
  | 9 => Rg (fn 11) 0 400
  | 10 => 0 ≤ (vi 17).toInt ∧ (vi 17).toInt ≤ 40
  | 11 => 0 ≤ (vi 18).toInt ∧ (vi 18).toInt ≤ 14
  | 12 => 0 ≤ (vi 19).toInt ∧ (vi 19).toInt ≤ 16383
  | 13 => Rg (fn 20) 0 7
  | 14 => Rg (fn 21) 0 7
  | 15 => Rg (fn 25) 0 16383
  | 16 => Rg (fn 26) 0 16383
  | 17 => 0 ≤ (vi 27).toInt ∧ (vi 27).toInt ≤ 6
  | 18 => Rg (fn 28) 0 8
  | 19 => Rg (fn 29) 0 7
  | 20 => Rg (fn 31) (-1) 13
  | 21 => Rg (fn 33) (-1) 7
  | 22 => 0 ≤ (vi 40).toInt ∧ (vi 40).toInt ≤ 40
  | 23 => 0 ≤ (vi 41).toInt ∧ (vi 41).toInt ≤ 14
  | 24 => 0 ≤ (vi 42).toInt ∧ (vi 42).toInt ≤ 16383
  | 25 => Rg (fn 43) 0 7
  | 26 => Rg (fn 44) 0 7
  | 27 => Rg (fn 48) 0 16383
  | 28 => Rg (fn 49) 0 16383
  | 29 => 0 ≤ (vi 50).toInt ∧ (vi 50).toInt ≤ 6
  | 30 => Rg (fn 51) 0 8
  | 31 => Rg (fn 52) 0 7
  | 32 => Rg (fn 54) (-1) 13
  | 33 => Rg (fn 56) (-1) 7
  | 34 => 0 ≤ (vi 62).toInt ∧ (vi 62).toInt ≤ 5
  | 35 => 0 ≤ (vi 67).toInt ∧ (vi 67).toInt ≤ 1048576
  | 36 => 0 ≤ (vi 68).toInt ∧ (vi 68).toInt ≤ 1048576
  | 37 => 0 ≤ (vi 69).toInt ∧ (vi 69).toInt ≤ 6
  | 38 => 0 ≤ (vi 70).toInt ∧ (vi 70).toInt ≤ 14
  | 39 => 0 ≤ (vi 72).toInt ∧ (vi 72).toInt ≤ 1048575
  | 40 => 0 ≤ (vi 73).toInt ∧ (vi 73).toInt ≤ 255
  | 41 => Rg (fn 78) 0 5
  | 42 => 0 ≤ (vi 79).toInt ∧ (vi 79).toInt ≤ 7
  | 43 => 0 ≤ (vi 80).toInt ∧ (vi 80).toInt ≤ 16383
  | 44 => Rg (fn 82) 0 13
  | 45 => DrOK (vi 18) (vi 19)
  | 46 => OuOK (vi 18) (fn 25)
  | 47 => OuOK (vi 18) (fn 26)
  | 48 => OnOK (vi 18) (vi 27) (fn 31)
  | 49 => PlOK (vi 27) (fn 28) (fn 31)
  | 50 => HdOK (vi 27) (fn 31) (fn 33)
  | 51 => Pm0 nm
  | 52 => Pq0 nq
  | 53 => (nn 83) = 0 ∨ ((nn 83) = 2001 ∧ (nn 85) = 2001)
  | _ => True
def XI (c : Nat → ClassId) (h0 : Nat) (xv : Int32) (rc : Int32) (rf : Nat → Option Nat) (imf : Nat → Option Nat) (nm : Nat) (nq : Nat) (wx : va_W) : Prop := ∃ (ad : Nat → Nat) (vi : Nat → Int32) (fn : Nat → Nat → Int32) (lf : Nat → Nat → Int64) (uv : Nat → Value) (nn : Nat → Nat), wx = XIW c h0 xv rc rf imf nm nq ad vi fn lf uv nn ∧ ∀ i, XIF xv rc rf imf nm nq ad vi fn lf uv nn i
set_option maxHeartbeats 4000000 in
set_option maxRecDepth 100000 in
def MIW (c : Nat → ClassId) (h0 : Nat) (sf : Nat → Int32) (imf : Nat → Int32) (mdf : Nat → Int32) (ad : Nat → Nat) (vi : Nat → Int32) (fn : Nat → Nat → Int32) (lf : Nat → Nat → Int64) : va_W := [(h0, .inr (10, (.ref (ad 1) :: .int (vi 1) :: .int (vi 2) :: .ref (ad 2) :: .ref (ad 3) :: .ref (ad 4) :: .ref (ad 5) :: .int (vi 3) :: .int (vi 4) :: .ref (ad 6) :: .ref (ad 7) :: .int (vi 5) :: .int (vi 6) :: .int (vi 7) :: .int (vi 8) :: .int (vi 9) :: .int (vi 10) :: .int (vi 11) :: .ref (ad 8) :: .int (vi 12) :: .ref (ad 9) :: .int (vi 13) :: .ref (ad 10) :: .ref (ad 11) :: .ref (ad 12) :: .ref (ad 13) :: .ref (ad 14) :: .ref (ad 15) :: .ref (ad 16) :: .int (vi 14) :: .ref (ad 17) :: .int (vi 15) :: .ref (ad 18) :: .int (vi 16) :: .int (vi 17) :: .int (vi 18) :: .ref (ad 19) :: .ref (ad 20) :: .ref (ad 21) :: .ref (ad 22) :: .int (vi 19) :: .ref (ad 23) :: .ref (ad 24) :: []))), ((ad 1), .inl (c 2, 400, .inl (fn 20))), ((ad 2), .inl (c 0, 2400, .inl (fn 21))), ((ad 3), .inl (c 0, 7, .inl (fn 22))), ((ad 4), .inl (c 0, 360, .inl (fn 23))), ((ad 5), .inl (c 0, 6, .inl (fn 24))), ((ad 6), .inl (c 0, 42, .inl (fn 25))), ((ad 7), .inl (c 0, 18, .inl (fn 26))), ((ad 8), .inl (c 0, 400, .inl (fn 27))), ((ad 9), .inl (c 1, 64, .inr (.inl (lf 28)))), ((ad 10), .inl (c 1, 12, .inr (.inl (lf 29)))), ((ad 11), .inl (c 0, 202, .inl sf)), ((ad 12), .inl (c 0, 202, .inl (fn 31))), ((ad 13), .inl (c 0, 8, .inl (fn 32))), ((ad 14), .inl (c 0, 1048576, .inl (fn 33))), ((ad 15), .inl (c 0, 1048576, .inl (fn 34))), ((ad 16), .inl (c 0, 1048576, .inl (fn 35))), ((ad 17), .inl (c 0, 6, .inl (fn 36))), ((ad 18), .inl (c 3, 14, .inl (fn 37))), ((ad 19), .inl (c 0, 14, .inl (fn 38))), ((ad 20), .inl (c 0, 2001, .inl (fn 39))), ((ad 21), .inl (c 1, 2001, .inr (.inl (lf 40)))), ((ad 22), .inl (c 0, 6, .inl (fn 41))), ((ad 23), .inl (c 0, 808, .inl imf)), ((ad 24), .inl (c 3, 4, .inl mdf))]
set_option maxHeartbeats 4000000 in
set_option maxRecDepth 100000 in
def MIF (sf : Nat → Int32) (imf : Nat → Int32) (mdf : Nat → Int32) (ad : Nat → Nat) (vi : Nat → Int32) (fn : Nat → Nat → Int32) (lf : Nat → Nat → Int64) (i : Nat) : Prop := match i with
  | 0 => 0 ≤ (vi 1).toInt ∧ (vi 1).toInt ≤ 400
  | 1 => 0 ≤ (vi 2).toInt ∧ (vi 2).toInt ≤ 6
  | 2 => 0 ≤ (vi 3).toInt ∧ (vi 3).toInt ≤ 14
  | 3 => 0 ≤ (vi 4).toInt ∧ (vi 4).toInt ≤ 6
  | 4 => 0 ≤ (vi 5).toInt ∧ (vi 5).toInt ≤ 400
  | 5 => 0 ≤ (vi 8).toInt ∧ (vi 8).toInt ≤ 6
  | 6 => 0 ≤ (vi 9).toInt ∧ (vi 9).toInt ≤ 60
  | 7 => 0 ≤ (vi 11).toInt ∧ (vi 11).toInt ≤ 24
  | 8 => 0 ≤ (vi 12).toInt ∧ (vi 12).toInt ≤ 400
  | 9 => 0 ≤ (vi 13).toInt ∧ (vi 13).toInt ≤ 64
  | 10 => 0 ≤ (vi 14).toInt ∧ (vi 14).toInt ≤ 1048576
  | 11 => 0 ≤ (vi 15).toInt ∧ (vi 15).toInt ≤ 6
  | 12 => 0 ≤ (vi 16).toInt ∧ (vi 16).toInt ≤ 7
  | 13 => 0 ≤ (vi 17).toInt ∧ (vi 17).toInt ≤ 16383
  | 14 => 0 ≤ (vi 19).toInt ∧ (vi 19).toInt ≤ 16383
  | 15 => Rg (fn 22) 0 400
  | 16 => Rg (fn 24) 0 12
  | 17 => WrN (fn 25)
  | 18 => WrN (fn 26)
  | 19 => SaidN sf
  | 20 => SaidN (fn 31)
  | 21 => Rg (fn 32) (-1) 7
  | 22 => Rg (fn 33) 0 1048575
  | 23 => Rg (fn 34) (-1) 1048575
  | 24 => Rg (fn 36) 0 5
  | 25 => Rg (fn 41) 0 8
  | 26 => StOK sf
  | 27 => UnOK sf
  | 28 => ImN imf
  | 29 => RlOK (fn 21) (fn 23) (fn 24) (vi 2).toInt.toNat
  | _ => True
def MI (c : Nat → ClassId) (h0 : Nat) (sf : Nat → Int32) (imf : Nat → Int32) (mdf : Nat → Int32) (wx : va_W) : Prop := ∃ (ad : Nat → Nat) (vi : Nat → Int32) (fn : Nat → Nat → Int32) (lf : Nat → Nat → Int64), wx = MIW c h0 sf imf mdf ad vi fn lf ∧ ∀ i, MIF sf imf mdf ad vi fn lf i
