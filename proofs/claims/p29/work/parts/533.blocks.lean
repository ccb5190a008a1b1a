set_option maxHeartbeats 4000000 in
set_option maxRecDepth 100000 in
def RBW (c : Nat → ClassId) (g0 : Nat) (ad : Nat → Nat) (vi : Nat → Int32) (fn : Nat → Nat → Int32) (nn : Nat → Nat) : va_W := [(g0, .inr (4, [.ref (ad 1), .ref (ad 2), .int (vi 0), .int (vi 1), .int (vi 2)])), ((ad 1), .inl (c 0, (nn 0), .inl (fn 0))), ((ad 2), .inl (c 0, (nn 1), .inl (fn 1)))]
set_option maxHeartbeats 4000000 in
set_option maxRecDepth 100000 in
def RBF (ad : Nat → Nat) (vi : Nat → Int32) (fn : Nat → Nat → Int32) (nn : Nat → Nat) (i : Nat) : Prop := match i with
  | 0 => 1 ≤ (vi 0).toInt ∧ (vi 0).toInt ≤ 12
  | 1 => CodeOK (fn 0)
  | 2 => Rg (fn 1) 0 400
  | 3 => ((nn 1) : Int) = 3 * (vi 0).toInt
  | 4 => ((nn 0) : Int) ≤ 400
  | _ => True
def RB (c : Nat → ClassId) (g0 : Nat) (bl : va_W) : Prop := ∃ (ad : Nat → Nat) (vi : Nat → Int32) (fn : Nat → Nat → Int32) (nn : Nat → Nat), bl = RBW c g0 ad vi fn nn ∧ ∀ i, RBF ad vi fn nn i
set_option maxHeartbeats 4000000 in
set_option maxRecDepth 100000 in
def IBW (c : Nat → ClassId) (g0 : Nat) (gxv : Int32) (ad : Nat → Nat) (vi : Nat → Int32) (fn : Nat → Nat → Int32) : va_W := [(g0, .inr (7, [.ref (ad 1), .ref (ad 9), .int (vi 0), .int (vi 1), .int (vi 2), .int gxv, .int (vi 3), .ref (ad 17)])), ((ad 1), .inr (3, [.int (vi 4), .int (vi 5), .ref (ad 2), .ref (ad 3), .ref (ad 4), .ref (ad 5), .ref (ad 6), .ref (ad 7), .ref (ad 8)])), ((ad 2), .inl (c 0, 14, .inl (fn 0))), ((ad 3), .inl (c 0, 14, .inl (fn 1))), ((ad 4), .inl (c 0, 14, .inl (fn 2))), ((ad 5), .inl (c 0, 14, .inl (fn 3))), ((ad 6), .inl (c 0, 14, .inl (fn 4))), ((ad 7), .inl (c 0, 8, .inl (fn 5))), ((ad 8), .inl (c 0, 8, .inl (fn 6))), ((ad 9), .inr (1, [.int (vi 6), .ref (ad 10), .ref (ad 11), .ref (ad 12), .ref (ad 13), .ref (ad 14), .ref (ad 15), .ref (ad 16)])), ((ad 10), .inl (c 0, 6, .inl (fn 7))), ((ad 11), .inl (c 0, 6, .inl (fn 8))), ((ad 12), .inl (c 0, 6, .inl (fn 9))), ((ad 13), .inl (c 0, 6, .inl (fn 10))), ((ad 14), .inl (c 0, 6, .inl (fn 11))), ((ad 15), .inl (c 0, 6, .inl (fn 12))), ((ad 16), .inl (c 0, 6, .inl (fn 13))), ((ad 17), .inl (c 0, 40, .inl (fn 14)))]
set_option maxHeartbeats 4000000 in
set_option maxRecDepth 100000 in
def IBF (gxv : Int32) (ad : Nat → Nat) (vi : Nat → Int32) (fn : Nat → Nat → Int32) (i : Nat) : Prop := match i with
  | 0 => 0 ≤ (vi 3).toInt ∧ (vi 3).toInt ≤ 40
  | 1 => 0 ≤ (vi 4).toInt ∧ (vi 4).toInt ≤ 14
  | 2 => 0 ≤ (vi 5).toInt ∧ (vi 5).toInt ≤ 16383
  | 3 => Rg (fn 0) 0 7
  | 4 => Rg (fn 1) 0 7
  | 5 => Rg (fn 5) 0 16383
  | 6 => Rg (fn 6) 0 16383
  | 7 => 0 ≤ (vi 6).toInt ∧ (vi 6).toInt ≤ 6
  | 8 => Rg (fn 7) 0 8
  | 9 => Rg (fn 8) 0 7
  | 10 => Rg (fn 10) (-1) 13
  | 11 => Rg (fn 12) (-1) 7
  | 12 => DrOK (vi 4) (vi 5)
  | 13 => OuOK (vi 4) (fn 5)
  | 14 => OuOK (vi 4) (fn 6)
  | 15 => OnOK (vi 4) (vi 6) (fn 10)
  | 16 => PlOK (vi 6) (fn 7) (fn 10)
  | 17 => HdOK (vi 6) (fn 10) (fn 12)
  | _ => True
def IB (c : Nat → ClassId) (g0 : Nat) (gxv : Int32) (bl : va_W) : Prop := ∃ (ad : Nat → Nat) (vi : Nat → Int32) (fn : Nat → Nat → Int32), bl = IBW c g0 gxv ad vi fn ∧ ∀ i, IBF gxv ad vi fn i
theorem asP {D : va_G} {cl : List vw_C} {a b t : va_W} {H : Heap} (h : va_P D cl (a ++ (b ++ t)) H) : va_P D cl ((a ++ b) ++ t) H := by rw [List.append_assoc]; exact h
theorem asD {A : Nat → Prop} {a b t : va_W} (h : va_D A (a ++ (b ++ t))) : va_D A ((a ++ b) ++ t) := by rw [List.append_assoc]; exact h
theorem saP {D : va_G} {cl : List vw_C} {a b t : va_W} {H : Heap} (h : va_P D cl ((a ++ b) ++ t) H) : va_P D cl (a ++ (b ++ t)) H := by rw [← List.append_assoc]; exact h
theorem saD {A : Nat → Prop} {a b t : va_W} (h : va_D A ((a ++ b) ++ t)) : va_D A (a ++ (b ++ t)) := by rw [← List.append_assoc]; exact h
