/-! the world at first, and its memory -/
def m0f (r i : Nat) : Int32 := if r = 1 ∨ r = 13 ∨ r = 25 ∨ r = 50 then stN 10 i else if r = 55 then tk ltL 70 i else if r = 56 then tk moL 40 i else if r = 57 then tk otL 20 i else 0
def m0 : TM := (m0f, 0)
def kadF (q4 q5 : Nat) (a b c u v : Nat → Nat) (i : Nat) : Nat := if i = 0 then q4 else if i < 13 then a (i - 1) else if i < 25 then b (i - 13) else if i < 37 then c (i - 25) else if i < 49 then u (i - 37) else if i = 49 then q5 else v (i - 50)
def K0 (l : Launch) (D : va_G) (ca : Nat → ClassId) (kK kV : Nat → Nat) (z kF q4 q5 : Nat) (a b c u v : Nat → Nat) : Cx := (l, D, kadF q4 q5 a b c u v, ca, kK, kV, z, kF)
theorem z_fun {n : Nat} {f : Nat → Int32} (h : ∀ j, j < n → f j = 0) : (fun j => if j < n then f j else 0) = fun _ => (0 : Int32) := by
  funext j
  by_cases hj : j < n
  · rw [if_pos hj, h j hj]
  · rw [if_neg hj]
theorem n_fun {n : Nat} {f g : Nat → Int32} (h : ∀ j, j < n → f j = g j) (h2 : ∀ j, n ≤ j → g j = 0) : (fun j => if j < n then f j else 0) = g := by
  funext j
  by_cases hj : j < n
  · rw [if_pos hj, h j hj]
  · rw [if_neg hj, h2 j (by omega)]
theorem st_list : ∀ j, j < 6 → stN 10 (6 + j) = 0 := by decide
theorem st_spots : ∀ j, j < 10 → stN 10 (68 + j) = spN 10 j := by decide
theorem sp_out : ∀ j, 10 ≤ j → spN 10 j = 0 := fun j hj => if_neg (by omega)
theorem st_out : ∀ j, 78 ≤ j → stN 10 j = 0 := fun j hj => by
  unfold stN
  rw [if_neg (by omega), if_neg (by omega)]
theorem tk_out (l : List Int32) (n : Nat) : ∀ j, n ≤ j → tk l n j = 0 := fun j hj => if_neg (by omega)
theorem r_fun {n : Nat} {f g : Nat → Option Nat} (h : ∀ j, j < n → f j = g j) (h2 : ∀ j, n ≤ j → g j = none) : (fun j => if j < n then f j else none) = g := by
  funext j
  by_cases hj : j < n
  · rw [if_pos hj, h j hj]
  · rw [if_neg hj, h2 j (by omega)]
set_option maxRecDepth 100000 in
set_option maxHeartbeats 4000000 in
theorem cel_0 {l : Launch} {D : va_G} {ca : Nat → ClassId} {kK kV : Nat → Nat} {z kF q4 q5 : Nat} {a b c u v : Nat → Nat} : cellOf (K0 l D ca kK kV z kF q4 q5 a b c u v) m0 0 = eO 4 [.ref (a 0), .ref (b 0), .ref (c 0), .int 0, .ref (u 0), .ref (u 2), .ref (u 3)] := by
  exact rfl
set_option maxRecDepth 100000 in
set_option maxHeartbeats 4000000 in
theorem cel_1 {l : Launch} {D : va_G} {ca : Nat → ClassId} {kK kV : Nat → Nat} {z kF q4 q5 : Nat} {a b c u v : Nat → Nat} : cellOf (K0 l D ca kK kV z kF q4 q5 a b c u v) m0 1 = eO 0 [.ref (a 1), .int 0, .int 0, .int 0, .int 0, .int 1, .int 0, .ref (a 2), .ref (a 3)] := by
  exact rfl
set_option maxRecDepth 100000 in
set_option maxHeartbeats 4000000 in
theorem cel_2 {l : Launch} {D : va_G} {ca : Nat → ClassId} {kK kV : Nat → Nat} {z kF q4 q5 : Nat} {a b c u v : Nat → Nat} : cellOf (K0 l D ca kK kV z kF q4 q5 a b c u v) m0 2 = eI (ca 8) 6 (fun _ => 0) := by
  exact congrArg (eI (ca 8) 6) (z_fun st_list)
set_option maxRecDepth 100000 in
set_option maxHeartbeats 4000000 in
theorem cel_3 {l : Launch} {D : va_G} {ca : Nat → ClassId} {kK kV : Nat → Nat} {z kF q4 q5 : Nat} {a b c u v : Nat → Nat} : cellOf (K0 l D ca kK kV z kF q4 q5 a b c u v) m0 3 = eR (ca 9) 8 (va_up (va_up (va_up (va_up (va_up (va_up (va_up (va_up (fun _ => none) 0 (some (a 4))) 1 (some (a 5))) 2 (some (a 6))) 3 (some (a 7))) 4 (some (a 8))) 5 (some (a 9))) 6 (some (a 10))) 7 (some (a 11))) := by
  exact congrArg (eR (ca 9) 8) (r_fun (n := 8) (fun j hj => by
    have : j = 0 ∨ j = 1 ∨ j = 2 ∨ j = 3 ∨ j = 4 ∨ j = 5 ∨ j = 6 ∨ j = 7 := by omega
    rcases this with rfl | rfl | rfl | rfl | rfl | rfl | rfl | rfl <;> rfl) (fun j hj => by
    unfold va_up
    repeat rw [if_neg (by omega)]))
set_option maxRecDepth 100000 in
set_option maxHeartbeats 4000000 in
theorem cel_4 {l : Launch} {D : va_G} {ca : Nat → ClassId} {kK kV : Nat → Nat} {z kF q4 q5 : Nat} {a b c u v : Nat → Nat} : cellOf (K0 l D ca kK kV z kF q4 q5 a b c u v) m0 4 = eI (ca 8) 10 (spN 10) := by
  exact congrArg (eI (ca 8) 10) (n_fun st_spots sp_out)
set_option maxRecDepth 100000 in
set_option maxHeartbeats 4000000 in
theorem cel_5 {l : Launch} {D : va_G} {ca : Nat → ClassId} {kK kV : Nat → Nat} {z kF q4 q5 : Nat} {a b c u v : Nat → Nat} : cellOf (K0 l D ca kK kV z kF q4 q5 a b c u v) m0 5 = eO 1 [.int 0, .int 0, .int 0, .int 0, .int 0, .int 0, .int 0] := by
  exact rfl
set_option maxRecDepth 100000 in
set_option maxHeartbeats 4000000 in
theorem cel_6 {l : Launch} {D : va_G} {ca : Nat → ClassId} {kK kV : Nat → Nat} {z kF q4 q5 : Nat} {a b c u v : Nat → Nat} : cellOf (K0 l D ca kK kV z kF q4 q5 a b c u v) m0 6 = eO 1 [.int 0, .int 0, .int 0, .int 0, .int 0, .int 0, .int 0] := by
  exact rfl
set_option maxRecDepth 100000 in
set_option maxHeartbeats 4000000 in
theorem cel_7 {l : Launch} {D : va_G} {ca : Nat → ClassId} {kK kV : Nat → Nat} {z kF q4 q5 : Nat} {a b c u v : Nat → Nat} : cellOf (K0 l D ca kK kV z kF q4 q5 a b c u v) m0 7 = eO 1 [.int 0, .int 0, .int 0, .int 0, .int 0, .int 0, .int 0] := by
  exact rfl
set_option maxRecDepth 100000 in
set_option maxHeartbeats 4000000 in
theorem cel_8 {l : Launch} {D : va_G} {ca : Nat → ClassId} {kK kV : Nat → Nat} {z kF q4 q5 : Nat} {a b c u v : Nat → Nat} : cellOf (K0 l D ca kK kV z kF q4 q5 a b c u v) m0 8 = eO 1 [.int 0, .int 0, .int 0, .int 0, .int 0, .int 0, .int 0] := by
  exact rfl
set_option maxRecDepth 100000 in
set_option maxHeartbeats 4000000 in
theorem cel_9 {l : Launch} {D : va_G} {ca : Nat → ClassId} {kK kV : Nat → Nat} {z kF q4 q5 : Nat} {a b c u v : Nat → Nat} : cellOf (K0 l D ca kK kV z kF q4 q5 a b c u v) m0 9 = eO 1 [.int 0, .int 0, .int 0, .int 0, .int 0, .int 0, .int 0] := by
  exact rfl
set_option maxRecDepth 100000 in
set_option maxHeartbeats 4000000 in
theorem cel_10 {l : Launch} {D : va_G} {ca : Nat → ClassId} {kK kV : Nat → Nat} {z kF q4 q5 : Nat} {a b c u v : Nat → Nat} : cellOf (K0 l D ca kK kV z kF q4 q5 a b c u v) m0 10 = eO 1 [.int 0, .int 0, .int 0, .int 0, .int 0, .int 0, .int 0] := by
  exact rfl
set_option maxRecDepth 100000 in
set_option maxHeartbeats 4000000 in
theorem cel_11 {l : Launch} {D : va_G} {ca : Nat → ClassId} {kK kV : Nat → Nat} {z kF q4 q5 : Nat} {a b c u v : Nat → Nat} : cellOf (K0 l D ca kK kV z kF q4 q5 a b c u v) m0 11 = eO 1 [.int 0, .int 0, .int 0, .int 0, .int 0, .int 0, .int 0] := by
  exact rfl
set_option maxRecDepth 100000 in
set_option maxHeartbeats 4000000 in
theorem cel_12 {l : Launch} {D : va_G} {ca : Nat → ClassId} {kK kV : Nat → Nat} {z kF q4 q5 : Nat} {a b c u v : Nat → Nat} : cellOf (K0 l D ca kK kV z kF q4 q5 a b c u v) m0 12 = eO 1 [.int 0, .int 0, .int 0, .int 0, .int 0, .int 0, .int 0] := by
  exact rfl
set_option maxRecDepth 100000 in
set_option maxHeartbeats 4000000 in
theorem cel_13 {l : Launch} {D : va_G} {ca : Nat → ClassId} {kK kV : Nat → Nat} {z kF q4 q5 : Nat} {a b c u v : Nat → Nat} : cellOf (K0 l D ca kK kV z kF q4 q5 a b c u v) m0 13 = eO 0 [.ref (b 1), .int 0, .int 0, .int 0, .int 0, .int 1, .int 0, .ref (b 2), .ref (b 3)] := by
  exact rfl
set_option maxRecDepth 100000 in
set_option maxHeartbeats 4000000 in
theorem cel_14 {l : Launch} {D : va_G} {ca : Nat → ClassId} {kK kV : Nat → Nat} {z kF q4 q5 : Nat} {a b c u v : Nat → Nat} : cellOf (K0 l D ca kK kV z kF q4 q5 a b c u v) m0 14 = eI (ca 8) 6 (fun _ => 0) := by
  exact congrArg (eI (ca 8) 6) (z_fun st_list)
set_option maxRecDepth 100000 in
set_option maxHeartbeats 4000000 in
theorem cel_15 {l : Launch} {D : va_G} {ca : Nat → ClassId} {kK kV : Nat → Nat} {z kF q4 q5 : Nat} {a b c u v : Nat → Nat} : cellOf (K0 l D ca kK kV z kF q4 q5 a b c u v) m0 15 = eR (ca 9) 8 (va_up (va_up (va_up (va_up (va_up (va_up (va_up (va_up (fun _ => none) 0 (some (b 4))) 1 (some (b 5))) 2 (some (b 6))) 3 (some (b 7))) 4 (some (b 8))) 5 (some (b 9))) 6 (some (b 10))) 7 (some (b 11))) := by
  exact congrArg (eR (ca 9) 8) (r_fun (n := 8) (fun j hj => by
    have : j = 0 ∨ j = 1 ∨ j = 2 ∨ j = 3 ∨ j = 4 ∨ j = 5 ∨ j = 6 ∨ j = 7 := by omega
    rcases this with rfl | rfl | rfl | rfl | rfl | rfl | rfl | rfl <;> rfl) (fun j hj => by
    unfold va_up
    repeat rw [if_neg (by omega)]))
set_option maxRecDepth 100000 in
set_option maxHeartbeats 4000000 in
theorem cel_16 {l : Launch} {D : va_G} {ca : Nat → ClassId} {kK kV : Nat → Nat} {z kF q4 q5 : Nat} {a b c u v : Nat → Nat} : cellOf (K0 l D ca kK kV z kF q4 q5 a b c u v) m0 16 = eI (ca 8) 10 (spN 10) := by
  exact congrArg (eI (ca 8) 10) (n_fun st_spots sp_out)
set_option maxRecDepth 100000 in
set_option maxHeartbeats 4000000 in
theorem cel_17 {l : Launch} {D : va_G} {ca : Nat → ClassId} {kK kV : Nat → Nat} {z kF q4 q5 : Nat} {a b c u v : Nat → Nat} : cellOf (K0 l D ca kK kV z kF q4 q5 a b c u v) m0 17 = eO 1 [.int 0, .int 0, .int 0, .int 0, .int 0, .int 0, .int 0] := by
  exact rfl
set_option maxRecDepth 100000 in
set_option maxHeartbeats 4000000 in
theorem cel_18 {l : Launch} {D : va_G} {ca : Nat → ClassId} {kK kV : Nat → Nat} {z kF q4 q5 : Nat} {a b c u v : Nat → Nat} : cellOf (K0 l D ca kK kV z kF q4 q5 a b c u v) m0 18 = eO 1 [.int 0, .int 0, .int 0, .int 0, .int 0, .int 0, .int 0] := by
  exact rfl
set_option maxRecDepth 100000 in
set_option maxHeartbeats 4000000 in
theorem cel_19 {l : Launch} {D : va_G} {ca : Nat → ClassId} {kK kV : Nat → Nat} {z kF q4 q5 : Nat} {a b c u v : Nat → Nat} : cellOf (K0 l D ca kK kV z kF q4 q5 a b c u v) m0 19 = eO 1 [.int 0, .int 0, .int 0, .int 0, .int 0, .int 0, .int 0] := by
  exact rfl
set_option maxRecDepth 100000 in
set_option maxHeartbeats 4000000 in
theorem cel_20 {l : Launch} {D : va_G} {ca : Nat → ClassId} {kK kV : Nat → Nat} {z kF q4 q5 : Nat} {a b c u v : Nat → Nat} : cellOf (K0 l D ca kK kV z kF q4 q5 a b c u v) m0 20 = eO 1 [.int 0, .int 0, .int 0, .int 0, .int 0, .int 0, .int 0] := by
  exact rfl
set_option maxRecDepth 100000 in
set_option maxHeartbeats 4000000 in
theorem cel_21 {l : Launch} {D : va_G} {ca : Nat → ClassId} {kK kV : Nat → Nat} {z kF q4 q5 : Nat} {a b c u v : Nat → Nat} : cellOf (K0 l D ca kK kV z kF q4 q5 a b c u v) m0 21 = eO 1 [.int 0, .int 0, .int 0, .int 0, .int 0, .int 0, .int 0] := by
  exact rfl
set_option maxRecDepth 100000 in
set_option maxHeartbeats 4000000 in
theorem cel_22 {l : Launch} {D : va_G} {ca : Nat → ClassId} {kK kV : Nat → Nat} {z kF q4 q5 : Nat} {a b c u v : Nat → Nat} : cellOf (K0 l D ca kK kV z kF q4 q5 a b c u v) m0 22 = eO 1 [.int 0, .int 0, .int 0, .int 0, .int 0, .int 0, .int 0] := by
  exact rfl
set_option maxRecDepth 100000 in
set_option maxHeartbeats 4000000 in
theorem cel_23 {l : Launch} {D : va_G} {ca : Nat → ClassId} {kK kV : Nat → Nat} {z kF q4 q5 : Nat} {a b c u v : Nat → Nat} : cellOf (K0 l D ca kK kV z kF q4 q5 a b c u v) m0 23 = eO 1 [.int 0, .int 0, .int 0, .int 0, .int 0, .int 0, .int 0] := by
  exact rfl
set_option maxRecDepth 100000 in
set_option maxHeartbeats 4000000 in
theorem cel_24 {l : Launch} {D : va_G} {ca : Nat → ClassId} {kK kV : Nat → Nat} {z kF q4 q5 : Nat} {a b c u v : Nat → Nat} : cellOf (K0 l D ca kK kV z kF q4 q5 a b c u v) m0 24 = eO 1 [.int 0, .int 0, .int 0, .int 0, .int 0, .int 0, .int 0] := by
  exact rfl
set_option maxRecDepth 100000 in
set_option maxHeartbeats 4000000 in
theorem cel_25 {l : Launch} {D : va_G} {ca : Nat → ClassId} {kK kV : Nat → Nat} {z kF q4 q5 : Nat} {a b c u v : Nat → Nat} : cellOf (K0 l D ca kK kV z kF q4 q5 a b c u v) m0 25 = eO 0 [.ref (c 1), .int 0, .int 0, .int 0, .int 0, .int 1, .int 0, .ref (c 2), .ref (c 3)] := by
  exact rfl
set_option maxRecDepth 100000 in
set_option maxHeartbeats 4000000 in
theorem cel_26 {l : Launch} {D : va_G} {ca : Nat → ClassId} {kK kV : Nat → Nat} {z kF q4 q5 : Nat} {a b c u v : Nat → Nat} : cellOf (K0 l D ca kK kV z kF q4 q5 a b c u v) m0 26 = eI (ca 8) 6 (fun _ => 0) := by
  exact congrArg (eI (ca 8) 6) (z_fun st_list)
set_option maxRecDepth 100000 in
set_option maxHeartbeats 4000000 in
theorem cel_27 {l : Launch} {D : va_G} {ca : Nat → ClassId} {kK kV : Nat → Nat} {z kF q4 q5 : Nat} {a b c u v : Nat → Nat} : cellOf (K0 l D ca kK kV z kF q4 q5 a b c u v) m0 27 = eR (ca 9) 8 (va_up (va_up (va_up (va_up (va_up (va_up (va_up (va_up (fun _ => none) 0 (some (c 4))) 1 (some (c 5))) 2 (some (c 6))) 3 (some (c 7))) 4 (some (c 8))) 5 (some (c 9))) 6 (some (c 10))) 7 (some (c 11))) := by
  exact congrArg (eR (ca 9) 8) (r_fun (n := 8) (fun j hj => by
    have : j = 0 ∨ j = 1 ∨ j = 2 ∨ j = 3 ∨ j = 4 ∨ j = 5 ∨ j = 6 ∨ j = 7 := by omega
    rcases this with rfl | rfl | rfl | rfl | rfl | rfl | rfl | rfl <;> rfl) (fun j hj => by
    unfold va_up
    repeat rw [if_neg (by omega)]))
set_option maxRecDepth 100000 in
set_option maxHeartbeats 4000000 in
theorem cel_28 {l : Launch} {D : va_G} {ca : Nat → ClassId} {kK kV : Nat → Nat} {z kF q4 q5 : Nat} {a b c u v : Nat → Nat} : cellOf (K0 l D ca kK kV z kF q4 q5 a b c u v) m0 28 = eI (ca 8) 10 (spN 10) := by
  exact congrArg (eI (ca 8) 10) (n_fun st_spots sp_out)
set_option maxRecDepth 100000 in
set_option maxHeartbeats 4000000 in
theorem cel_29 {l : Launch} {D : va_G} {ca : Nat → ClassId} {kK kV : Nat → Nat} {z kF q4 q5 : Nat} {a b c u v : Nat → Nat} : cellOf (K0 l D ca kK kV z kF q4 q5 a b c u v) m0 29 = eO 1 [.int 0, .int 0, .int 0, .int 0, .int 0, .int 0, .int 0] := by
  exact rfl
set_option maxRecDepth 100000 in
set_option maxHeartbeats 4000000 in
theorem cel_30 {l : Launch} {D : va_G} {ca : Nat → ClassId} {kK kV : Nat → Nat} {z kF q4 q5 : Nat} {a b c u v : Nat → Nat} : cellOf (K0 l D ca kK kV z kF q4 q5 a b c u v) m0 30 = eO 1 [.int 0, .int 0, .int 0, .int 0, .int 0, .int 0, .int 0] := by
  exact rfl
set_option maxRecDepth 100000 in
set_option maxHeartbeats 4000000 in
theorem cel_31 {l : Launch} {D : va_G} {ca : Nat → ClassId} {kK kV : Nat → Nat} {z kF q4 q5 : Nat} {a b c u v : Nat → Nat} : cellOf (K0 l D ca kK kV z kF q4 q5 a b c u v) m0 31 = eO 1 [.int 0, .int 0, .int 0, .int 0, .int 0, .int 0, .int 0] := by
  exact rfl
set_option maxRecDepth 100000 in
set_option maxHeartbeats 4000000 in
theorem cel_32 {l : Launch} {D : va_G} {ca : Nat → ClassId} {kK kV : Nat → Nat} {z kF q4 q5 : Nat} {a b c u v : Nat → Nat} : cellOf (K0 l D ca kK kV z kF q4 q5 a b c u v) m0 32 = eO 1 [.int 0, .int 0, .int 0, .int 0, .int 0, .int 0, .int 0] := by
  exact rfl
set_option maxRecDepth 100000 in
set_option maxHeartbeats 4000000 in
theorem cel_33 {l : Launch} {D : va_G} {ca : Nat → ClassId} {kK kV : Nat → Nat} {z kF q4 q5 : Nat} {a b c u v : Nat → Nat} : cellOf (K0 l D ca kK kV z kF q4 q5 a b c u v) m0 33 = eO 1 [.int 0, .int 0, .int 0, .int 0, .int 0, .int 0, .int 0] := by
  exact rfl
set_option maxRecDepth 100000 in
set_option maxHeartbeats 4000000 in
theorem cel_34 {l : Launch} {D : va_G} {ca : Nat → ClassId} {kK kV : Nat → Nat} {z kF q4 q5 : Nat} {a b c u v : Nat → Nat} : cellOf (K0 l D ca kK kV z kF q4 q5 a b c u v) m0 34 = eO 1 [.int 0, .int 0, .int 0, .int 0, .int 0, .int 0, .int 0] := by
  exact rfl
set_option maxRecDepth 100000 in
set_option maxHeartbeats 4000000 in
theorem cel_35 {l : Launch} {D : va_G} {ca : Nat → ClassId} {kK kV : Nat → Nat} {z kF q4 q5 : Nat} {a b c u v : Nat → Nat} : cellOf (K0 l D ca kK kV z kF q4 q5 a b c u v) m0 35 = eO 1 [.int 0, .int 0, .int 0, .int 0, .int 0, .int 0, .int 0] := by
  exact rfl
set_option maxRecDepth 100000 in
set_option maxHeartbeats 4000000 in
theorem cel_36 {l : Launch} {D : va_G} {ca : Nat → ClassId} {kK kV : Nat → Nat} {z kF q4 q5 : Nat} {a b c u v : Nat → Nat} : cellOf (K0 l D ca kK kV z kF q4 q5 a b c u v) m0 36 = eO 1 [.int 0, .int 0, .int 0, .int 0, .int 0, .int 0, .int 0] := by
  exact rfl
set_option maxRecDepth 100000 in
set_option maxHeartbeats 4000000 in
theorem cel_37 {l : Launch} {D : va_G} {ca : Nat → ClassId} {kK kV : Nat → Nat} {z kF q4 q5 : Nat} {a b c u v : Nat → Nat} : cellOf (K0 l D ca kK kV z kF q4 q5 a b c u v) m0 37 = eO 3 [.ref (u 1), .int 0, .int 0, .int 0, .int 0, .int 0] := by
  exact rfl
set_option maxRecDepth 100000 in
set_option maxHeartbeats 4000000 in
theorem cel_38 {l : Launch} {D : va_G} {ca : Nat → ClassId} {kK kV : Nat → Nat} {z kF q4 q5 : Nat} {a b c u v : Nat → Nat} : cellOf (K0 l D ca kK kV z kF q4 q5 a b c u v) m0 38 = eI (ca 6) 120 (fun _ => 0) := by
  exact congrArg (eI (ca 6) 120) (z_fun (fun j hj => rfl))
set_option maxRecDepth 100000 in
set_option maxHeartbeats 4000000 in
theorem cel_39 {l : Launch} {D : va_G} {ca : Nat → ClassId} {kK kV : Nat → Nat} {z kF q4 q5 : Nat} {a b c u v : Nat → Nat} : cellOf (K0 l D ca kK kV z kF q4 q5 a b c u v) m0 39 = eR (ca 10) 4 (va_up (va_up (va_up (va_up (fun _ => none) 0 (some (u 4))) 1 (some (u 6))) 2 (some (u 8))) 3 (some (u 10))) := by
  exact congrArg (eR (ca 10) 4) (r_fun (n := 4) (fun j hj => by
    have : j = 0 ∨ j = 1 ∨ j = 2 ∨ j = 3 := by omega
    rcases this with rfl | rfl | rfl | rfl <;> rfl) (fun j hj => by
    unfold va_up
    repeat rw [if_neg (by omega)]))
set_option maxRecDepth 100000 in
set_option maxHeartbeats 4000000 in
theorem cel_40 {l : Launch} {D : va_G} {ca : Nat → ClassId} {kK kV : Nat → Nat} {z kF q4 q5 : Nat} {a b c u v : Nat → Nat} : cellOf (K0 l D ca kK kV z kF q4 q5 a b c u v) m0 40 = eI (ca 8) 7 (fun _ => 0) := by
  exact congrArg (eI (ca 8) 7) (z_fun (fun j hj => rfl))
set_option maxRecDepth 100000 in
set_option maxHeartbeats 4000000 in
theorem cel_41 {l : Launch} {D : va_G} {ca : Nat → ClassId} {kK kV : Nat → Nat} {z kF q4 q5 : Nat} {a b c u v : Nat → Nat} : cellOf (K0 l D ca kK kV z kF q4 q5 a b c u v) m0 41 = eO 2 [.int 0, .int 0, .ref (u 5)] := by
  exact rfl
set_option maxRecDepth 100000 in
set_option maxHeartbeats 4000000 in
theorem cel_42 {l : Launch} {D : va_G} {ca : Nat → ClassId} {kK kV : Nat → Nat} {z kF q4 q5 : Nat} {a b c u v : Nat → Nat} : cellOf (K0 l D ca kK kV z kF q4 q5 a b c u v) m0 42 = eI (ca 8) 40 (fun _ => 0) := by
  exact congrArg (eI (ca 8) 40) (z_fun (fun j hj => rfl))
set_option maxRecDepth 100000 in
set_option maxHeartbeats 4000000 in
theorem cel_43 {l : Launch} {D : va_G} {ca : Nat → ClassId} {kK kV : Nat → Nat} {z kF q4 q5 : Nat} {a b c u v : Nat → Nat} : cellOf (K0 l D ca kK kV z kF q4 q5 a b c u v) m0 43 = eO 2 [.int 0, .int 0, .ref (u 7)] := by
  exact rfl
set_option maxRecDepth 100000 in
set_option maxHeartbeats 4000000 in
theorem cel_44 {l : Launch} {D : va_G} {ca : Nat → ClassId} {kK kV : Nat → Nat} {z kF q4 q5 : Nat} {a b c u v : Nat → Nat} : cellOf (K0 l D ca kK kV z kF q4 q5 a b c u v) m0 44 = eI (ca 8) 40 (fun _ => 0) := by
  exact congrArg (eI (ca 8) 40) (z_fun (fun j hj => rfl))
set_option maxRecDepth 100000 in
set_option maxHeartbeats 4000000 in
theorem cel_45 {l : Launch} {D : va_G} {ca : Nat → ClassId} {kK kV : Nat → Nat} {z kF q4 q5 : Nat} {a b c u v : Nat → Nat} : cellOf (K0 l D ca kK kV z kF q4 q5 a b c u v) m0 45 = eO 2 [.int 0, .int 0, .ref (u 9)] := by
  exact rfl
set_option maxRecDepth 100000 in
set_option maxHeartbeats 4000000 in
theorem cel_46 {l : Launch} {D : va_G} {ca : Nat → ClassId} {kK kV : Nat → Nat} {z kF q4 q5 : Nat} {a b c u v : Nat → Nat} : cellOf (K0 l D ca kK kV z kF q4 q5 a b c u v) m0 46 = eI (ca 8) 40 (fun _ => 0) := by
  exact congrArg (eI (ca 8) 40) (z_fun (fun j hj => rfl))
set_option maxRecDepth 100000 in
set_option maxHeartbeats 4000000 in
theorem cel_47 {l : Launch} {D : va_G} {ca : Nat → ClassId} {kK kV : Nat → Nat} {z kF q4 q5 : Nat} {a b c u v : Nat → Nat} : cellOf (K0 l D ca kK kV z kF q4 q5 a b c u v) m0 47 = eO 2 [.int 0, .int 0, .ref (u 11)] := by
  exact rfl
set_option maxRecDepth 100000 in
set_option maxHeartbeats 4000000 in
theorem cel_48 {l : Launch} {D : va_G} {ca : Nat → ClassId} {kK kV : Nat → Nat} {z kF q4 q5 : Nat} {a b c u v : Nat → Nat} : cellOf (K0 l D ca kK kV z kF q4 q5 a b c u v) m0 48 = eI (ca 8) 40 (fun _ => 0) := by
  exact congrArg (eI (ca 8) 40) (z_fun (fun j hj => rfl))
set_option maxRecDepth 100000 in
set_option maxHeartbeats 4000000 in
theorem cel_49 {l : Launch} {D : va_G} {ca : Nat → ClassId} {kK kV : Nat → Nat} {z kF q4 q5 : Nat} {a b c u v : Nat → Nat} : cellOf (K0 l D ca kK kV z kF q4 q5 a b c u v) m0 49 = eO 5 [.ref (v 0), .ref (v 1), .ref (v 2), .int 0, .ref (v 3), .ref (v 4), .int 0, .int 0, .int 0, .int 0, .long 0, .ref (v 5), .ref (v 6), .ref (v 7), .ref (v 8), .ref (v 9), .ref (v 10), .ref (v 11)] := by
  exact rfl
set_option maxRecDepth 100000 in
set_option maxHeartbeats 4000000 in
theorem cel_50 {l : Launch} {D : va_G} {ca : Nat → ClassId} {kK kV : Nat → Nat} {z kF q4 q5 : Nat} {a b c u v : Nat → Nat} : cellOf (K0 l D ca kK kV z kF q4 q5 a b c u v) m0 50 = eI (ca 8) 78 (stN 10) := by
  exact congrArg (eI (ca 8) 78) (n_fun (fun j hj => congrArg (stN 10) (Nat.zero_add j)) st_out)
set_option maxRecDepth 100000 in
set_option maxHeartbeats 4000000 in
theorem cel_51 {l : Launch} {D : va_G} {ca : Nat → ClassId} {kK kV : Nat → Nat} {z kF q4 q5 : Nat} {a b c u v : Nat → Nat} : cellOf (K0 l D ca kK kV z kF q4 q5 a b c u v) m0 51 = eI (ca 8) 78 (fun _ => 0) := by
  exact congrArg (eI (ca 8) 78) (z_fun (fun j hj => rfl))
set_option maxRecDepth 100000 in
set_option maxHeartbeats 4000000 in
theorem cel_52 {l : Launch} {D : va_G} {ca : Nat → ClassId} {kK kV : Nat → Nat} {z kF q4 q5 : Nat} {a b c u v : Nat → Nat} : cellOf (K0 l D ca kK kV z kF q4 q5 a b c u v) m0 52 = eI (ca 8) 78 (fun _ => 0) := by
  exact congrArg (eI (ca 8) 78) (z_fun (fun j hj => rfl))
set_option maxRecDepth 100000 in
set_option maxHeartbeats 4000000 in
theorem cel_53 {l : Launch} {D : va_G} {ca : Nat → ClassId} {kK kV : Nat → Nat} {z kF q4 q5 : Nat} {a b c u v : Nat → Nat} : cellOf (K0 l D ca kK kV z kF q4 q5 a b c u v) m0 53 = eI (ca 8) 7 (fun _ => 0) := by
  exact congrArg (eI (ca 8) 7) (z_fun (fun j hj => rfl))
set_option maxRecDepth 100000 in
set_option maxHeartbeats 4000000 in
theorem cel_54 {l : Launch} {D : va_G} {ca : Nat → ClassId} {kK kV : Nat → Nat} {z kF q4 q5 : Nat} {a b c u v : Nat → Nat} : cellOf (K0 l D ca kK kV z kF q4 q5 a b c u v) m0 54 = eI (ca 8) 120 (fun _ => 0) := by
  exact congrArg (eI (ca 8) 120) (z_fun (fun j hj => rfl))
set_option maxRecDepth 100000 in
set_option maxHeartbeats 4000000 in
theorem cel_55 {l : Launch} {D : va_G} {ca : Nat → ClassId} {kK kV : Nat → Nat} {z kF q4 q5 : Nat} {a b c u v : Nat → Nat} : cellOf (K0 l D ca kK kV z kF q4 q5 a b c u v) m0 55 = eI (ca 7) 70 (tk ltL 70) := by
  exact congrArg (eI (ca 7) 70) (n_fun (fun j hj => congrArg (tk ltL 70) (Nat.zero_add j)) (tk_out ltL 70))
set_option maxRecDepth 100000 in
set_option maxHeartbeats 4000000 in
theorem cel_56 {l : Launch} {D : va_G} {ca : Nat → ClassId} {kK kV : Nat → Nat} {z kF q4 q5 : Nat} {a b c u v : Nat → Nat} : cellOf (K0 l D ca kK kV z kF q4 q5 a b c u v) m0 56 = eI (ca 7) 40 (tk moL 40) := by
  exact congrArg (eI (ca 7) 40) (n_fun (fun j hj => congrArg (tk moL 40) (Nat.zero_add j)) (tk_out moL 40))
set_option maxRecDepth 100000 in
set_option maxHeartbeats 4000000 in
theorem cel_57 {l : Launch} {D : va_G} {ca : Nat → ClassId} {kK kV : Nat → Nat} {z kF q4 q5 : Nat} {a b c u v : Nat → Nat} : cellOf (K0 l D ca kK kV z kF q4 q5 a b c u v) m0 57 = eI (ca 7) 20 (tk otL 20) := by
  exact congrArg (eI (ca 7) 20) (n_fun (fun j hj => congrArg (tk otL 20) (Nat.zero_add j)) (tk_out otL 20))
set_option maxRecDepth 100000 in
set_option maxHeartbeats 4000000 in
theorem cel_58 {l : Launch} {D : va_G} {ca : Nat → ClassId} {kK kV : Nat → Nat} {z kF q4 q5 : Nat} {a b c u v : Nat → Nat} : cellOf (K0 l D ca kK kV z kF q4 q5 a b c u v) m0 58 = eI (ca 8) 4 (fun _ => 0) := by
  exact congrArg (eI (ca 8) 4) (z_fun (fun j hj => rfl))
set_option maxRecDepth 100000 in
set_option maxHeartbeats 4000000 in
theorem cel_59 {l : Launch} {D : va_G} {ca : Nat → ClassId} {kK kV : Nat → Nat} {z kF q4 q5 : Nat} {a b c u v : Nat → Nat} : cellOf (K0 l D ca kK kV z kF q4 q5 a b c u v) m0 59 = eI (ca 8) 4 (fun _ => 0) := by
  exact congrArg (eI (ca 8) 4) (z_fun (fun j hj => rfl))
set_option maxRecDepth 100000 in
set_option maxHeartbeats 4000000 in
theorem cel_60 {l : Launch} {D : va_G} {ca : Nat → ClassId} {kK kV : Nat → Nat} {z kF q4 q5 : Nat} {a b c u v : Nat → Nat} : cellOf (K0 l D ca kK kV z kF q4 q5 a b c u v) m0 60 = eI (ca 8) 160 (fun _ => 0) := by
  exact congrArg (eI (ca 8) 160) (z_fun (fun j hj => rfl))
set_option maxRecDepth 100000 in
set_option maxHeartbeats 4000000 in
theorem cel_61 {l : Launch} {D : va_G} {ca : Nat → ClassId} {kK kV : Nat → Nat} {z kF q4 q5 : Nat} {a b c u v : Nat → Nat} : cellOf (K0 l D ca kK kV z kF q4 q5 a b c u v) m0 61 = eI (ca 8) 40 (fun _ => 0) := by
  exact congrArg (eI (ca 8) 40) (z_fun (fun j hj => rfl))
set_option maxRecDepth 100000 in
set_option maxHeartbeats 4000000 in
theorem ws_list {l : Launch} {D : va_G} {ca : Nat → ClassId} {kK kV : Nat → Nat} {z kF q4 q5 : Nat} {a b c u v : Nat → Nat} : wsOf (K0 l D ca kK kV z kF q4 q5 a b c u v) m0 = [(q4, cellOf (K0 l D ca kK kV z kF q4 q5 a b c u v) m0 0), ((a 0), cellOf (K0 l D ca kK kV z kF q4 q5 a b c u v) m0 1), ((a 1), cellOf (K0 l D ca kK kV z kF q4 q5 a b c u v) m0 2), ((a 2), cellOf (K0 l D ca kK kV z kF q4 q5 a b c u v) m0 3), ((a 3), cellOf (K0 l D ca kK kV z kF q4 q5 a b c u v) m0 4), ((a 4), cellOf (K0 l D ca kK kV z kF q4 q5 a b c u v) m0 5), ((a 5), cellOf (K0 l D ca kK kV z kF q4 q5 a b c u v) m0 6), ((a 6), cellOf (K0 l D ca kK kV z kF q4 q5 a b c u v) m0 7), ((a 7), cellOf (K0 l D ca kK kV z kF q4 q5 a b c u v) m0 8), ((a 8), cellOf (K0 l D ca kK kV z kF q4 q5 a b c u v) m0 9), ((a 9), cellOf (K0 l D ca kK kV z kF q4 q5 a b c u v) m0 10), ((a 10), cellOf (K0 l D ca kK kV z kF q4 q5 a b c u v) m0 11), ((a 11), cellOf (K0 l D ca kK kV z kF q4 q5 a b c u v) m0 12), ((b 0), cellOf (K0 l D ca kK kV z kF q4 q5 a b c u v) m0 13), ((b 1), cellOf (K0 l D ca kK kV z kF q4 q5 a b c u v) m0 14), ((b 2), cellOf (K0 l D ca kK kV z kF q4 q5 a b c u v) m0 15), ((b 3), cellOf (K0 l D ca kK kV z kF q4 q5 a b c u v) m0 16), ((b 4), cellOf (K0 l D ca kK kV z kF q4 q5 a b c u v) m0 17), ((b 5), cellOf (K0 l D ca kK kV z kF q4 q5 a b c u v) m0 18), ((b 6), cellOf (K0 l D ca kK kV z kF q4 q5 a b c u v) m0 19), ((b 7), cellOf (K0 l D ca kK kV z kF q4 q5 a b c u v) m0 20), ((b 8), cellOf (K0 l D ca kK kV z kF q4 q5 a b c u v) m0 21), ((b 9), cellOf (K0 l D ca kK kV z kF q4 q5 a b c u v) m0 22), ((b 10), cellOf (K0 l D ca kK kV z kF q4 q5 a b c u v) m0 23), ((b 11), cellOf (K0 l D ca kK kV z kF q4 q5 a b c u v) m0 24), ((c 0), cellOf (K0 l D ca kK kV z kF q4 q5 a b c u v) m0 25), ((c 1), cellOf (K0 l D ca kK kV z kF q4 q5 a b c u v) m0 26), ((c 2), cellOf (K0 l D ca kK kV z kF q4 q5 a b c u v) m0 27), ((c 3), cellOf (K0 l D ca kK kV z kF q4 q5 a b c u v) m0 28), ((c 4), cellOf (K0 l D ca kK kV z kF q4 q5 a b c u v) m0 29), ((c 5), cellOf (K0 l D ca kK kV z kF q4 q5 a b c u v) m0 30), ((c 6), cellOf (K0 l D ca kK kV z kF q4 q5 a b c u v) m0 31), ((c 7), cellOf (K0 l D ca kK kV z kF q4 q5 a b c u v) m0 32), ((c 8), cellOf (K0 l D ca kK kV z kF q4 q5 a b c u v) m0 33), ((c 9), cellOf (K0 l D ca kK kV z kF q4 q5 a b c u v) m0 34), ((c 10), cellOf (K0 l D ca kK kV z kF q4 q5 a b c u v) m0 35), ((c 11), cellOf (K0 l D ca kK kV z kF q4 q5 a b c u v) m0 36), ((u 0), cellOf (K0 l D ca kK kV z kF q4 q5 a b c u v) m0 37), ((u 1), cellOf (K0 l D ca kK kV z kF q4 q5 a b c u v) m0 38), ((u 2), cellOf (K0 l D ca kK kV z kF q4 q5 a b c u v) m0 39), ((u 3), cellOf (K0 l D ca kK kV z kF q4 q5 a b c u v) m0 40), ((u 4), cellOf (K0 l D ca kK kV z kF q4 q5 a b c u v) m0 41), ((u 5), cellOf (K0 l D ca kK kV z kF q4 q5 a b c u v) m0 42), ((u 6), cellOf (K0 l D ca kK kV z kF q4 q5 a b c u v) m0 43), ((u 7), cellOf (K0 l D ca kK kV z kF q4 q5 a b c u v) m0 44), ((u 8), cellOf (K0 l D ca kK kV z kF q4 q5 a b c u v) m0 45), ((u 9), cellOf (K0 l D ca kK kV z kF q4 q5 a b c u v) m0 46), ((u 10), cellOf (K0 l D ca kK kV z kF q4 q5 a b c u v) m0 47), ((u 11), cellOf (K0 l D ca kK kV z kF q4 q5 a b c u v) m0 48), (q5, cellOf (K0 l D ca kK kV z kF q4 q5 a b c u v) m0 49), ((v 0), cellOf (K0 l D ca kK kV z kF q4 q5 a b c u v) m0 50), ((v 1), cellOf (K0 l D ca kK kV z kF q4 q5 a b c u v) m0 51), ((v 2), cellOf (K0 l D ca kK kV z kF q4 q5 a b c u v) m0 52), ((v 3), cellOf (K0 l D ca kK kV z kF q4 q5 a b c u v) m0 53), ((v 4), cellOf (K0 l D ca kK kV z kF q4 q5 a b c u v) m0 54), ((v 5), cellOf (K0 l D ca kK kV z kF q4 q5 a b c u v) m0 55), ((v 6), cellOf (K0 l D ca kK kV z kF q4 q5 a b c u v) m0 56), ((v 7), cellOf (K0 l D ca kK kV z kF q4 q5 a b c u v) m0 57), ((v 8), cellOf (K0 l D ca kK kV z kF q4 q5 a b c u v) m0 58), ((v 9), cellOf (K0 l D ca kK kV z kF q4 q5 a b c u v) m0 59), ((v 10), cellOf (K0 l D ca kK kV z kF q4 q5 a b c u v) m0 60), ((v 11), cellOf (K0 l D ca kK kV z kF q4 q5 a b c u v) m0 61)] := rfl
set_option maxRecDepth 100000 in
set_option maxHeartbeats 4000000 in
theorem ws_first {l : Launch} {D : va_G} {ca : Nat → ClassId} {kK kV : Nat → Nat} {z kF q4 q5 : Nat} {a b c u v : Nat → Nat} : [(q4, eO 4 [.ref (a 0), .ref (b 0), .ref (c 0), .int 0, .ref (u 0), .ref (u 2), .ref (u 3)])] ++ coW ca a ++ coW ca b ++ coW ca c ++ [((u 0), eO 3 [.ref (u 1), .int 0, .int 0, .int 0, .int 0, .int 0]), ((u 1), eI (ca 6) 120 (fun _ => 0)), ((u 2), eR (ca 10) 4 (va_up (va_up (va_up (va_up (fun _ => none) 0 (some (u 4))) 1 (some (u 6))) 2 (some (u 8))) 3 (some (u 10)))), ((u 3), eI (ca 8) 7 (fun _ => 0)), ((u 4), eO 2 [.int 0, .int 0, .ref (u 5)]), ((u 5), eI (ca 8) 40 (fun _ => 0)), ((u 6), eO 2 [.int 0, .int 0, .ref (u 7)]), ((u 7), eI (ca 8) 40 (fun _ => 0)), ((u 8), eO 2 [.int 0, .int 0, .ref (u 9)]), ((u 9), eI (ca 8) 40 (fun _ => 0)), ((u 10), eO 2 [.int 0, .int 0, .ref (u 11)]), ((u 11), eI (ca 8) 40 (fun _ => 0)), (q5, eO 5 [.ref (v 0), .ref (v 1), .ref (v 2), .int 0, .ref (v 3), .ref (v 4), .int 0, .int 0, .int 0, .int 0, .long 0, .ref (v 5), .ref (v 6), .ref (v 7), .ref (v 8), .ref (v 9), .ref (v 10), .ref (v 11)]), ((v 0), eI (ca 8) 78 (stN 10)), ((v 1), eI (ca 8) 78 (fun _ => 0)), ((v 2), eI (ca 8) 78 (fun _ => 0)), ((v 3), eI (ca 8) 7 (fun _ => 0)), ((v 4), eI (ca 8) 120 (fun _ => 0)), ((v 5), eI (ca 7) 70 (tk ltL 70)), ((v 6), eI (ca 7) 40 (tk moL 40)), ((v 7), eI (ca 7) 20 (tk otL 20)), ((v 8), eI (ca 8) 4 (fun _ => 0)), ((v 9), eI (ca 8) 4 (fun _ => 0)), ((v 10), eI (ca 8) 160 (fun _ => 0)), ((v 11), eI (ca 8) 40 (fun _ => 0))] = wsOf (K0 l D ca kK kV z kF q4 q5 a b c u v) m0 := by
  rw [ws_list]
  simp only [cel_0, cel_1, cel_2, cel_3, cel_4, cel_5, cel_6, cel_7, cel_8, cel_9, cel_10, cel_11, cel_12, cel_13, cel_14, cel_15, cel_16, cel_17, cel_18, cel_19, cel_20, cel_21, cel_22, cel_23, cel_24, cel_25, cel_26, cel_27, cel_28, cel_29, cel_30, cel_31, cel_32, cel_33, cel_34, cel_35, cel_36, cel_37, cel_38, cel_39, cel_40, cel_41, cel_42, cel_43, cel_44, cel_45, cel_46, cel_47, cel_48, cel_49, cel_50, cel_51, cel_52, cel_53, cel_54, cel_55, cel_56, cel_57, cel_58, cel_59, cel_60, cel_61]
  rfl
theorem iv_first : Iv 0 (stN 10) := ⟨by decide, rfl, ⟨0, by decide, rfl⟩, ⟨0, by decide, rfl⟩, fun k hk => absurd hk (Nat.not_lt_zero k), fun j hj => Or.inl (by
  have h : ∀ j, j < 10 → stN 10 (68 + j) = -1 := by decide
  exact h j hj)⟩
theorem rel_first : Rel m0 := by
  refine ⟨⟨0, iv_first, Eqv.rf⟩, ⟨rfl, fun h => absurd rfl h⟩, fun _ _ => rfl, ⟨0, by decide, rfl, rfl, fun i hi => absurd hi (Nat.not_lt_zero i)⟩, ⟨fun s _ => ⟨rfl, rfl, 0, by decide, rfl⟩, fun _ _ => rfl⟩, fun i hi => ?_, fun i hi => ?_, fun i hi => ?_⟩
  · exact (if_pos hi : tk ltL 70 i = ltL.getD i 0)
  · exact (if_pos hi : tk moL 40 i = moL.getD i 0)
  · exact (if_pos hi : tk otL 20 i = otL.getD i 0)
