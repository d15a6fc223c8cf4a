/-! the constructors -/
theorem i_iadd {l : Launch} {D : va_G} {ca : Nat → ClassId} {A : Nat → Prop} {p : Program} {e : Env} {R : Room} {s : State} {mi : MethodId} {args : Array Value} {below : List Frame} {meth : Method} {c : Code} {mL : Nat} {Z : State → Prop} {own : String} {cc : ByteArray} {pc q : Nat} {lv : List (Nat × Value)} {st : List Value} {ws : va_W} {kc ks : Nat} {x y v : Int32} (C : CXT own cc mL D ca p s mi args meth c A) (hd : decode cc pc = .ok (.iadd, 1)) (hq : pc + 1 = q) (hv : x + y = v) (kk : XI l D A p e R s mi args below meth c mL Z q lv (.int v :: st) ws kc ks) : XI l D A p e R s mi args below meth c mL Z pc lv (.int y :: .int x :: st) ws kc ks := by
  subst hq; subst hv
  intro H locs arr hP hD hS hL
  exact lv_iadd C.1 C.2.1 hd (kk H locs arr hP hD hS hL)
def spN (k : Nat) : Nat → Int32 := fun i => if i < k then -1 else 0
theorem sp_0 : upd (fun _ => 0) 0 (-1) = spN 1 := by
  funext i
  unfold upd spN
  by_cases h : i = 0
  · rw [if_pos h, if_pos (by omega)]
  · rw [if_neg h, if_neg (by omega)]
theorem sp_s (k : Nat) : upd (spN k) k (-1) = spN (k + 1) := by
  funext i
  unfold upd spN
  by_cases h : i = k
  · rw [if_pos h, if_pos (by omega)]
  · rw [if_neg h]
    by_cases h2 : i < k
    · rw [if_pos h2, if_pos (by omega)]
    · rw [if_neg h2, if_neg (by omega)]
def tk (l : List Int32) (k : Nat) : Nat → Int32 := fun i => if i < k then l.getD i 0 else 0
theorem tkc_0 (l : List Int32) {v : Int32} (h : v = l.getD 0 0) : upd (fun _ => 0) 0 v = tk l 1 := by
  funext i
  unfold upd tk
  by_cases h2 : i = 0
  · rw [if_pos h2, if_pos (by omega), h2, h]
  · rw [if_neg h2, if_neg (by omega)]
theorem tkc_s (l : List Int32) (k : Nat) {v : Int32} (h : v = l.getD k 0) : upd (tk l k) k v = tk l (k + 1) := by
  funext i
  unfold upd tk
  by_cases h2 : i = k
  · rw [if_pos h2, if_pos (by omega), h2, h]
  · rw [if_neg h2]
    by_cases h3 : i < k
    · rw [if_pos h3, if_pos (by omega)]
    · rw [if_neg h3, if_neg (by omega)]
def stN (k : Nat) : Nat → Int32 := fun i => if i = 2 then 1 else if 68 ≤ i ∧ i < 68 + k then -1 else 0
theorem st_0 : upd (fun _ => 0) 2 1 = stN 0 := by
  funext i
  unfold upd stN
  by_cases h : i = 2
  · rw [if_pos h, if_pos h]
  · rw [if_neg h, if_neg h, if_neg (by omega)]
theorem st_s (k : Nat) : upd (stN k) (68 + k) (-1) = stN (k + 1) := by
  funext i
  unfold upd stN
  by_cases h : i = 68 + k
  · rw [if_pos h, if_neg (by omega), if_pos (by omega)]
  · rw [if_neg h]
    by_cases h2 : i = 2
    · rw [if_pos h2, if_pos h2]
    · rw [if_neg h2, if_neg h2]
      by_cases h3 : 68 ≤ i ∧ i < 68 + k
      · rw [if_pos h3, if_pos (by omega)]
      · rw [if_neg h3, if_neg (by omega)]
theorem wl_L_7 : Cond.classLink RL 7 RX4 ∈ WT := mw 68 (by decide +kernel) (by decide +kernel)
theorem wl_X4_9 : Cond.classLink RX4 9 RX0 ∈ WT := mw 76 (by decide +kernel) (by decide +kernel)
theorem wl_X0_34 : Cond.classLink RX0 34 RX1 ∈ WT := mw 82 (by decide +kernel) (by decide +kernel)
theorem wl_X4_26 : Cond.classLink RX4 26 RX3 ∈ WT := mw 161 (by decide +kernel) (by decide +kernel)
theorem wl_X4_33 : Cond.classLink RX4 33 RX2 ∈ WT := mw 188 (by decide +kernel) (by decide +kernel)
theorem wl_L_10 : Cond.classLink RL 10 RX5 ∈ WT := mw 698 (by decide +kernel) (by decide +kernel)
theorem win_0 : Cond.instantiable (RR 0) 9 ∈ WT := mw 77 (by decide +kernel) (by decide +kernel)
theorem wii_0 : Cond.initialized RX0 ∈ WT := mw 56 (by decide +kernel) (by decide +kernel)
theorem wo_X0 : Cond.methodLink RX0 3 objectInit ∈ WT := mw 81 (by decide +kernel) (by decide +kernel)
theorem wn_X0 : Cond.instanceMethod yX0_init ∈ WT := mw 79 (by decide +kernel) (by decide +kernel)
theorem wc_X0 : Cond.code yX0_init cX0_init 2 none ∈ WT := mw 80 (by decide +kernel) (by decide +kernel)
theorem hfs_0 : ∀ j, j < 9 → defaultValue (tyT 0 j) = vp_V [.null, .int 0, .int 0, .int 0, .int 0, .int 0, .int 0, .null, .null] j := by
  intro j hj
  have : j = 0 ∨ j = 1 ∨ j = 2 ∨ j = 3 ∨ j = 4 ∨ j = 5 ∨ j = 6 ∨ j = 7 ∨ j = 8 := by omega
  rcases this with rfl | rfl | rfl | rfl | rfl | rfl | rfl | rfl | rfl <;> rfl
theorem win_1 : Cond.instantiable (RR 1) 7 ∈ WT := mw 84 (by decide +kernel) (by decide +kernel)
theorem wii_1 : Cond.initialized RX1 ∈ WT := mw 57 (by decide +kernel) (by decide +kernel)
theorem wo_X1 : Cond.methodLink RX1 3 objectInit ∈ WT := mw 88 (by decide +kernel) (by decide +kernel)
theorem wn_X1 : Cond.instanceMethod yX1_init ∈ WT := mw 86 (by decide +kernel) (by decide +kernel)
theorem wc_X1 : Cond.code yX1_init cX1_init 1 none ∈ WT := mw 87 (by decide +kernel) (by decide +kernel)
theorem hfs_1 : ∀ j, j < 7 → defaultValue (tyT 1 j) = vp_V [.int 0, .int 0, .int 0, .int 0, .int 0, .int 0, .int 0] j := by
  intro j hj
  have : j = 0 ∨ j = 1 ∨ j = 2 ∨ j = 3 ∨ j = 4 ∨ j = 5 ∨ j = 6 := by omega
  rcases this with rfl | rfl | rfl | rfl | rfl | rfl | rfl <;> rfl
theorem win_2 : Cond.instantiable (RR 2) 3 ∈ WT := mw 190 (by decide +kernel) (by decide +kernel)
theorem wii_2 : Cond.initialized RX2 ∈ WT := mw 59 (by decide +kernel) (by decide +kernel)
theorem wo_X2 : Cond.methodLink RX2 3 objectInit ∈ WT := mw 194 (by decide +kernel) (by decide +kernel)
theorem wn_X2 : Cond.instanceMethod yX2_init ∈ WT := mw 192 (by decide +kernel) (by decide +kernel)
theorem wc_X2 : Cond.code yX2_init cX2_init 1 none ∈ WT := mw 193 (by decide +kernel) (by decide +kernel)
theorem hfs_2 : ∀ j, j < 3 → defaultValue (tyT 2 j) = vp_V [.int 0, .int 0, .null] j := by
  intro j hj
  have : j = 0 ∨ j = 1 ∨ j = 2 := by omega
  rcases this with rfl | rfl | rfl <;> rfl
theorem win_3 : Cond.instantiable (RR 3) 6 ∈ WT := mw 162 (by decide +kernel) (by decide +kernel)
theorem wii_3 : Cond.initialized RX3 ∈ WT := mw 58 (by decide +kernel) (by decide +kernel)
theorem wo_X3 : Cond.methodLink RX3 3 objectInit ∈ WT := mw 166 (by decide +kernel) (by decide +kernel)
theorem wn_X3 : Cond.instanceMethod yX3_init ∈ WT := mw 164 (by decide +kernel) (by decide +kernel)
theorem wc_X3 : Cond.code yX3_init cX3_init 1 none ∈ WT := mw 165 (by decide +kernel) (by decide +kernel)
theorem hfs_3 : ∀ j, j < 6 → defaultValue (tyT 3 j) = vp_V [.null, .int 0, .int 0, .int 0, .int 0, .int 0] j := by
  intro j hj
  have : j = 0 ∨ j = 1 ∨ j = 2 ∨ j = 3 ∨ j = 4 ∨ j = 5 := by omega
  rcases this with rfl | rfl | rfl | rfl | rfl | rfl <;> rfl
theorem win_4 : Cond.instantiable (RR 4) 7 ∈ WT := mw 69 (by decide +kernel) (by decide +kernel)
theorem wii_4 : Cond.initialized RX4 ∈ WT := mw 55 (by decide +kernel) (by decide +kernel)
theorem wo_X4 : Cond.methodLink RX4 3 objectInit ∈ WT := mw 73 (by decide +kernel) (by decide +kernel)
theorem wn_X4 : Cond.instanceMethod yX4_init ∈ WT := mw 71 (by decide +kernel) (by decide +kernel)
theorem wc_X4 : Cond.code yX4_init cX4_init 2 none ∈ WT := mw 72 (by decide +kernel) (by decide +kernel)
theorem hfs_4 : ∀ j, j < 7 → defaultValue (tyT 4 j) = vp_V [.null, .null, .null, .int 0, .null, .null, .null] j := by
  intro j hj
  have : j = 0 ∨ j = 1 ∨ j = 2 ∨ j = 3 ∨ j = 4 ∨ j = 5 ∨ j = 6 := by omega
  rcases this with rfl | rfl | rfl | rfl | rfl | rfl | rfl <;> rfl
theorem win_5 : Cond.instantiable (RR 5) 18 ∈ WT := mw 699 (by decide +kernel) (by decide +kernel)
theorem wii_5 : Cond.initialized RX5 ∈ WT := mw 60 (by decide +kernel) (by decide +kernel)
theorem wo_X5 : Cond.methodLink RX5 1 objectInit ∈ WT := mw 703 (by decide +kernel) (by decide +kernel)
theorem wn_X5 : Cond.instanceMethod yX5_init ∈ WT := mw 701 (by decide +kernel) (by decide +kernel)
set_option maxRecDepth 100000 in
theorem wc_X5 : Cond.code yX5_init cX5_init 2 none ∈ WT := mw 702 rfl rfl
theorem hfs_5 : ∀ j, j < 18 → defaultValue (tyT 5 j) = vp_V [.null, .null, .null, .int 0, .null, .null, .int 0, .int 0, .int 0, .int 0, .long 0, .null, .null, .null, .null, .null, .null, .null] j := by
  intro j hj
  have : j = 0 ∨ j = 1 ∨ j = 2 ∨ j = 3 ∨ j = 4 ∨ j = 5 ∨ j = 6 ∨ j = 7 ∨ j = 8 ∨ j = 9 ∨ j = 10 ∨ j = 11 ∨ j = 12 ∨ j = 13 ∨ j = 14 ∨ j = 15 ∨ j = 16 ∨ j = 17 := by omega
  rcases this with rfl | rfl | rfl | rfl | rfl | rfl | rfl | rfl | rfl | rfl | rfl | rfl | rfl | rfl | rfl | rfl | rfl | rfl <;> rfl
theorem wa_int : Cond.arrayClass .int ∈ WT := mw 121 (by decide +kernel) (by decide +kernel)
theorem wa_byte : Cond.arrayClass .byte ∈ WT := mw 187 (by decide +kernel) (by decide +kernel)
theorem wa_char : Cond.arrayClass .char ∈ WT := mw 759 (by decide +kernel) (by decide +kernel)
theorem dX1_init_0 : decode cX1_init 0 = .ok (.aload_n 0, 1) := by decide +kernel
theorem dX1_init_1 : decode cX1_init 1 = .ok (.invokespecial 3, 3) := by decide +kernel
theorem dX1_init_4 : decode cX1_init 4 = .ok (.return_, 1) := by decide +kernel
set_option maxRecDepth 100000 in
set_option maxHeartbeats 4000000 in
theorem ci_X1 {l : Launch} {D : va_G} {ca : Nat → ClassId} : CI l D ca yX1_init cX1_init 1 1 12 0 0 1 [.int 0, .int 0, .int 0, .int 0, .int 0, .int 0, .int 0] (fun q w => w = [(q, eO 1 [.int 0, .int 0, .int 0, .int 0, .int 0, .int 0, .int 0])]) := by
  refine ci_of (by decide +kernel) rfl (by decide) (fun q A p e s mi args below meth c C hin hrt hlk => ?_)
  refine i_aload_n (q := 1) (i := 0) C dX1_init_0 rfl rfl ?_
  refine i_obj (q := 4) C dX1_init_1 rfl wo_X1 (Nat.le_of_ble_eq_true rfl) (Nat.le_of_ble_eq_true rfl) ?_
  exact i_return C hrt hlk dX1_init_4 rfl
theorem dX2_init_0 : decode cX2_init 0 = .ok (.aload_n 0, 1) := by decide +kernel
theorem dX2_init_1 : decode cX2_init 1 = .ok (.invokespecial 3, 3) := by decide +kernel
theorem dX2_init_4 : decode cX2_init 4 = .ok (.aload_n 0, 1) := by decide +kernel
theorem dX2_init_5 : decode cX2_init 5 = .ok (.iconst 0, 1) := by decide +kernel
theorem dX2_init_6 : decode cX2_init 6 = .ok (.putfield 9, 3) := by decide +kernel
theorem dX2_init_9 : decode cX2_init 9 = .ok (.aload_n 0, 1) := by decide +kernel
theorem dX2_init_10 : decode cX2_init 10 = .ok (.iconst 0, 1) := by decide +kernel
theorem dX2_init_11 : decode cX2_init 11 = .ok (.putfield 15, 3) := by decide +kernel
theorem dX2_init_14 : decode cX2_init 14 = .ok (.aload_n 0, 1) := by decide +kernel
theorem dX2_init_15 : decode cX2_init 15 = .ok (.bipush 40, 2) := by decide +kernel
theorem dX2_init_17 : decode cX2_init 17 = .ok (.newarray .int, 2) := by decide +kernel
theorem dX2_init_19 : decode cX2_init 19 = .ok (.putfield 18, 3) := by decide +kernel
theorem dX2_init_22 : decode cX2_init 22 = .ok (.return_, 1) := by decide +kernel
set_option maxRecDepth 100000 in
set_option maxHeartbeats 4000000 in
theorem ci_X2 {l : Launch} {D : va_G} {ca : Nat → ClassId} : CI l D ca yX2_init cX2_init 1 1 14 1 40 2 [.int 0, .int 0, .null] (fun q w => ∃ b : Nat, w = [(q, eO 2 [.int 0, .int 0, .ref b]), (b, eI (ca 8) 40 (fun _ => 0))]) := by
  refine ci_of (by decide +kernel) rfl (by decide) (fun q A p e s mi args below meth c C hin hrt hlk => ?_)
  refine i_aload_n (q := 1) (i := 0) C dX2_init_0 rfl rfl ?_
  refine i_obj (q := 4) C dX2_init_1 rfl wo_X2 (Nat.le_of_ble_eq_true rfl) (Nat.le_of_ble_eq_true rfl) ?_
  refine i_aload_n (q := 5) (i := 0) C dX2_init_4 rfl rfl ?_
  refine i_iconst (q := 6) (v := 0) C dX2_init_5 rfl (by decide) ?_
  refine i_put (q := 9) (q0 := 0) (ws' := [(q, eO 2 [.int 0, .int 0, .null])]) C dX2_init_6 rfl fl_X2_9 rfl rfl rfl rfl (Nat.le_of_ble_eq_true rfl) rfl ?_
  refine i_aload_n (q := 10) (i := 0) C dX2_init_9 rfl rfl ?_
  refine i_iconst (q := 11) (v := 0) C dX2_init_10 rfl (by decide) ?_
  refine i_put (q := 14) (q0 := 0) (ws' := [(q, eO 2 [.int 0, .int 0, .null])]) C dX2_init_11 rfl fl_X2_15 rfl rfl rfl rfl (Nat.le_of_ble_eq_true rfl) rfl ?_
  refine i_aload_n (q := 15) (i := 0) C dX2_init_14 rfl rfl ?_
  refine i_bipush (q := 17) (v := 40) C dX2_init_15 rfl (by decide) ?_
  refine i_newI (q := 19) (N := 40) C dX2_init_17 rfl wa_int (by decide) (by decide) (by decide) (Nat.le_of_ble_eq_true rfl) (Nat.le_of_ble_eq_true rfl) (fun a1 => ?_)
  refine i_ws (ws' := [(q, eO 2 [.int 0, .int 0, .null]), (a1, eI (ca 8) 40 (fun _ => 0))]) rfl ?_
  refine i_widen (k := 1) (n := 40) (by decide) (by decide) ?_
  refine i_putF (q := 22) (q0 := 0) (ws' := [(q, eO 2 [.int 0, .int 0, .ref a1]), (a1, eI (ca 8) 40 (fun _ => 0))]) C hin dX2_init_19 rfl fl_X2_18 rfl rfl rfl rfl rfl (Nat.le_of_ble_eq_true rfl) rfl ?_
  exact i_return C hrt hlk dX2_init_22 ⟨a1, rfl⟩
theorem dX3_init_0 : decode cX3_init 0 = .ok (.aload_n 0, 1) := by decide +kernel
theorem dX3_init_1 : decode cX3_init 1 = .ok (.invokespecial 3, 3) := by decide +kernel
theorem dX3_init_4 : decode cX3_init 4 = .ok (.aload_n 0, 1) := by decide +kernel
theorem dX3_init_5 : decode cX3_init 5 = .ok (.bipush 120, 2) := by decide +kernel
theorem dX3_init_7 : decode cX3_init 7 = .ok (.newarray .byte, 2) := by decide +kernel
theorem dX3_init_9 : decode cX3_init 9 = .ok (.putfield 9, 3) := by decide +kernel
theorem dX3_init_12 : decode cX3_init 12 = .ok (.aload_n 0, 1) := by decide +kernel
theorem dX3_init_13 : decode cX3_init 13 = .ok (.iconst 0, 1) := by decide +kernel
theorem dX3_init_14 : decode cX3_init 14 = .ok (.putfield 15, 3) := by decide +kernel
theorem dX3_init_17 : decode cX3_init 17 = .ok (.aload_n 0, 1) := by decide +kernel
theorem dX3_init_18 : decode cX3_init 18 = .ok (.iconst 0, 1) := by decide +kernel
theorem dX3_init_19 : decode cX3_init 19 = .ok (.putfield 19, 3) := by decide +kernel
theorem dX3_init_22 : decode cX3_init 22 = .ok (.aload_n 0, 1) := by decide +kernel
theorem dX3_init_23 : decode cX3_init 23 = .ok (.iconst 0, 1) := by decide +kernel
theorem dX3_init_24 : decode cX3_init 24 = .ok (.putfield 22, 3) := by decide +kernel
theorem dX3_init_27 : decode cX3_init 27 = .ok (.aload_n 0, 1) := by decide +kernel
theorem dX3_init_28 : decode cX3_init 28 = .ok (.iconst 0, 1) := by decide +kernel
theorem dX3_init_29 : decode cX3_init 29 = .ok (.putfield 25, 3) := by decide +kernel
theorem dX3_init_32 : decode cX3_init 32 = .ok (.aload_n 0, 1) := by decide +kernel
theorem dX3_init_33 : decode cX3_init 33 = .ok (.iconst 0, 1) := by decide +kernel
theorem dX3_init_34 : decode cX3_init 34 = .ok (.putfield 28, 3) := by decide +kernel
theorem dX3_init_37 : decode cX3_init 37 = .ok (.return_, 1) := by decide +kernel
set_option maxRecDepth 100000 in
set_option maxHeartbeats 4000000 in
theorem ci_X3 {l : Launch} {D : va_G} {ca : Nat → ClassId} : CI l D ca yX3_init cX3_init 1 1 14 1 120 3 [.null, .int 0, .int 0, .int 0, .int 0, .int 0] (fun q w => ∃ b : Nat, w = [(q, eO 3 [.ref b, .int 0, .int 0, .int 0, .int 0, .int 0]), (b, eI (ca 6) 120 (fun _ => 0))]) := by
  refine ci_of (by decide +kernel) rfl (by decide) (fun q A p e s mi args below meth c C hin hrt hlk => ?_)
  refine i_aload_n (q := 1) (i := 0) C dX3_init_0 rfl rfl ?_
  refine i_obj (q := 4) C dX3_init_1 rfl wo_X3 (Nat.le_of_ble_eq_true rfl) (Nat.le_of_ble_eq_true rfl) ?_
  refine i_aload_n (q := 5) (i := 0) C dX3_init_4 rfl rfl ?_
  refine i_bipush (q := 7) (v := 120) C dX3_init_5 rfl (by decide) ?_
  refine i_newB (q := 9) (N := 120) C dX3_init_7 rfl wa_byte (by decide) (by decide) (by decide) (Nat.le_of_ble_eq_true rfl) (Nat.le_of_ble_eq_true rfl) (fun a1 => ?_)
  refine i_ws (ws' := [(q, eO 3 [.null, .int 0, .int 0, .int 0, .int 0, .int 0]), (a1, eI (ca 6) 120 (fun _ => 0))]) rfl ?_
  refine i_widen (k := 1) (n := 120) (by decide) (by decide) ?_
  refine i_putF (q := 12) (q0 := 0) (ws' := [(q, eO 3 [.ref a1, .int 0, .int 0, .int 0, .int 0, .int 0]), (a1, eI (ca 6) 120 (fun _ => 0))]) C hin dX3_init_9 rfl fl_X3_9 rfl rfl rfl rfl rfl (Nat.le_of_ble_eq_true rfl) rfl ?_
  refine i_aload_n (q := 13) (i := 0) C dX3_init_12 rfl rfl ?_
  refine i_iconst (q := 14) (v := 0) C dX3_init_13 rfl (by decide) ?_
  refine i_put (q := 17) (q0 := 0) (ws' := [(q, eO 3 [.ref a1, .int 0, .int 0, .int 0, .int 0, .int 0]), (a1, eI (ca 6) 120 (fun _ => 0))]) C dX3_init_14 rfl fl_X3_15 rfl rfl rfl rfl (Nat.le_of_ble_eq_true rfl) rfl ?_
  refine i_aload_n (q := 18) (i := 0) C dX3_init_17 rfl rfl ?_
  refine i_iconst (q := 19) (v := 0) C dX3_init_18 rfl (by decide) ?_
  refine i_put (q := 22) (q0 := 0) (ws' := [(q, eO 3 [.ref a1, .int 0, .int 0, .int 0, .int 0, .int 0]), (a1, eI (ca 6) 120 (fun _ => 0))]) C dX3_init_19 rfl fl_X3_19 rfl rfl rfl rfl (Nat.le_of_ble_eq_true rfl) rfl ?_
  refine i_aload_n (q := 23) (i := 0) C dX3_init_22 rfl rfl ?_
  refine i_iconst (q := 24) (v := 0) C dX3_init_23 rfl (by decide) ?_
  refine i_put (q := 27) (q0 := 0) (ws' := [(q, eO 3 [.ref a1, .int 0, .int 0, .int 0, .int 0, .int 0]), (a1, eI (ca 6) 120 (fun _ => 0))]) C dX3_init_24 rfl fl_X3_22 rfl rfl rfl rfl (Nat.le_of_ble_eq_true rfl) rfl ?_
  refine i_aload_n (q := 28) (i := 0) C dX3_init_27 rfl rfl ?_
  refine i_iconst (q := 29) (v := 0) C dX3_init_28 rfl (by decide) ?_
  refine i_put (q := 32) (q0 := 0) (ws' := [(q, eO 3 [.ref a1, .int 0, .int 0, .int 0, .int 0, .int 0]), (a1, eI (ca 6) 120 (fun _ => 0))]) C dX3_init_29 rfl fl_X3_25 rfl rfl rfl rfl (Nat.le_of_ble_eq_true rfl) rfl ?_
  refine i_aload_n (q := 33) (i := 0) C dX3_init_32 rfl rfl ?_
  refine i_iconst (q := 34) (v := 0) C dX3_init_33 rfl (by decide) ?_
  refine i_put (q := 37) (q0 := 0) (ws' := [(q, eO 3 [.ref a1, .int 0, .int 0, .int 0, .int 0, .int 0]), (a1, eI (ca 6) 120 (fun _ => 0))]) C dX3_init_34 rfl fl_X3_28 rfl rfl rfl rfl (Nat.le_of_ble_eq_true rfl) rfl ?_
  exact i_return C hrt hlk dX3_init_37 ⟨a1, rfl⟩
def coW (ca : Nat → ClassId) (a : Nat → Nat) : va_W := [(a 0, eO 0 [.ref (a 1), .int 0, .int 0, .int 0, .int 0, .int 1, .int 0, .ref (a 2), .ref (a 3)]), (a 1, eI (ca 8) 6 (fun _ => 0)), (a 2, eR (ca 9) 8 (va_up (va_up (va_up (va_up (va_up (va_up (va_up (va_up (fun _ => none) 0 (some (a 4))) 1 (some (a 5))) 2 (some (a 6))) 3 (some (a 7))) 4 (some (a 8))) 5 (some (a 9))) 6 (some (a 10))) 7 (some (a 11)))), (a 3, eI (ca 8) 10 (spN 10)), (a 4, eO 1 [.int 0, .int 0, .int 0, .int 0, .int 0, .int 0, .int 0]), (a 5, eO 1 [.int 0, .int 0, .int 0, .int 0, .int 0, .int 0, .int 0]), (a 6, eO 1 [.int 0, .int 0, .int 0, .int 0, .int 0, .int 0, .int 0]), (a 7, eO 1 [.int 0, .int 0, .int 0, .int 0, .int 0, .int 0, .int 0]), (a 8, eO 1 [.int 0, .int 0, .int 0, .int 0, .int 0, .int 0, .int 0]), (a 9, eO 1 [.int 0, .int 0, .int 0, .int 0, .int 0, .int 0, .int 0]), (a 10, eO 1 [.int 0, .int 0, .int 0, .int 0, .int 0, .int 0, .int 0]), (a 11, eO 1 [.int 0, .int 0, .int 0, .int 0, .int 0, .int 0, .int 0])]
theorem dX0_init_0 : decode cX0_init 0 = .ok (.aload_n 0, 1) := by decide +kernel
theorem dX0_init_1 : decode cX0_init 1 = .ok (.invokespecial 3, 3) := by decide +kernel
theorem dX0_init_4 : decode cX0_init 4 = .ok (.aload_n 0, 1) := by decide +kernel
theorem dX0_init_5 : decode cX0_init 5 = .ok (.bipush 6, 2) := by decide +kernel
theorem dX0_init_7 : decode cX0_init 7 = .ok (.newarray .int, 2) := by decide +kernel
theorem dX0_init_9 : decode cX0_init 9 = .ok (.putfield 9, 3) := by decide +kernel
theorem dX0_init_12 : decode cX0_init 12 = .ok (.aload_n 0, 1) := by decide +kernel
theorem dX0_init_13 : decode cX0_init 13 = .ok (.iconst 0, 1) := by decide +kernel
theorem dX0_init_14 : decode cX0_init 14 = .ok (.putfield 15, 3) := by decide +kernel
theorem dX0_init_17 : decode cX0_init 17 = .ok (.aload_n 0, 1) := by decide +kernel
theorem dX0_init_18 : decode cX0_init 18 = .ok (.iconst 0, 1) := by decide +kernel
theorem dX0_init_19 : decode cX0_init 19 = .ok (.putfield 19, 3) := by decide +kernel
theorem dX0_init_22 : decode cX0_init 22 = .ok (.aload_n 0, 1) := by decide +kernel
theorem dX0_init_23 : decode cX0_init 23 = .ok (.iconst 0, 1) := by decide +kernel
theorem dX0_init_24 : decode cX0_init 24 = .ok (.putfield 22, 3) := by decide +kernel
theorem dX0_init_27 : decode cX0_init 27 = .ok (.aload_n 0, 1) := by decide +kernel
theorem dX0_init_28 : decode cX0_init 28 = .ok (.iconst 0, 1) := by decide +kernel
theorem dX0_init_29 : decode cX0_init 29 = .ok (.putfield 25, 3) := by decide +kernel
theorem dX0_init_32 : decode cX0_init 32 = .ok (.aload_n 0, 1) := by decide +kernel
theorem dX0_init_33 : decode cX0_init 33 = .ok (.iconst 1, 1) := by decide +kernel
theorem dX0_init_34 : decode cX0_init 34 = .ok (.putfield 28, 3) := by decide +kernel
theorem dX0_init_37 : decode cX0_init 37 = .ok (.aload_n 0, 1) := by decide +kernel
theorem dX0_init_38 : decode cX0_init 38 = .ok (.iconst 0, 1) := by decide +kernel
theorem dX0_init_39 : decode cX0_init 39 = .ok (.putfield 31, 3) := by decide +kernel
theorem dX0_init_42 : decode cX0_init 42 = .ok (.aload_n 0, 1) := by decide +kernel
theorem dX0_init_43 : decode cX0_init 43 = .ok (.bipush 8, 2) := by decide +kernel
theorem dX0_init_45 : decode cX0_init 45 = .ok (.anewarray 34, 3) := by decide +kernel
theorem dX0_init_48 : decode cX0_init 48 = .ok (.putfield 36, 3) := by decide +kernel
theorem dX0_init_51 : decode cX0_init 51 = .ok (.aload_n 0, 1) := by decide +kernel
theorem dX0_init_52 : decode cX0_init 52 = .ok (.bipush 10, 2) := by decide +kernel
theorem dX0_init_54 : decode cX0_init 54 = .ok (.newarray .int, 2) := by decide +kernel
theorem dX0_init_56 : decode cX0_init 56 = .ok (.putfield 40, 3) := by decide +kernel
theorem dX0_init_59 : decode cX0_init 59 = .ok (.iconst 0, 1) := by decide +kernel
theorem dX0_init_60 : decode cX0_init 60 = .ok (.istore_n 1, 1) := by decide +kernel
theorem dX0_init_61 : decode cX0_init 61 = .ok (.iload_n 1, 1) := by decide +kernel
theorem dX0_init_62 : decode cX0_init 62 = .ok (.aload_n 0, 1) := by decide +kernel
theorem dX0_init_63 : decode cX0_init 63 = .ok (.getfield 36, 3) := by decide +kernel
theorem dX0_init_66 : decode cX0_init 66 = .ok (.arraylength, 1) := by decide +kernel
theorem dX0_init_67 : decode cX0_init 67 = .ok (.if_icmp .ge 22, 3) := by decide +kernel
theorem dX0_init_70 : decode cX0_init 70 = .ok (.aload_n 0, 1) := by decide +kernel
theorem dX0_init_71 : decode cX0_init 71 = .ok (.getfield 36, 3) := by decide +kernel
theorem dX0_init_74 : decode cX0_init 74 = .ok (.iload_n 1, 1) := by decide +kernel
theorem dX0_init_75 : decode cX0_init 75 = .ok (.new 34, 3) := by decide +kernel
theorem dX0_init_78 : decode cX0_init 78 = .ok (.dup, 1) := by decide +kernel
theorem dX0_init_79 : decode cX0_init 79 = .ok (.invokespecial 43, 3) := by decide +kernel
theorem dX0_init_82 : decode cX0_init 82 = .ok (.aastore, 1) := by decide +kernel
theorem dX0_init_83 : decode cX0_init 83 = .ok (.iinc 1 1, 3) := by decide +kernel
theorem dX0_init_86 : decode cX0_init 86 = .ok (.goto (-25), 3) := by decide +kernel
theorem dX0_init_89 : decode cX0_init 89 = .ok (.iconst 0, 1) := by decide +kernel
theorem dX0_init_90 : decode cX0_init 90 = .ok (.istore_n 1, 1) := by decide +kernel
theorem dX0_init_91 : decode cX0_init 91 = .ok (.iload_n 1, 1) := by decide +kernel
theorem dX0_init_92 : decode cX0_init 92 = .ok (.aload_n 0, 1) := by decide +kernel
theorem dX0_init_93 : decode cX0_init 93 = .ok (.getfield 40, 3) := by decide +kernel
theorem dX0_init_96 : decode cX0_init 96 = .ok (.arraylength, 1) := by decide +kernel
theorem dX0_init_97 : decode cX0_init 97 = .ok (.if_icmp .ge 16, 3) := by decide +kernel
theorem dX0_init_100 : decode cX0_init 100 = .ok (.aload_n 0, 1) := by decide +kernel
theorem dX0_init_101 : decode cX0_init 101 = .ok (.getfield 40, 3) := by decide +kernel
theorem dX0_init_104 : decode cX0_init 104 = .ok (.iload_n 1, 1) := by decide +kernel
theorem dX0_init_105 : decode cX0_init 105 = .ok (.iconst (-1), 1) := by decide +kernel
theorem dX0_init_106 : decode cX0_init 106 = .ok (.iastore, 1) := by decide +kernel
theorem dX0_init_107 : decode cX0_init 107 = .ok (.iinc 1 1, 3) := by decide +kernel
theorem dX0_init_110 : decode cX0_init 110 = .ok (.goto (-19), 3) := by decide +kernel
theorem dX0_init_113 : decode cX0_init 113 = .ok (.return_, 1) := by decide +kernel
set_option maxRecDepth 100000 in
set_option maxHeartbeats 4000000 in
theorem ci_X0 {l : Launch} {D : va_G} {ca : Nat → ClassId} : CI l D ca yX0_init cX0_init 2 2 60 11 80 0 [.null, .int 0, .int 0, .int 0, .int 0, .int 0, .int 0, .null, .null] (fun q w => ∃ a : Nat → Nat, a 0 = q ∧ w = coW ca a) := by
  refine ci_of (by decide +kernel) rfl (by decide) (fun q A p e s mi args below meth c C hin hrt hlk => ?_)
  refine i_aload_n (q := 1) (i := 0) C dX0_init_0 rfl rfl ?_
  refine i_obj (q := 4) C dX0_init_1 rfl wo_X0 (Nat.le_of_ble_eq_true rfl) (Nat.le_of_ble_eq_true rfl) ?_
  refine i_aload_n (q := 5) (i := 0) C dX0_init_4 rfl rfl ?_
  refine i_bipush (q := 7) (v := 6) C dX0_init_5 rfl (by decide) ?_
  refine i_newI (q := 9) (N := 6) C dX0_init_7 rfl wa_int (by decide) (by decide) (by decide) (Nat.le_of_ble_eq_true rfl) (Nat.le_of_ble_eq_true rfl) (fun a1 => ?_)
  refine i_ws (ws' := [(q, eO 0 [.null, .int 0, .int 0, .int 0, .int 0, .int 0, .int 0, .null, .null]), (a1, eI (ca 8) 6 (fun _ => 0))]) rfl ?_
  refine i_widen (k := 1) (n := 6) (by decide) (by decide) ?_
  refine i_putF (q := 12) (q0 := 0) (ws' := [(q, eO 0 [.ref a1, .int 0, .int 0, .int 0, .int 0, .int 0, .int 0, .null, .null]), (a1, eI (ca 8) 6 (fun _ => 0))]) C hin dX0_init_9 rfl fl_X0_9 rfl rfl rfl rfl rfl (Nat.le_of_ble_eq_true rfl) rfl ?_
  refine i_aload_n (q := 13) (i := 0) C dX0_init_12 rfl rfl ?_
  refine i_iconst (q := 14) (v := 0) C dX0_init_13 rfl (by decide) ?_
  refine i_put (q := 17) (q0 := 0) (ws' := [(q, eO 0 [.ref a1, .int 0, .int 0, .int 0, .int 0, .int 0, .int 0, .null, .null]), (a1, eI (ca 8) 6 (fun _ => 0))]) C dX0_init_14 rfl fl_X0_15 rfl rfl rfl rfl (Nat.le_of_ble_eq_true rfl) rfl ?_
  refine i_aload_n (q := 18) (i := 0) C dX0_init_17 rfl rfl ?_
  refine i_iconst (q := 19) (v := 0) C dX0_init_18 rfl (by decide) ?_
  refine i_put (q := 22) (q0 := 0) (ws' := [(q, eO 0 [.ref a1, .int 0, .int 0, .int 0, .int 0, .int 0, .int 0, .null, .null]), (a1, eI (ca 8) 6 (fun _ => 0))]) C dX0_init_19 rfl fl_X0_19 rfl rfl rfl rfl (Nat.le_of_ble_eq_true rfl) rfl ?_
  refine i_aload_n (q := 23) (i := 0) C dX0_init_22 rfl rfl ?_
  refine i_iconst (q := 24) (v := 0) C dX0_init_23 rfl (by decide) ?_
  refine i_put (q := 27) (q0 := 0) (ws' := [(q, eO 0 [.ref a1, .int 0, .int 0, .int 0, .int 0, .int 0, .int 0, .null, .null]), (a1, eI (ca 8) 6 (fun _ => 0))]) C dX0_init_24 rfl fl_X0_22 rfl rfl rfl rfl (Nat.le_of_ble_eq_true rfl) rfl ?_
  refine i_aload_n (q := 28) (i := 0) C dX0_init_27 rfl rfl ?_
  refine i_iconst (q := 29) (v := 0) C dX0_init_28 rfl (by decide) ?_
  refine i_put (q := 32) (q0 := 0) (ws' := [(q, eO 0 [.ref a1, .int 0, .int 0, .int 0, .int 0, .int 0, .int 0, .null, .null]), (a1, eI (ca 8) 6 (fun _ => 0))]) C dX0_init_29 rfl fl_X0_25 rfl rfl rfl rfl (Nat.le_of_ble_eq_true rfl) rfl ?_
  refine i_aload_n (q := 33) (i := 0) C dX0_init_32 rfl rfl ?_
  refine i_iconst (q := 34) (v := 1) C dX0_init_33 rfl (by decide) ?_
  refine i_put (q := 37) (q0 := 0) (ws' := [(q, eO 0 [.ref a1, .int 0, .int 0, .int 0, .int 0, .int 1, .int 0, .null, .null]), (a1, eI (ca 8) 6 (fun _ => 0))]) C dX0_init_34 rfl fl_X0_28 rfl rfl rfl rfl (Nat.le_of_ble_eq_true rfl) rfl ?_
  refine i_aload_n (q := 38) (i := 0) C dX0_init_37 rfl rfl ?_
  refine i_iconst (q := 39) (v := 0) C dX0_init_38 rfl (by decide) ?_
  refine i_put (q := 42) (q0 := 0) (ws' := [(q, eO 0 [.ref a1, .int 0, .int 0, .int 0, .int 0, .int 1, .int 0, .null, .null]), (a1, eI (ca 8) 6 (fun _ => 0))]) C dX0_init_39 rfl fl_X0_31 rfl rfl rfl rfl (Nat.le_of_ble_eq_true rfl) rfl ?_
  refine i_aload_n (q := 43) (i := 0) C dX0_init_42 rfl rfl ?_
  refine i_bipush (q := 45) (v := 8) C dX0_init_43 rfl (by decide) ?_
  refine i_newP (q := 48) (N := 8) C dX0_init_45 rfl wl_X0_34 (by decide) (by decide) (by decide) (Nat.le_of_ble_eq_true rfl) (Nat.le_of_ble_eq_true rfl) (fun a2 => ?_)
  refine i_ws (ws' := [(q, eO 0 [.ref a1, .int 0, .int 0, .int 0, .int 0, .int 1, .int 0, .null, .null]), (a1, eI (ca 8) 6 (fun _ => 0)), (a2, eR (ca 9) 8 (fun _ => none))]) rfl ?_
  refine i_widen (k := 2) (n := 14) (by decide) (by decide) ?_
  refine i_putF (q := 51) (q0 := 0) (ws' := [(q, eO 0 [.ref a1, .int 0, .int 0, .int 0, .int 0, .int 1, .int 0, .ref a2, .null]), (a1, eI (ca 8) 6 (fun _ => 0)), (a2, eR (ca 9) 8 (fun _ => none))]) C hin dX0_init_48 rfl fl_X0_36 rfl rfl rfl rfl rfl (Nat.le_of_ble_eq_true rfl) rfl ?_
  refine i_aload_n (q := 52) (i := 0) C dX0_init_51 rfl rfl ?_
  refine i_bipush (q := 54) (v := 10) C dX0_init_52 rfl (by decide) ?_
  refine i_newI (q := 56) (N := 10) C dX0_init_54 rfl wa_int (by decide) (by decide) (by decide) (Nat.le_of_ble_eq_true rfl) (Nat.le_of_ble_eq_true rfl) (fun a3 => ?_)
  refine i_ws (ws' := [(q, eO 0 [.ref a1, .int 0, .int 0, .int 0, .int 0, .int 1, .int 0, .ref a2, .null]), (a1, eI (ca 8) 6 (fun _ => 0)), (a2, eR (ca 9) 8 (fun _ => none)), (a3, eI (ca 8) 10 (fun _ => 0))]) rfl ?_
  refine i_widen (k := 3) (n := 24) (by decide) (by decide) ?_
  refine i_putF (q := 59) (q0 := 0) (ws' := [(q, eO 0 [.ref a1, .int 0, .int 0, .int 0, .int 0, .int 1, .int 0, .ref a2, .ref a3]), (a1, eI (ca 8) 6 (fun _ => 0)), (a2, eR (ca 9) 8 (fun _ => none)), (a3, eI (ca 8) 10 (fun _ => 0))]) C hin dX0_init_56 rfl fl_X0_40 rfl rfl rfl rfl rfl (Nat.le_of_ble_eq_true rfl) rfl ?_
  refine i_iconst (q := 60) (v := 0) C dX0_init_59 rfl (by decide) ?_
  refine i_istore_n (q := 61) (lv' := [(1, .int 0), (0, .ref q)]) C dX0_init_60 rfl (by decide) rfl ?_
  refine i_iload_n (q := 62) (i := 0) C dX0_init_61 rfl rfl ?_
  refine i_aload_n (q := 63) (i := 1) C dX0_init_62 rfl rfl ?_
  refine i_get (q := 66) (q0 := 0) C dX0_init_63 rfl fl_X0_36 rfl rfl ?_
  refine i_alen (q := 67) (q0 := 2) (t0 := 3) (v := 8) C dX0_init_66 rfl rfl rfl rfl ?_
  refine i_icmp_ge (q := 70) (t := 89) C dX0_init_67 rfl (by decide) (fun h => absurd h (by decide)) (fun _ => ?_)
  refine i_aload_n (q := 71) (i := 1) C dX0_init_70 rfl rfl ?_
  refine i_get (q := 74) (q0 := 0) C dX0_init_71 rfl fl_X0_36 rfl rfl ?_
  refine i_iload_n (q := 75) (i := 0) C dX0_init_74 rfl rfl ?_
  refine i_new (q := 78) (ci := 1) (N := 7) (fs := [.int 0, .int 0, .int 0, .int 0, .int 0, .int 0, .int 0]) C dX0_init_75 rfl (by decide) rfl wl_X0_34 win_1 wii_1 hfs_1 (Nat.le_of_ble_eq_true rfl) (Nat.le_of_ble_eq_true rfl) (fun a4 => ?_)
  refine i_ws (ws' := [(q, eO 0 [.ref a1, .int 0, .int 0, .int 0, .int 0, .int 1, .int 0, .ref a2, .ref a3]), (a1, eI (ca 8) 6 (fun _ => 0)), (a2, eR (ca 9) 8 (fun _ => none)), (a3, eI (ca 8) 10 (fun _ => 0)), (a4, eO 1 [.int 0, .int 0, .int 0, .int 0, .int 0, .int 0, .int 0])]) rfl ?_
  refine i_widen (k := 4) (n := 31) (by decide) (by decide) ?_
  refine i_dup (q := 79) C dX0_init_78 rfl rfl ?_
  refine i_initN (q := 82) (k := 4) (wr := [(q, eO 0 [.ref a1, .int 0, .int 0, .int 0, .int 0, .int 1, .int 0, .ref a2, .ref a3]), (a1, eI (ca 8) 6 (fun _ => 0)), (a2, eR (ca 9) 8 (fun _ => none)), (a3, eI (ca 8) 10 (fun _ => 0))]) [0, 1, 2, 3] C dX0_init_79 rfl ci_X1 C.2.2.2.2.2.2.1.2.2.1 wn_X1 wii_1 wc_X1 rfl ⟨by decide, by decide, by decide +kernel⟩ rfl rfl (by decide) (by decide) ⟨Nat.le_of_ble_eq_true rfl, Nat.le_of_ble_eq_true rfl⟩ ⟨Nat.le_of_ble_eq_true rfl, Nat.le_of_ble_eq_true rfl⟩ (Nat.le_of_ble_eq_true rfl) (fun w1 hw1 => ?_)
  subst hw1
  refine i_ws (ws' := [(q, eO 0 [.ref a1, .int 0, .int 0, .int 0, .int 0, .int 1, .int 0, .ref a2, .ref a3]), (a1, eI (ca 8) 6 (fun _ => 0)), (a2, eR (ca 9) 8 (fun _ => none)), (a3, eI (ca 8) 10 (fun _ => 0)), (a4, eO 1 [.int 0, .int 0, .int 0, .int 0, .int 0, .int 0, .int 0])]) rfl ?_
  refine i_widen (k := 4) (n := 31) (by decide) (by decide) ?_
  refine i_aast (q := 83) (q0 := 2) (qk := 4) (t0 := 3) (ci := 1) (j := 0) (ws' := [(q, eO 0 [.ref a1, .int 0, .int 0, .int 0, .int 0, .int 1, .int 0, .ref a2, .ref a3]), (a1, eI (ca 8) 6 (fun _ => 0)), (a2, eR (ca 9) 8 (va_up (fun _ => none) 0 (some a4))), (a3, eI (ca 8) 10 (fun _ => 0)), (a4, eO 1 [.int 0, .int 0, .int 0, .int 0, .int 0, .int 0, .int 0])]) C dX0_init_82 rfl (by decide) rfl rfl rfl (ix_nI (k := 0) (by decide) (by decide)) rfl ?_
  refine i_iinc (q := 86) (i := 0) (v := 1) (lv' := [(1, .int 1), (0, .ref q)]) C dX0_init_83 rfl rfl (by decide) (by decide) rfl ?_
  refine i_goto (t := 61) C dX0_init_86 (by decide) ?_
  refine i_iload_n (q := 62) (i := 0) C dX0_init_61 rfl rfl ?_
  refine i_aload_n (q := 63) (i := 1) C dX0_init_62 rfl rfl ?_
  refine i_get (q := 66) (q0 := 0) C dX0_init_63 rfl fl_X0_36 rfl rfl ?_
  refine i_alen (q := 67) (q0 := 2) (t0 := 3) (v := 8) C dX0_init_66 rfl rfl rfl rfl ?_
  refine i_icmp_ge (q := 70) (t := 89) C dX0_init_67 rfl (by decide) (fun h => absurd h (by decide)) (fun _ => ?_)
  refine i_aload_n (q := 71) (i := 1) C dX0_init_70 rfl rfl ?_
  refine i_get (q := 74) (q0 := 0) C dX0_init_71 rfl fl_X0_36 rfl rfl ?_
  refine i_iload_n (q := 75) (i := 0) C dX0_init_74 rfl rfl ?_
  refine i_new (q := 78) (ci := 1) (N := 7) (fs := [.int 0, .int 0, .int 0, .int 0, .int 0, .int 0, .int 0]) C dX0_init_75 rfl (by decide) rfl wl_X0_34 win_1 wii_1 hfs_1 (Nat.le_of_ble_eq_true rfl) (Nat.le_of_ble_eq_true rfl) (fun a5 => ?_)
  refine i_ws (ws' := [(q, eO 0 [.ref a1, .int 0, .int 0, .int 0, .int 0, .int 1, .int 0, .ref a2, .ref a3]), (a1, eI (ca 8) 6 (fun _ => 0)), (a2, eR (ca 9) 8 (va_up (fun _ => none) 0 (some a4))), (a3, eI (ca 8) 10 (fun _ => 0)), (a4, eO 1 [.int 0, .int 0, .int 0, .int 0, .int 0, .int 0, .int 0]), (a5, eO 1 [.int 0, .int 0, .int 0, .int 0, .int 0, .int 0, .int 0])]) rfl ?_
  refine i_widen (k := 5) (n := 38) (by decide) (by decide) ?_
  refine i_dup (q := 79) C dX0_init_78 rfl rfl ?_
  refine i_initN (q := 82) (k := 5) (wr := [(q, eO 0 [.ref a1, .int 0, .int 0, .int 0, .int 0, .int 1, .int 0, .ref a2, .ref a3]), (a1, eI (ca 8) 6 (fun _ => 0)), (a2, eR (ca 9) 8 (va_up (fun _ => none) 0 (some a4))), (a3, eI (ca 8) 10 (fun _ => 0)), (a4, eO 1 [.int 0, .int 0, .int 0, .int 0, .int 0, .int 0, .int 0])]) [0, 1, 2, 3, 4] C dX0_init_79 rfl ci_X1 C.2.2.2.2.2.2.1.2.2.1 wn_X1 wii_1 wc_X1 rfl ⟨by decide, by decide, by decide +kernel⟩ rfl rfl (by decide) (by decide) ⟨Nat.le_of_ble_eq_true rfl, Nat.le_of_ble_eq_true rfl⟩ ⟨Nat.le_of_ble_eq_true rfl, Nat.le_of_ble_eq_true rfl⟩ (Nat.le_of_ble_eq_true rfl) (fun w1 hw1 => ?_)
  subst hw1
  refine i_ws (ws' := [(q, eO 0 [.ref a1, .int 0, .int 0, .int 0, .int 0, .int 1, .int 0, .ref a2, .ref a3]), (a1, eI (ca 8) 6 (fun _ => 0)), (a2, eR (ca 9) 8 (va_up (fun _ => none) 0 (some a4))), (a3, eI (ca 8) 10 (fun _ => 0)), (a4, eO 1 [.int 0, .int 0, .int 0, .int 0, .int 0, .int 0, .int 0]), (a5, eO 1 [.int 0, .int 0, .int 0, .int 0, .int 0, .int 0, .int 0])]) rfl ?_
  refine i_widen (k := 5) (n := 38) (by decide) (by decide) ?_
  refine i_aast (q := 83) (q0 := 2) (qk := 5) (t0 := 3) (ci := 1) (j := 1) (ws' := [(q, eO 0 [.ref a1, .int 0, .int 0, .int 0, .int 0, .int 1, .int 0, .ref a2, .ref a3]), (a1, eI (ca 8) 6 (fun _ => 0)), (a2, eR (ca 9) 8 (va_up (va_up (fun _ => none) 0 (some a4)) 1 (some a5))), (a3, eI (ca 8) 10 (fun _ => 0)), (a4, eO 1 [.int 0, .int 0, .int 0, .int 0, .int 0, .int 0, .int 0]), (a5, eO 1 [.int 0, .int 0, .int 0, .int 0, .int 0, .int 0, .int 0])]) C dX0_init_82 rfl (by decide) rfl rfl rfl (ix_nI (k := 1) (by decide) (by decide)) rfl ?_
  refine i_iinc (q := 86) (i := 0) (v := 2) (lv' := [(1, .int 2), (0, .ref q)]) C dX0_init_83 rfl rfl (by decide) (by decide) rfl ?_
  refine i_goto (t := 61) C dX0_init_86 (by decide) ?_
  refine i_iload_n (q := 62) (i := 0) C dX0_init_61 rfl rfl ?_
  refine i_aload_n (q := 63) (i := 1) C dX0_init_62 rfl rfl ?_
  refine i_get (q := 66) (q0 := 0) C dX0_init_63 rfl fl_X0_36 rfl rfl ?_
  refine i_alen (q := 67) (q0 := 2) (t0 := 3) (v := 8) C dX0_init_66 rfl rfl rfl rfl ?_
  refine i_icmp_ge (q := 70) (t := 89) C dX0_init_67 rfl (by decide) (fun h => absurd h (by decide)) (fun _ => ?_)
  refine i_aload_n (q := 71) (i := 1) C dX0_init_70 rfl rfl ?_
  refine i_get (q := 74) (q0 := 0) C dX0_init_71 rfl fl_X0_36 rfl rfl ?_
  refine i_iload_n (q := 75) (i := 0) C dX0_init_74 rfl rfl ?_
  refine i_new (q := 78) (ci := 1) (N := 7) (fs := [.int 0, .int 0, .int 0, .int 0, .int 0, .int 0, .int 0]) C dX0_init_75 rfl (by decide) rfl wl_X0_34 win_1 wii_1 hfs_1 (Nat.le_of_ble_eq_true rfl) (Nat.le_of_ble_eq_true rfl) (fun a6 => ?_)
  refine i_ws (ws' := [(q, eO 0 [.ref a1, .int 0, .int 0, .int 0, .int 0, .int 1, .int 0, .ref a2, .ref a3]), (a1, eI (ca 8) 6 (fun _ => 0)), (a2, eR (ca 9) 8 (va_up (va_up (fun _ => none) 0 (some a4)) 1 (some a5))), (a3, eI (ca 8) 10 (fun _ => 0)), (a4, eO 1 [.int 0, .int 0, .int 0, .int 0, .int 0, .int 0, .int 0]), (a5, eO 1 [.int 0, .int 0, .int 0, .int 0, .int 0, .int 0, .int 0]), (a6, eO 1 [.int 0, .int 0, .int 0, .int 0, .int 0, .int 0, .int 0])]) rfl ?_
  refine i_widen (k := 6) (n := 45) (by decide) (by decide) ?_
  refine i_dup (q := 79) C dX0_init_78 rfl rfl ?_
  refine i_initN (q := 82) (k := 6) (wr := [(q, eO 0 [.ref a1, .int 0, .int 0, .int 0, .int 0, .int 1, .int 0, .ref a2, .ref a3]), (a1, eI (ca 8) 6 (fun _ => 0)), (a2, eR (ca 9) 8 (va_up (va_up (fun _ => none) 0 (some a4)) 1 (some a5))), (a3, eI (ca 8) 10 (fun _ => 0)), (a4, eO 1 [.int 0, .int 0, .int 0, .int 0, .int 0, .int 0, .int 0]), (a5, eO 1 [.int 0, .int 0, .int 0, .int 0, .int 0, .int 0, .int 0])]) [0, 1, 2, 3, 4, 5] C dX0_init_79 rfl ci_X1 C.2.2.2.2.2.2.1.2.2.1 wn_X1 wii_1 wc_X1 rfl ⟨by decide, by decide, by decide +kernel⟩ rfl rfl (by decide) (by decide) ⟨Nat.le_of_ble_eq_true rfl, Nat.le_of_ble_eq_true rfl⟩ ⟨Nat.le_of_ble_eq_true rfl, Nat.le_of_ble_eq_true rfl⟩ (Nat.le_of_ble_eq_true rfl) (fun w1 hw1 => ?_)
  subst hw1
  refine i_ws (ws' := [(q, eO 0 [.ref a1, .int 0, .int 0, .int 0, .int 0, .int 1, .int 0, .ref a2, .ref a3]), (a1, eI (ca 8) 6 (fun _ => 0)), (a2, eR (ca 9) 8 (va_up (va_up (fun _ => none) 0 (some a4)) 1 (some a5))), (a3, eI (ca 8) 10 (fun _ => 0)), (a4, eO 1 [.int 0, .int 0, .int 0, .int 0, .int 0, .int 0, .int 0]), (a5, eO 1 [.int 0, .int 0, .int 0, .int 0, .int 0, .int 0, .int 0]), (a6, eO 1 [.int 0, .int 0, .int 0, .int 0, .int 0, .int 0, .int 0])]) rfl ?_
  refine i_widen (k := 6) (n := 45) (by decide) (by decide) ?_
  refine i_aast (q := 83) (q0 := 2) (qk := 6) (t0 := 3) (ci := 1) (j := 2) (ws' := [(q, eO 0 [.ref a1, .int 0, .int 0, .int 0, .int 0, .int 1, .int 0, .ref a2, .ref a3]), (a1, eI (ca 8) 6 (fun _ => 0)), (a2, eR (ca 9) 8 (va_up (va_up (va_up (fun _ => none) 0 (some a4)) 1 (some a5)) 2 (some a6))), (a3, eI (ca 8) 10 (fun _ => 0)), (a4, eO 1 [.int 0, .int 0, .int 0, .int 0, .int 0, .int 0, .int 0]), (a5, eO 1 [.int 0, .int 0, .int 0, .int 0, .int 0, .int 0, .int 0]), (a6, eO 1 [.int 0, .int 0, .int 0, .int 0, .int 0, .int 0, .int 0])]) C dX0_init_82 rfl (by decide) rfl rfl rfl (ix_nI (k := 2) (by decide) (by decide)) rfl ?_
  refine i_iinc (q := 86) (i := 0) (v := 3) (lv' := [(1, .int 3), (0, .ref q)]) C dX0_init_83 rfl rfl (by decide) (by decide) rfl ?_
  refine i_goto (t := 61) C dX0_init_86 (by decide) ?_
  refine i_iload_n (q := 62) (i := 0) C dX0_init_61 rfl rfl ?_
  refine i_aload_n (q := 63) (i := 1) C dX0_init_62 rfl rfl ?_
  refine i_get (q := 66) (q0 := 0) C dX0_init_63 rfl fl_X0_36 rfl rfl ?_
  refine i_alen (q := 67) (q0 := 2) (t0 := 3) (v := 8) C dX0_init_66 rfl rfl rfl rfl ?_
  refine i_icmp_ge (q := 70) (t := 89) C dX0_init_67 rfl (by decide) (fun h => absurd h (by decide)) (fun _ => ?_)
  refine i_aload_n (q := 71) (i := 1) C dX0_init_70 rfl rfl ?_
  refine i_get (q := 74) (q0 := 0) C dX0_init_71 rfl fl_X0_36 rfl rfl ?_
  refine i_iload_n (q := 75) (i := 0) C dX0_init_74 rfl rfl ?_
  refine i_new (q := 78) (ci := 1) (N := 7) (fs := [.int 0, .int 0, .int 0, .int 0, .int 0, .int 0, .int 0]) C dX0_init_75 rfl (by decide) rfl wl_X0_34 win_1 wii_1 hfs_1 (Nat.le_of_ble_eq_true rfl) (Nat.le_of_ble_eq_true rfl) (fun a7 => ?_)
  refine i_ws (ws' := [(q, eO 0 [.ref a1, .int 0, .int 0, .int 0, .int 0, .int 1, .int 0, .ref a2, .ref a3]), (a1, eI (ca 8) 6 (fun _ => 0)), (a2, eR (ca 9) 8 (va_up (va_up (va_up (fun _ => none) 0 (some a4)) 1 (some a5)) 2 (some a6))), (a3, eI (ca 8) 10 (fun _ => 0)), (a4, eO 1 [.int 0, .int 0, .int 0, .int 0, .int 0, .int 0, .int 0]), (a5, eO 1 [.int 0, .int 0, .int 0, .int 0, .int 0, .int 0, .int 0]), (a6, eO 1 [.int 0, .int 0, .int 0, .int 0, .int 0, .int 0, .int 0]), (a7, eO 1 [.int 0, .int 0, .int 0, .int 0, .int 0, .int 0, .int 0])]) rfl ?_
  refine i_widen (k := 7) (n := 52) (by decide) (by decide) ?_
  refine i_dup (q := 79) C dX0_init_78 rfl rfl ?_
  refine i_initN (q := 82) (k := 7) (wr := [(q, eO 0 [.ref a1, .int 0, .int 0, .int 0, .int 0, .int 1, .int 0, .ref a2, .ref a3]), (a1, eI (ca 8) 6 (fun _ => 0)), (a2, eR (ca 9) 8 (va_up (va_up (va_up (fun _ => none) 0 (some a4)) 1 (some a5)) 2 (some a6))), (a3, eI (ca 8) 10 (fun _ => 0)), (a4, eO 1 [.int 0, .int 0, .int 0, .int 0, .int 0, .int 0, .int 0]), (a5, eO 1 [.int 0, .int 0, .int 0, .int 0, .int 0, .int 0, .int 0]), (a6, eO 1 [.int 0, .int 0, .int 0, .int 0, .int 0, .int 0, .int 0])]) [0, 1, 2, 3, 4, 5, 6] C dX0_init_79 rfl ci_X1 C.2.2.2.2.2.2.1.2.2.1 wn_X1 wii_1 wc_X1 rfl ⟨by decide, by decide, by decide +kernel⟩ rfl rfl (by decide) (by decide) ⟨Nat.le_of_ble_eq_true rfl, Nat.le_of_ble_eq_true rfl⟩ ⟨Nat.le_of_ble_eq_true rfl, Nat.le_of_ble_eq_true rfl⟩ (Nat.le_of_ble_eq_true rfl) (fun w1 hw1 => ?_)
  subst hw1
  refine i_ws (ws' := [(q, eO 0 [.ref a1, .int 0, .int 0, .int 0, .int 0, .int 1, .int 0, .ref a2, .ref a3]), (a1, eI (ca 8) 6 (fun _ => 0)), (a2, eR (ca 9) 8 (va_up (va_up (va_up (fun _ => none) 0 (some a4)) 1 (some a5)) 2 (some a6))), (a3, eI (ca 8) 10 (fun _ => 0)), (a4, eO 1 [.int 0, .int 0, .int 0, .int 0, .int 0, .int 0, .int 0]), (a5, eO 1 [.int 0, .int 0, .int 0, .int 0, .int 0, .int 0, .int 0]), (a6, eO 1 [.int 0, .int 0, .int 0, .int 0, .int 0, .int 0, .int 0]), (a7, eO 1 [.int 0, .int 0, .int 0, .int 0, .int 0, .int 0, .int 0])]) rfl ?_
  refine i_widen (k := 7) (n := 52) (by decide) (by decide) ?_
  refine i_aast (q := 83) (q0 := 2) (qk := 7) (t0 := 3) (ci := 1) (j := 3) (ws' := [(q, eO 0 [.ref a1, .int 0, .int 0, .int 0, .int 0, .int 1, .int 0, .ref a2, .ref a3]), (a1, eI (ca 8) 6 (fun _ => 0)), (a2, eR (ca 9) 8 (va_up (va_up (va_up (va_up (fun _ => none) 0 (some a4)) 1 (some a5)) 2 (some a6)) 3 (some a7))), (a3, eI (ca 8) 10 (fun _ => 0)), (a4, eO 1 [.int 0, .int 0, .int 0, .int 0, .int 0, .int 0, .int 0]), (a5, eO 1 [.int 0, .int 0, .int 0, .int 0, .int 0, .int 0, .int 0]), (a6, eO 1 [.int 0, .int 0, .int 0, .int 0, .int 0, .int 0, .int 0]), (a7, eO 1 [.int 0, .int 0, .int 0, .int 0, .int 0, .int 0, .int 0])]) C dX0_init_82 rfl (by decide) rfl rfl rfl (ix_nI (k := 3) (by decide) (by decide)) rfl ?_
  refine i_iinc (q := 86) (i := 0) (v := 4) (lv' := [(1, .int 4), (0, .ref q)]) C dX0_init_83 rfl rfl (by decide) (by decide) rfl ?_
  refine i_goto (t := 61) C dX0_init_86 (by decide) ?_
  refine i_iload_n (q := 62) (i := 0) C dX0_init_61 rfl rfl ?_
  refine i_aload_n (q := 63) (i := 1) C dX0_init_62 rfl rfl ?_
  refine i_get (q := 66) (q0 := 0) C dX0_init_63 rfl fl_X0_36 rfl rfl ?_
  refine i_alen (q := 67) (q0 := 2) (t0 := 3) (v := 8) C dX0_init_66 rfl rfl rfl rfl ?_
  refine i_icmp_ge (q := 70) (t := 89) C dX0_init_67 rfl (by decide) (fun h => absurd h (by decide)) (fun _ => ?_)
  refine i_aload_n (q := 71) (i := 1) C dX0_init_70 rfl rfl ?_
  refine i_get (q := 74) (q0 := 0) C dX0_init_71 rfl fl_X0_36 rfl rfl ?_
  refine i_iload_n (q := 75) (i := 0) C dX0_init_74 rfl rfl ?_
  refine i_new (q := 78) (ci := 1) (N := 7) (fs := [.int 0, .int 0, .int 0, .int 0, .int 0, .int 0, .int 0]) C dX0_init_75 rfl (by decide) rfl wl_X0_34 win_1 wii_1 hfs_1 (Nat.le_of_ble_eq_true rfl) (Nat.le_of_ble_eq_true rfl) (fun a8 => ?_)
  refine i_ws (ws' := [(q, eO 0 [.ref a1, .int 0, .int 0, .int 0, .int 0, .int 1, .int 0, .ref a2, .ref a3]), (a1, eI (ca 8) 6 (fun _ => 0)), (a2, eR (ca 9) 8 (va_up (va_up (va_up (va_up (fun _ => none) 0 (some a4)) 1 (some a5)) 2 (some a6)) 3 (some a7))), (a3, eI (ca 8) 10 (fun _ => 0)), (a4, eO 1 [.int 0, .int 0, .int 0, .int 0, .int 0, .int 0, .int 0]), (a5, eO 1 [.int 0, .int 0, .int 0, .int 0, .int 0, .int 0, .int 0]), (a6, eO 1 [.int 0, .int 0, .int 0, .int 0, .int 0, .int 0, .int 0]), (a7, eO 1 [.int 0, .int 0, .int 0, .int 0, .int 0, .int 0, .int 0]), (a8, eO 1 [.int 0, .int 0, .int 0, .int 0, .int 0, .int 0, .int 0])]) rfl ?_
  refine i_widen (k := 8) (n := 59) (by decide) (by decide) ?_
  refine i_dup (q := 79) C dX0_init_78 rfl rfl ?_
  refine i_initN (q := 82) (k := 8) (wr := [(q, eO 0 [.ref a1, .int 0, .int 0, .int 0, .int 0, .int 1, .int 0, .ref a2, .ref a3]), (a1, eI (ca 8) 6 (fun _ => 0)), (a2, eR (ca 9) 8 (va_up (va_up (va_up (va_up (fun _ => none) 0 (some a4)) 1 (some a5)) 2 (some a6)) 3 (some a7))), (a3, eI (ca 8) 10 (fun _ => 0)), (a4, eO 1 [.int 0, .int 0, .int 0, .int 0, .int 0, .int 0, .int 0]), (a5, eO 1 [.int 0, .int 0, .int 0, .int 0, .int 0, .int 0, .int 0]), (a6, eO 1 [.int 0, .int 0, .int 0, .int 0, .int 0, .int 0, .int 0]), (a7, eO 1 [.int 0, .int 0, .int 0, .int 0, .int 0, .int 0, .int 0])]) [0, 1, 2, 3, 4, 5, 6, 7] C dX0_init_79 rfl ci_X1 C.2.2.2.2.2.2.1.2.2.1 wn_X1 wii_1 wc_X1 rfl ⟨by decide, by decide, by decide +kernel⟩ rfl rfl (by decide) (by decide) ⟨Nat.le_of_ble_eq_true rfl, Nat.le_of_ble_eq_true rfl⟩ ⟨Nat.le_of_ble_eq_true rfl, Nat.le_of_ble_eq_true rfl⟩ (Nat.le_of_ble_eq_true rfl) (fun w1 hw1 => ?_)
  subst hw1
  refine i_ws (ws' := [(q, eO 0 [.ref a1, .int 0, .int 0, .int 0, .int 0, .int 1, .int 0, .ref a2, .ref a3]), (a1, eI (ca 8) 6 (fun _ => 0)), (a2, eR (ca 9) 8 (va_up (va_up (va_up (va_up (fun _ => none) 0 (some a4)) 1 (some a5)) 2 (some a6)) 3 (some a7))), (a3, eI (ca 8) 10 (fun _ => 0)), (a4, eO 1 [.int 0, .int 0, .int 0, .int 0, .int 0, .int 0, .int 0]), (a5, eO 1 [.int 0, .int 0, .int 0, .int 0, .int 0, .int 0, .int 0]), (a6, eO 1 [.int 0, .int 0, .int 0, .int 0, .int 0, .int 0, .int 0]), (a7, eO 1 [.int 0, .int 0, .int 0, .int 0, .int 0, .int 0, .int 0]), (a8, eO 1 [.int 0, .int 0, .int 0, .int 0, .int 0, .int 0, .int 0])]) rfl ?_
  refine i_widen (k := 8) (n := 59) (by decide) (by decide) ?_
  refine i_aast (q := 83) (q0 := 2) (qk := 8) (t0 := 3) (ci := 1) (j := 4) (ws' := [(q, eO 0 [.ref a1, .int 0, .int 0, .int 0, .int 0, .int 1, .int 0, .ref a2, .ref a3]), (a1, eI (ca 8) 6 (fun _ => 0)), (a2, eR (ca 9) 8 (va_up (va_up (va_up (va_up (va_up (fun _ => none) 0 (some a4)) 1 (some a5)) 2 (some a6)) 3 (some a7)) 4 (some a8))), (a3, eI (ca 8) 10 (fun _ => 0)), (a4, eO 1 [.int 0, .int 0, .int 0, .int 0, .int 0, .int 0, .int 0]), (a5, eO 1 [.int 0, .int 0, .int 0, .int 0, .int 0, .int 0, .int 0]), (a6, eO 1 [.int 0, .int 0, .int 0, .int 0, .int 0, .int 0, .int 0]), (a7, eO 1 [.int 0, .int 0, .int 0, .int 0, .int 0, .int 0, .int 0]), (a8, eO 1 [.int 0, .int 0, .int 0, .int 0, .int 0, .int 0, .int 0])]) C dX0_init_82 rfl (by decide) rfl rfl rfl (ix_nI (k := 4) (by decide) (by decide)) rfl ?_
  refine i_iinc (q := 86) (i := 0) (v := 5) (lv' := [(1, .int 5), (0, .ref q)]) C dX0_init_83 rfl rfl (by decide) (by decide) rfl ?_
  refine i_goto (t := 61) C dX0_init_86 (by decide) ?_
  refine i_iload_n (q := 62) (i := 0) C dX0_init_61 rfl rfl ?_
  refine i_aload_n (q := 63) (i := 1) C dX0_init_62 rfl rfl ?_
  refine i_get (q := 66) (q0 := 0) C dX0_init_63 rfl fl_X0_36 rfl rfl ?_
  refine i_alen (q := 67) (q0 := 2) (t0 := 3) (v := 8) C dX0_init_66 rfl rfl rfl rfl ?_
  refine i_icmp_ge (q := 70) (t := 89) C dX0_init_67 rfl (by decide) (fun h => absurd h (by decide)) (fun _ => ?_)
  refine i_aload_n (q := 71) (i := 1) C dX0_init_70 rfl rfl ?_
  refine i_get (q := 74) (q0 := 0) C dX0_init_71 rfl fl_X0_36 rfl rfl ?_
  refine i_iload_n (q := 75) (i := 0) C dX0_init_74 rfl rfl ?_
  refine i_new (q := 78) (ci := 1) (N := 7) (fs := [.int 0, .int 0, .int 0, .int 0, .int 0, .int 0, .int 0]) C dX0_init_75 rfl (by decide) rfl wl_X0_34 win_1 wii_1 hfs_1 (Nat.le_of_ble_eq_true rfl) (Nat.le_of_ble_eq_true rfl) (fun a9 => ?_)
  refine i_ws (ws' := [(q, eO 0 [.ref a1, .int 0, .int 0, .int 0, .int 0, .int 1, .int 0, .ref a2, .ref a3]), (a1, eI (ca 8) 6 (fun _ => 0)), (a2, eR (ca 9) 8 (va_up (va_up (va_up (va_up (va_up (fun _ => none) 0 (some a4)) 1 (some a5)) 2 (some a6)) 3 (some a7)) 4 (some a8))), (a3, eI (ca 8) 10 (fun _ => 0)), (a4, eO 1 [.int 0, .int 0, .int 0, .int 0, .int 0, .int 0, .int 0]), (a5, eO 1 [.int 0, .int 0, .int 0, .int 0, .int 0, .int 0, .int 0]), (a6, eO 1 [.int 0, .int 0, .int 0, .int 0, .int 0, .int 0, .int 0]), (a7, eO 1 [.int 0, .int 0, .int 0, .int 0, .int 0, .int 0, .int 0]), (a8, eO 1 [.int 0, .int 0, .int 0, .int 0, .int 0, .int 0, .int 0]), (a9, eO 1 [.int 0, .int 0, .int 0, .int 0, .int 0, .int 0, .int 0])]) rfl ?_
  refine i_widen (k := 9) (n := 66) (by decide) (by decide) ?_
  refine i_dup (q := 79) C dX0_init_78 rfl rfl ?_
  refine i_initN (q := 82) (k := 9) (wr := [(q, eO 0 [.ref a1, .int 0, .int 0, .int 0, .int 0, .int 1, .int 0, .ref a2, .ref a3]), (a1, eI (ca 8) 6 (fun _ => 0)), (a2, eR (ca 9) 8 (va_up (va_up (va_up (va_up (va_up (fun _ => none) 0 (some a4)) 1 (some a5)) 2 (some a6)) 3 (some a7)) 4 (some a8))), (a3, eI (ca 8) 10 (fun _ => 0)), (a4, eO 1 [.int 0, .int 0, .int 0, .int 0, .int 0, .int 0, .int 0]), (a5, eO 1 [.int 0, .int 0, .int 0, .int 0, .int 0, .int 0, .int 0]), (a6, eO 1 [.int 0, .int 0, .int 0, .int 0, .int 0, .int 0, .int 0]), (a7, eO 1 [.int 0, .int 0, .int 0, .int 0, .int 0, .int 0, .int 0]), (a8, eO 1 [.int 0, .int 0, .int 0, .int 0, .int 0, .int 0, .int 0])]) [0, 1, 2, 3, 4, 5, 6, 7, 8] C dX0_init_79 rfl ci_X1 C.2.2.2.2.2.2.1.2.2.1 wn_X1 wii_1 wc_X1 rfl ⟨by decide, by decide, by decide +kernel⟩ rfl rfl (by decide) (by decide) ⟨Nat.le_of_ble_eq_true rfl, Nat.le_of_ble_eq_true rfl⟩ ⟨Nat.le_of_ble_eq_true rfl, Nat.le_of_ble_eq_true rfl⟩ (Nat.le_of_ble_eq_true rfl) (fun w1 hw1 => ?_)
  subst hw1
  refine i_ws (ws' := [(q, eO 0 [.ref a1, .int 0, .int 0, .int 0, .int 0, .int 1, .int 0, .ref a2, .ref a3]), (a1, eI (ca 8) 6 (fun _ => 0)), (a2, eR (ca 9) 8 (va_up (va_up (va_up (va_up (va_up (fun _ => none) 0 (some a4)) 1 (some a5)) 2 (some a6)) 3 (some a7)) 4 (some a8))), (a3, eI (ca 8) 10 (fun _ => 0)), (a4, eO 1 [.int 0, .int 0, .int 0, .int 0, .int 0, .int 0, .int 0]), (a5, eO 1 [.int 0, .int 0, .int 0, .int 0, .int 0, .int 0, .int 0]), (a6, eO 1 [.int 0, .int 0, .int 0, .int 0, .int 0, .int 0, .int 0]), (a7, eO 1 [.int 0, .int 0, .int 0, .int 0, .int 0, .int 0, .int 0]), (a8, eO 1 [.int 0, .int 0, .int 0, .int 0, .int 0, .int 0, .int 0]), (a9, eO 1 [.int 0, .int 0, .int 0, .int 0, .int 0, .int 0, .int 0])]) rfl ?_
  refine i_widen (k := 9) (n := 66) (by decide) (by decide) ?_
  refine i_aast (q := 83) (q0 := 2) (qk := 9) (t0 := 3) (ci := 1) (j := 5) (ws' := [(q, eO 0 [.ref a1, .int 0, .int 0, .int 0, .int 0, .int 1, .int 0, .ref a2, .ref a3]), (a1, eI (ca 8) 6 (fun _ => 0)), (a2, eR (ca 9) 8 (va_up (va_up (va_up (va_up (va_up (va_up (fun _ => none) 0 (some a4)) 1 (some a5)) 2 (some a6)) 3 (some a7)) 4 (some a8)) 5 (some a9))), (a3, eI (ca 8) 10 (fun _ => 0)), (a4, eO 1 [.int 0, .int 0, .int 0, .int 0, .int 0, .int 0, .int 0]), (a5, eO 1 [.int 0, .int 0, .int 0, .int 0, .int 0, .int 0, .int 0]), (a6, eO 1 [.int 0, .int 0, .int 0, .int 0, .int 0, .int 0, .int 0]), (a7, eO 1 [.int 0, .int 0, .int 0, .int 0, .int 0, .int 0, .int 0]), (a8, eO 1 [.int 0, .int 0, .int 0, .int 0, .int 0, .int 0, .int 0]), (a9, eO 1 [.int 0, .int 0, .int 0, .int 0, .int 0, .int 0, .int 0])]) C dX0_init_82 rfl (by decide) rfl rfl rfl (ix_nI (k := 5) (by decide) (by decide)) rfl ?_
  refine i_iinc (q := 86) (i := 0) (v := 6) (lv' := [(1, .int 6), (0, .ref q)]) C dX0_init_83 rfl rfl (by decide) (by decide) rfl ?_
  refine i_goto (t := 61) C dX0_init_86 (by decide) ?_
  refine i_iload_n (q := 62) (i := 0) C dX0_init_61 rfl rfl ?_
  refine i_aload_n (q := 63) (i := 1) C dX0_init_62 rfl rfl ?_
  refine i_get (q := 66) (q0 := 0) C dX0_init_63 rfl fl_X0_36 rfl rfl ?_
  refine i_alen (q := 67) (q0 := 2) (t0 := 3) (v := 8) C dX0_init_66 rfl rfl rfl rfl ?_
  refine i_icmp_ge (q := 70) (t := 89) C dX0_init_67 rfl (by decide) (fun h => absurd h (by decide)) (fun _ => ?_)
  refine i_aload_n (q := 71) (i := 1) C dX0_init_70 rfl rfl ?_
  refine i_get (q := 74) (q0 := 0) C dX0_init_71 rfl fl_X0_36 rfl rfl ?_
  refine i_iload_n (q := 75) (i := 0) C dX0_init_74 rfl rfl ?_
  refine i_new (q := 78) (ci := 1) (N := 7) (fs := [.int 0, .int 0, .int 0, .int 0, .int 0, .int 0, .int 0]) C dX0_init_75 rfl (by decide) rfl wl_X0_34 win_1 wii_1 hfs_1 (Nat.le_of_ble_eq_true rfl) (Nat.le_of_ble_eq_true rfl) (fun a10 => ?_)
  refine i_ws (ws' := [(q, eO 0 [.ref a1, .int 0, .int 0, .int 0, .int 0, .int 1, .int 0, .ref a2, .ref a3]), (a1, eI (ca 8) 6 (fun _ => 0)), (a2, eR (ca 9) 8 (va_up (va_up (va_up (va_up (va_up (va_up (fun _ => none) 0 (some a4)) 1 (some a5)) 2 (some a6)) 3 (some a7)) 4 (some a8)) 5 (some a9))), (a3, eI (ca 8) 10 (fun _ => 0)), (a4, eO 1 [.int 0, .int 0, .int 0, .int 0, .int 0, .int 0, .int 0]), (a5, eO 1 [.int 0, .int 0, .int 0, .int 0, .int 0, .int 0, .int 0]), (a6, eO 1 [.int 0, .int 0, .int 0, .int 0, .int 0, .int 0, .int 0]), (a7, eO 1 [.int 0, .int 0, .int 0, .int 0, .int 0, .int 0, .int 0]), (a8, eO 1 [.int 0, .int 0, .int 0, .int 0, .int 0, .int 0, .int 0]), (a9, eO 1 [.int 0, .int 0, .int 0, .int 0, .int 0, .int 0, .int 0]), (a10, eO 1 [.int 0, .int 0, .int 0, .int 0, .int 0, .int 0, .int 0])]) rfl ?_
  refine i_widen (k := 10) (n := 73) (by decide) (by decide) ?_
  refine i_dup (q := 79) C dX0_init_78 rfl rfl ?_
  refine i_initN (q := 82) (k := 10) (wr := [(q, eO 0 [.ref a1, .int 0, .int 0, .int 0, .int 0, .int 1, .int 0, .ref a2, .ref a3]), (a1, eI (ca 8) 6 (fun _ => 0)), (a2, eR (ca 9) 8 (va_up (va_up (va_up (va_up (va_up (va_up (fun _ => none) 0 (some a4)) 1 (some a5)) 2 (some a6)) 3 (some a7)) 4 (some a8)) 5 (some a9))), (a3, eI (ca 8) 10 (fun _ => 0)), (a4, eO 1 [.int 0, .int 0, .int 0, .int 0, .int 0, .int 0, .int 0]), (a5, eO 1 [.int 0, .int 0, .int 0, .int 0, .int 0, .int 0, .int 0]), (a6, eO 1 [.int 0, .int 0, .int 0, .int 0, .int 0, .int 0, .int 0]), (a7, eO 1 [.int 0, .int 0, .int 0, .int 0, .int 0, .int 0, .int 0]), (a8, eO 1 [.int 0, .int 0, .int 0, .int 0, .int 0, .int 0, .int 0]), (a9, eO 1 [.int 0, .int 0, .int 0, .int 0, .int 0, .int 0, .int 0])]) [0, 1, 2, 3, 4, 5, 6, 7, 8, 9] C dX0_init_79 rfl ci_X1 C.2.2.2.2.2.2.1.2.2.1 wn_X1 wii_1 wc_X1 rfl ⟨by decide, by decide, by decide +kernel⟩ rfl rfl (by decide) (by decide) ⟨Nat.le_of_ble_eq_true rfl, Nat.le_of_ble_eq_true rfl⟩ ⟨Nat.le_of_ble_eq_true rfl, Nat.le_of_ble_eq_true rfl⟩ (Nat.le_of_ble_eq_true rfl) (fun w1 hw1 => ?_)
  subst hw1
  refine i_ws (ws' := [(q, eO 0 [.ref a1, .int 0, .int 0, .int 0, .int 0, .int 1, .int 0, .ref a2, .ref a3]), (a1, eI (ca 8) 6 (fun _ => 0)), (a2, eR (ca 9) 8 (va_up (va_up (va_up (va_up (va_up (va_up (fun _ => none) 0 (some a4)) 1 (some a5)) 2 (some a6)) 3 (some a7)) 4 (some a8)) 5 (some a9))), (a3, eI (ca 8) 10 (fun _ => 0)), (a4, eO 1 [.int 0, .int 0, .int 0, .int 0, .int 0, .int 0, .int 0]), (a5, eO 1 [.int 0, .int 0, .int 0, .int 0, .int 0, .int 0, .int 0]), (a6, eO 1 [.int 0, .int 0, .int 0, .int 0, .int 0, .int 0, .int 0]), (a7, eO 1 [.int 0, .int 0, .int 0, .int 0, .int 0, .int 0, .int 0]), (a8, eO 1 [.int 0, .int 0, .int 0, .int 0, .int 0, .int 0, .int 0]), (a9, eO 1 [.int 0, .int 0, .int 0, .int 0, .int 0, .int 0, .int 0]), (a10, eO 1 [.int 0, .int 0, .int 0, .int 0, .int 0, .int 0, .int 0])]) rfl ?_
  refine i_widen (k := 10) (n := 73) (by decide) (by decide) ?_
  refine i_aast (q := 83) (q0 := 2) (qk := 10) (t0 := 3) (ci := 1) (j := 6) (ws' := [(q, eO 0 [.ref a1, .int 0, .int 0, .int 0, .int 0, .int 1, .int 0, .ref a2, .ref a3]), (a1, eI (ca 8) 6 (fun _ => 0)), (a2, eR (ca 9) 8 (va_up (va_up (va_up (va_up (va_up (va_up (va_up (fun _ => none) 0 (some a4)) 1 (some a5)) 2 (some a6)) 3 (some a7)) 4 (some a8)) 5 (some a9)) 6 (some a10))), (a3, eI (ca 8) 10 (fun _ => 0)), (a4, eO 1 [.int 0, .int 0, .int 0, .int 0, .int 0, .int 0, .int 0]), (a5, eO 1 [.int 0, .int 0, .int 0, .int 0, .int 0, .int 0, .int 0]), (a6, eO 1 [.int 0, .int 0, .int 0, .int 0, .int 0, .int 0, .int 0]), (a7, eO 1 [.int 0, .int 0, .int 0, .int 0, .int 0, .int 0, .int 0]), (a8, eO 1 [.int 0, .int 0, .int 0, .int 0, .int 0, .int 0, .int 0]), (a9, eO 1 [.int 0, .int 0, .int 0, .int 0, .int 0, .int 0, .int 0]), (a10, eO 1 [.int 0, .int 0, .int 0, .int 0, .int 0, .int 0, .int 0])]) C dX0_init_82 rfl (by decide) rfl rfl rfl (ix_nI (k := 6) (by decide) (by decide)) rfl ?_
  refine i_iinc (q := 86) (i := 0) (v := 7) (lv' := [(1, .int 7), (0, .ref q)]) C dX0_init_83 rfl rfl (by decide) (by decide) rfl ?_
  refine i_goto (t := 61) C dX0_init_86 (by decide) ?_
  refine i_iload_n (q := 62) (i := 0) C dX0_init_61 rfl rfl ?_
  refine i_aload_n (q := 63) (i := 1) C dX0_init_62 rfl rfl ?_
  refine i_get (q := 66) (q0 := 0) C dX0_init_63 rfl fl_X0_36 rfl rfl ?_
  refine i_alen (q := 67) (q0 := 2) (t0 := 3) (v := 8) C dX0_init_66 rfl rfl rfl rfl ?_
  refine i_icmp_ge (q := 70) (t := 89) C dX0_init_67 rfl (by decide) (fun h => absurd h (by decide)) (fun _ => ?_)
  refine i_aload_n (q := 71) (i := 1) C dX0_init_70 rfl rfl ?_
  refine i_get (q := 74) (q0 := 0) C dX0_init_71 rfl fl_X0_36 rfl rfl ?_
  refine i_iload_n (q := 75) (i := 0) C dX0_init_74 rfl rfl ?_
  refine i_new (q := 78) (ci := 1) (N := 7) (fs := [.int 0, .int 0, .int 0, .int 0, .int 0, .int 0, .int 0]) C dX0_init_75 rfl (by decide) rfl wl_X0_34 win_1 wii_1 hfs_1 (Nat.le_of_ble_eq_true rfl) (Nat.le_of_ble_eq_true rfl) (fun a11 => ?_)
  refine i_ws (ws' := [(q, eO 0 [.ref a1, .int 0, .int 0, .int 0, .int 0, .int 1, .int 0, .ref a2, .ref a3]), (a1, eI (ca 8) 6 (fun _ => 0)), (a2, eR (ca 9) 8 (va_up (va_up (va_up (va_up (va_up (va_up (va_up (fun _ => none) 0 (some a4)) 1 (some a5)) 2 (some a6)) 3 (some a7)) 4 (some a8)) 5 (some a9)) 6 (some a10))), (a3, eI (ca 8) 10 (fun _ => 0)), (a4, eO 1 [.int 0, .int 0, .int 0, .int 0, .int 0, .int 0, .int 0]), (a5, eO 1 [.int 0, .int 0, .int 0, .int 0, .int 0, .int 0, .int 0]), (a6, eO 1 [.int 0, .int 0, .int 0, .int 0, .int 0, .int 0, .int 0]), (a7, eO 1 [.int 0, .int 0, .int 0, .int 0, .int 0, .int 0, .int 0]), (a8, eO 1 [.int 0, .int 0, .int 0, .int 0, .int 0, .int 0, .int 0]), (a9, eO 1 [.int 0, .int 0, .int 0, .int 0, .int 0, .int 0, .int 0]), (a10, eO 1 [.int 0, .int 0, .int 0, .int 0, .int 0, .int 0, .int 0]), (a11, eO 1 [.int 0, .int 0, .int 0, .int 0, .int 0, .int 0, .int 0])]) rfl ?_
  refine i_widen (k := 11) (n := 80) (by decide) (by decide) ?_
  refine i_dup (q := 79) C dX0_init_78 rfl rfl ?_
  refine i_initN (q := 82) (k := 11) (wr := [(q, eO 0 [.ref a1, .int 0, .int 0, .int 0, .int 0, .int 1, .int 0, .ref a2, .ref a3]), (a1, eI (ca 8) 6 (fun _ => 0)), (a2, eR (ca 9) 8 (va_up (va_up (va_up (va_up (va_up (va_up (va_up (fun _ => none) 0 (some a4)) 1 (some a5)) 2 (some a6)) 3 (some a7)) 4 (some a8)) 5 (some a9)) 6 (some a10))), (a3, eI (ca 8) 10 (fun _ => 0)), (a4, eO 1 [.int 0, .int 0, .int 0, .int 0, .int 0, .int 0, .int 0]), (a5, eO 1 [.int 0, .int 0, .int 0, .int 0, .int 0, .int 0, .int 0]), (a6, eO 1 [.int 0, .int 0, .int 0, .int 0, .int 0, .int 0, .int 0]), (a7, eO 1 [.int 0, .int 0, .int 0, .int 0, .int 0, .int 0, .int 0]), (a8, eO 1 [.int 0, .int 0, .int 0, .int 0, .int 0, .int 0, .int 0]), (a9, eO 1 [.int 0, .int 0, .int 0, .int 0, .int 0, .int 0, .int 0]), (a10, eO 1 [.int 0, .int 0, .int 0, .int 0, .int 0, .int 0, .int 0])]) [0, 1, 2, 3, 4, 5, 6, 7, 8, 9, 10] C dX0_init_79 rfl ci_X1 C.2.2.2.2.2.2.1.2.2.1 wn_X1 wii_1 wc_X1 rfl ⟨by decide, by decide, by decide +kernel⟩ rfl rfl (by decide) (by decide) ⟨Nat.le_of_ble_eq_true rfl, Nat.le_of_ble_eq_true rfl⟩ ⟨Nat.le_of_ble_eq_true rfl, Nat.le_of_ble_eq_true rfl⟩ (Nat.le_of_ble_eq_true rfl) (fun w1 hw1 => ?_)
  subst hw1
  refine i_ws (ws' := [(q, eO 0 [.ref a1, .int 0, .int 0, .int 0, .int 0, .int 1, .int 0, .ref a2, .ref a3]), (a1, eI (ca 8) 6 (fun _ => 0)), (a2, eR (ca 9) 8 (va_up (va_up (va_up (va_up (va_up (va_up (va_up (fun _ => none) 0 (some a4)) 1 (some a5)) 2 (some a6)) 3 (some a7)) 4 (some a8)) 5 (some a9)) 6 (some a10))), (a3, eI (ca 8) 10 (fun _ => 0)), (a4, eO 1 [.int 0, .int 0, .int 0, .int 0, .int 0, .int 0, .int 0]), (a5, eO 1 [.int 0, .int 0, .int 0, .int 0, .int 0, .int 0, .int 0]), (a6, eO 1 [.int 0, .int 0, .int 0, .int 0, .int 0, .int 0, .int 0]), (a7, eO 1 [.int 0, .int 0, .int 0, .int 0, .int 0, .int 0, .int 0]), (a8, eO 1 [.int 0, .int 0, .int 0, .int 0, .int 0, .int 0, .int 0]), (a9, eO 1 [.int 0, .int 0, .int 0, .int 0, .int 0, .int 0, .int 0]), (a10, eO 1 [.int 0, .int 0, .int 0, .int 0, .int 0, .int 0, .int 0]), (a11, eO 1 [.int 0, .int 0, .int 0, .int 0, .int 0, .int 0, .int 0])]) rfl ?_
  refine i_widen (k := 11) (n := 80) (by decide) (by decide) ?_
  refine i_aast (q := 83) (q0 := 2) (qk := 11) (t0 := 3) (ci := 1) (j := 7) (ws' := [(q, eO 0 [.ref a1, .int 0, .int 0, .int 0, .int 0, .int 1, .int 0, .ref a2, .ref a3]), (a1, eI (ca 8) 6 (fun _ => 0)), (a2, eR (ca 9) 8 (va_up (va_up (va_up (va_up (va_up (va_up (va_up (va_up (fun _ => none) 0 (some a4)) 1 (some a5)) 2 (some a6)) 3 (some a7)) 4 (some a8)) 5 (some a9)) 6 (some a10)) 7 (some a11))), (a3, eI (ca 8) 10 (fun _ => 0)), (a4, eO 1 [.int 0, .int 0, .int 0, .int 0, .int 0, .int 0, .int 0]), (a5, eO 1 [.int 0, .int 0, .int 0, .int 0, .int 0, .int 0, .int 0]), (a6, eO 1 [.int 0, .int 0, .int 0, .int 0, .int 0, .int 0, .int 0]), (a7, eO 1 [.int 0, .int 0, .int 0, .int 0, .int 0, .int 0, .int 0]), (a8, eO 1 [.int 0, .int 0, .int 0, .int 0, .int 0, .int 0, .int 0]), (a9, eO 1 [.int 0, .int 0, .int 0, .int 0, .int 0, .int 0, .int 0]), (a10, eO 1 [.int 0, .int 0, .int 0, .int 0, .int 0, .int 0, .int 0]), (a11, eO 1 [.int 0, .int 0, .int 0, .int 0, .int 0, .int 0, .int 0])]) C dX0_init_82 rfl (by decide) rfl rfl rfl (ix_nI (k := 7) (by decide) (by decide)) rfl ?_
  refine i_iinc (q := 86) (i := 0) (v := 8) (lv' := [(1, .int 8), (0, .ref q)]) C dX0_init_83 rfl rfl (by decide) (by decide) rfl ?_
  refine i_goto (t := 61) C dX0_init_86 (by decide) ?_
  refine i_iload_n (q := 62) (i := 0) C dX0_init_61 rfl rfl ?_
  refine i_aload_n (q := 63) (i := 1) C dX0_init_62 rfl rfl ?_
  refine i_get (q := 66) (q0 := 0) C dX0_init_63 rfl fl_X0_36 rfl rfl ?_
  refine i_alen (q := 67) (q0 := 2) (t0 := 3) (v := 8) C dX0_init_66 rfl rfl rfl rfl ?_
  refine i_icmp_ge (q := 70) (t := 89) C dX0_init_67 rfl (by decide) (fun _ => ?_) (fun h => absurd (by decide) h)
  refine i_iconst (q := 90) (v := 0) C dX0_init_89 rfl (by decide) ?_
  refine i_istore_n (q := 91) (lv' := [(1, .int 0), (0, .ref q)]) C dX0_init_90 rfl (by decide) rfl ?_
  refine i_iload_n (q := 92) (i := 0) C dX0_init_91 rfl rfl ?_
  refine i_aload_n (q := 93) (i := 1) C dX0_init_92 rfl rfl ?_
  refine i_get (q := 96) (q0 := 0) C dX0_init_93 rfl fl_X0_40 rfl rfl ?_
  refine i_alen (q := 97) (q0 := 3) (t0 := 2) (v := 10) C dX0_init_96 rfl rfl rfl rfl ?_
  refine i_icmp_ge (q := 100) (t := 113) C dX0_init_97 rfl (by decide) (fun h => absurd h (by decide)) (fun _ => ?_)
  refine i_aload_n (q := 101) (i := 1) C dX0_init_100 rfl rfl ?_
  refine i_get (q := 104) (q0 := 0) C dX0_init_101 rfl fl_X0_40 rfl rfl ?_
  refine i_iload_n (q := 105) (i := 0) C dX0_init_104 rfl rfl ?_
  refine i_iconst (q := 106) (v := (-1)) C dX0_init_105 rfl (by decide) ?_
  refine i_iast (q := 107) (q0 := 3) (j := 0) (f' := (spN 1)) (ws' := [(q, eO 0 [.ref a1, .int 0, .int 0, .int 0, .int 0, .int 1, .int 0, .ref a2, .ref a3]), (a1, eI (ca 8) 6 (fun _ => 0)), (a2, eR (ca 9) 8 (va_up (va_up (va_up (va_up (va_up (va_up (va_up (va_up (fun _ => none) 0 (some a4)) 1 (some a5)) 2 (some a6)) 3 (some a7)) 4 (some a8)) 5 (some a9)) 6 (some a10)) 7 (some a11))), (a3, eI (ca 8) 10 (spN 1)), (a4, eO 1 [.int 0, .int 0, .int 0, .int 0, .int 0, .int 0, .int 0]), (a5, eO 1 [.int 0, .int 0, .int 0, .int 0, .int 0, .int 0, .int 0]), (a6, eO 1 [.int 0, .int 0, .int 0, .int 0, .int 0, .int 0, .int 0]), (a7, eO 1 [.int 0, .int 0, .int 0, .int 0, .int 0, .int 0, .int 0]), (a8, eO 1 [.int 0, .int 0, .int 0, .int 0, .int 0, .int 0, .int 0]), (a9, eO 1 [.int 0, .int 0, .int 0, .int 0, .int 0, .int 0, .int 0]), (a10, eO 1 [.int 0, .int 0, .int 0, .int 0, .int 0, .int 0, .int 0]), (a11, eO 1 [.int 0, .int 0, .int 0, .int 0, .int 0, .int 0, .int 0])]) C dX0_init_106 rfl rfl (ix_nI (k := 0) (by decide) (by decide)) sp_0 rfl ?_
  refine i_iinc (q := 110) (i := 0) (v := 1) (lv' := [(1, .int 1), (0, .ref q)]) C dX0_init_107 rfl rfl (by decide) (by decide) rfl ?_
  refine i_goto (t := 91) C dX0_init_110 (by decide) ?_
  refine i_iload_n (q := 92) (i := 0) C dX0_init_91 rfl rfl ?_
  refine i_aload_n (q := 93) (i := 1) C dX0_init_92 rfl rfl ?_
  refine i_get (q := 96) (q0 := 0) C dX0_init_93 rfl fl_X0_40 rfl rfl ?_
  refine i_alen (q := 97) (q0 := 3) (t0 := 2) (v := 10) C dX0_init_96 rfl rfl rfl rfl ?_
  refine i_icmp_ge (q := 100) (t := 113) C dX0_init_97 rfl (by decide) (fun h => absurd h (by decide)) (fun _ => ?_)
  refine i_aload_n (q := 101) (i := 1) C dX0_init_100 rfl rfl ?_
  refine i_get (q := 104) (q0 := 0) C dX0_init_101 rfl fl_X0_40 rfl rfl ?_
  refine i_iload_n (q := 105) (i := 0) C dX0_init_104 rfl rfl ?_
  refine i_iconst (q := 106) (v := (-1)) C dX0_init_105 rfl (by decide) ?_
  refine i_iast (q := 107) (q0 := 3) (j := 1) (f' := (spN 2)) (ws' := [(q, eO 0 [.ref a1, .int 0, .int 0, .int 0, .int 0, .int 1, .int 0, .ref a2, .ref a3]), (a1, eI (ca 8) 6 (fun _ => 0)), (a2, eR (ca 9) 8 (va_up (va_up (va_up (va_up (va_up (va_up (va_up (va_up (fun _ => none) 0 (some a4)) 1 (some a5)) 2 (some a6)) 3 (some a7)) 4 (some a8)) 5 (some a9)) 6 (some a10)) 7 (some a11))), (a3, eI (ca 8) 10 (spN 2)), (a4, eO 1 [.int 0, .int 0, .int 0, .int 0, .int 0, .int 0, .int 0]), (a5, eO 1 [.int 0, .int 0, .int 0, .int 0, .int 0, .int 0, .int 0]), (a6, eO 1 [.int 0, .int 0, .int 0, .int 0, .int 0, .int 0, .int 0]), (a7, eO 1 [.int 0, .int 0, .int 0, .int 0, .int 0, .int 0, .int 0]), (a8, eO 1 [.int 0, .int 0, .int 0, .int 0, .int 0, .int 0, .int 0]), (a9, eO 1 [.int 0, .int 0, .int 0, .int 0, .int 0, .int 0, .int 0]), (a10, eO 1 [.int 0, .int 0, .int 0, .int 0, .int 0, .int 0, .int 0]), (a11, eO 1 [.int 0, .int 0, .int 0, .int 0, .int 0, .int 0, .int 0])]) C dX0_init_106 rfl rfl (ix_nI (k := 1) (by decide) (by decide)) (sp_s 1) rfl ?_
  refine i_iinc (q := 110) (i := 0) (v := 2) (lv' := [(1, .int 2), (0, .ref q)]) C dX0_init_107 rfl rfl (by decide) (by decide) rfl ?_
  refine i_goto (t := 91) C dX0_init_110 (by decide) ?_
  refine i_iload_n (q := 92) (i := 0) C dX0_init_91 rfl rfl ?_
  refine i_aload_n (q := 93) (i := 1) C dX0_init_92 rfl rfl ?_
  refine i_get (q := 96) (q0 := 0) C dX0_init_93 rfl fl_X0_40 rfl rfl ?_
  refine i_alen (q := 97) (q0 := 3) (t0 := 2) (v := 10) C dX0_init_96 rfl rfl rfl rfl ?_
  refine i_icmp_ge (q := 100) (t := 113) C dX0_init_97 rfl (by decide) (fun h => absurd h (by decide)) (fun _ => ?_)
  refine i_aload_n (q := 101) (i := 1) C dX0_init_100 rfl rfl ?_
  refine i_get (q := 104) (q0 := 0) C dX0_init_101 rfl fl_X0_40 rfl rfl ?_
  refine i_iload_n (q := 105) (i := 0) C dX0_init_104 rfl rfl ?_
  refine i_iconst (q := 106) (v := (-1)) C dX0_init_105 rfl (by decide) ?_
  refine i_iast (q := 107) (q0 := 3) (j := 2) (f' := (spN 3)) (ws' := [(q, eO 0 [.ref a1, .int 0, .int 0, .int 0, .int 0, .int 1, .int 0, .ref a2, .ref a3]), (a1, eI (ca 8) 6 (fun _ => 0)), (a2, eR (ca 9) 8 (va_up (va_up (va_up (va_up (va_up (va_up (va_up (va_up (fun _ => none) 0 (some a4)) 1 (some a5)) 2 (some a6)) 3 (some a7)) 4 (some a8)) 5 (some a9)) 6 (some a10)) 7 (some a11))), (a3, eI (ca 8) 10 (spN 3)), (a4, eO 1 [.int 0, .int 0, .int 0, .int 0, .int 0, .int 0, .int 0]), (a5, eO 1 [.int 0, .int 0, .int 0, .int 0, .int 0, .int 0, .int 0]), (a6, eO 1 [.int 0, .int 0, .int 0, .int 0, .int 0, .int 0, .int 0]), (a7, eO 1 [.int 0, .int 0, .int 0, .int 0, .int 0, .int 0, .int 0]), (a8, eO 1 [.int 0, .int 0, .int 0, .int 0, .int 0, .int 0, .int 0]), (a9, eO 1 [.int 0, .int 0, .int 0, .int 0, .int 0, .int 0, .int 0]), (a10, eO 1 [.int 0, .int 0, .int 0, .int 0, .int 0, .int 0, .int 0]), (a11, eO 1 [.int 0, .int 0, .int 0, .int 0, .int 0, .int 0, .int 0])]) C dX0_init_106 rfl rfl (ix_nI (k := 2) (by decide) (by decide)) (sp_s 2) rfl ?_
  refine i_iinc (q := 110) (i := 0) (v := 3) (lv' := [(1, .int 3), (0, .ref q)]) C dX0_init_107 rfl rfl (by decide) (by decide) rfl ?_
  refine i_goto (t := 91) C dX0_init_110 (by decide) ?_
  refine i_iload_n (q := 92) (i := 0) C dX0_init_91 rfl rfl ?_
  refine i_aload_n (q := 93) (i := 1) C dX0_init_92 rfl rfl ?_
  refine i_get (q := 96) (q0 := 0) C dX0_init_93 rfl fl_X0_40 rfl rfl ?_
  refine i_alen (q := 97) (q0 := 3) (t0 := 2) (v := 10) C dX0_init_96 rfl rfl rfl rfl ?_
  refine i_icmp_ge (q := 100) (t := 113) C dX0_init_97 rfl (by decide) (fun h => absurd h (by decide)) (fun _ => ?_)
  refine i_aload_n (q := 101) (i := 1) C dX0_init_100 rfl rfl ?_
  refine i_get (q := 104) (q0 := 0) C dX0_init_101 rfl fl_X0_40 rfl rfl ?_
  refine i_iload_n (q := 105) (i := 0) C dX0_init_104 rfl rfl ?_
  refine i_iconst (q := 106) (v := (-1)) C dX0_init_105 rfl (by decide) ?_
  refine i_iast (q := 107) (q0 := 3) (j := 3) (f' := (spN 4)) (ws' := [(q, eO 0 [.ref a1, .int 0, .int 0, .int 0, .int 0, .int 1, .int 0, .ref a2, .ref a3]), (a1, eI (ca 8) 6 (fun _ => 0)), (a2, eR (ca 9) 8 (va_up (va_up (va_up (va_up (va_up (va_up (va_up (va_up (fun _ => none) 0 (some a4)) 1 (some a5)) 2 (some a6)) 3 (some a7)) 4 (some a8)) 5 (some a9)) 6 (some a10)) 7 (some a11))), (a3, eI (ca 8) 10 (spN 4)), (a4, eO 1 [.int 0, .int 0, .int 0, .int 0, .int 0, .int 0, .int 0]), (a5, eO 1 [.int 0, .int 0, .int 0, .int 0, .int 0, .int 0, .int 0]), (a6, eO 1 [.int 0, .int 0, .int 0, .int 0, .int 0, .int 0, .int 0]), (a7, eO 1 [.int 0, .int 0, .int 0, .int 0, .int 0, .int 0, .int 0]), (a8, eO 1 [.int 0, .int 0, .int 0, .int 0, .int 0, .int 0, .int 0]), (a9, eO 1 [.int 0, .int 0, .int 0, .int 0, .int 0, .int 0, .int 0]), (a10, eO 1 [.int 0, .int 0, .int 0, .int 0, .int 0, .int 0, .int 0]), (a11, eO 1 [.int 0, .int 0, .int 0, .int 0, .int 0, .int 0, .int 0])]) C dX0_init_106 rfl rfl (ix_nI (k := 3) (by decide) (by decide)) (sp_s 3) rfl ?_
  refine i_iinc (q := 110) (i := 0) (v := 4) (lv' := [(1, .int 4), (0, .ref q)]) C dX0_init_107 rfl rfl (by decide) (by decide) rfl ?_
  refine i_goto (t := 91) C dX0_init_110 (by decide) ?_
  refine i_iload_n (q := 92) (i := 0) C dX0_init_91 rfl rfl ?_
  refine i_aload_n (q := 93) (i := 1) C dX0_init_92 rfl rfl ?_
  refine i_get (q := 96) (q0 := 0) C dX0_init_93 rfl fl_X0_40 rfl rfl ?_
  refine i_alen (q := 97) (q0 := 3) (t0 := 2) (v := 10) C dX0_init_96 rfl rfl rfl rfl ?_
  refine i_icmp_ge (q := 100) (t := 113) C dX0_init_97 rfl (by decide) (fun h => absurd h (by decide)) (fun _ => ?_)
  refine i_aload_n (q := 101) (i := 1) C dX0_init_100 rfl rfl ?_
  refine i_get (q := 104) (q0 := 0) C dX0_init_101 rfl fl_X0_40 rfl rfl ?_
  refine i_iload_n (q := 105) (i := 0) C dX0_init_104 rfl rfl ?_
  refine i_iconst (q := 106) (v := (-1)) C dX0_init_105 rfl (by decide) ?_
  refine i_iast (q := 107) (q0 := 3) (j := 4) (f' := (spN 5)) (ws' := [(q, eO 0 [.ref a1, .int 0, .int 0, .int 0, .int 0, .int 1, .int 0, .ref a2, .ref a3]), (a1, eI (ca 8) 6 (fun _ => 0)), (a2, eR (ca 9) 8 (va_up (va_up (va_up (va_up (va_up (va_up (va_up (va_up (fun _ => none) 0 (some a4)) 1 (some a5)) 2 (some a6)) 3 (some a7)) 4 (some a8)) 5 (some a9)) 6 (some a10)) 7 (some a11))), (a3, eI (ca 8) 10 (spN 5)), (a4, eO 1 [.int 0, .int 0, .int 0, .int 0, .int 0, .int 0, .int 0]), (a5, eO 1 [.int 0, .int 0, .int 0, .int 0, .int 0, .int 0, .int 0]), (a6, eO 1 [.int 0, .int 0, .int 0, .int 0, .int 0, .int 0, .int 0]), (a7, eO 1 [.int 0, .int 0, .int 0, .int 0, .int 0, .int 0, .int 0]), (a8, eO 1 [.int 0, .int 0, .int 0, .int 0, .int 0, .int 0, .int 0]), (a9, eO 1 [.int 0, .int 0, .int 0, .int 0, .int 0, .int 0, .int 0]), (a10, eO 1 [.int 0, .int 0, .int 0, .int 0, .int 0, .int 0, .int 0]), (a11, eO 1 [.int 0, .int 0, .int 0, .int 0, .int 0, .int 0, .int 0])]) C dX0_init_106 rfl rfl (ix_nI (k := 4) (by decide) (by decide)) (sp_s 4) rfl ?_
  refine i_iinc (q := 110) (i := 0) (v := 5) (lv' := [(1, .int 5), (0, .ref q)]) C dX0_init_107 rfl rfl (by decide) (by decide) rfl ?_
  refine i_goto (t := 91) C dX0_init_110 (by decide) ?_
  refine i_iload_n (q := 92) (i := 0) C dX0_init_91 rfl rfl ?_
  refine i_aload_n (q := 93) (i := 1) C dX0_init_92 rfl rfl ?_
  refine i_get (q := 96) (q0 := 0) C dX0_init_93 rfl fl_X0_40 rfl rfl ?_
  refine i_alen (q := 97) (q0 := 3) (t0 := 2) (v := 10) C dX0_init_96 rfl rfl rfl rfl ?_
  refine i_icmp_ge (q := 100) (t := 113) C dX0_init_97 rfl (by decide) (fun h => absurd h (by decide)) (fun _ => ?_)
  refine i_aload_n (q := 101) (i := 1) C dX0_init_100 rfl rfl ?_
  refine i_get (q := 104) (q0 := 0) C dX0_init_101 rfl fl_X0_40 rfl rfl ?_
  refine i_iload_n (q := 105) (i := 0) C dX0_init_104 rfl rfl ?_
  refine i_iconst (q := 106) (v := (-1)) C dX0_init_105 rfl (by decide) ?_
  refine i_iast (q := 107) (q0 := 3) (j := 5) (f' := (spN 6)) (ws' := [(q, eO 0 [.ref a1, .int 0, .int 0, .int 0, .int 0, .int 1, .int 0, .ref a2, .ref a3]), (a1, eI (ca 8) 6 (fun _ => 0)), (a2, eR (ca 9) 8 (va_up (va_up (va_up (va_up (va_up (va_up (va_up (va_up (fun _ => none) 0 (some a4)) 1 (some a5)) 2 (some a6)) 3 (some a7)) 4 (some a8)) 5 (some a9)) 6 (some a10)) 7 (some a11))), (a3, eI (ca 8) 10 (spN 6)), (a4, eO 1 [.int 0, .int 0, .int 0, .int 0, .int 0, .int 0, .int 0]), (a5, eO 1 [.int 0, .int 0, .int 0, .int 0, .int 0, .int 0, .int 0]), (a6, eO 1 [.int 0, .int 0, .int 0, .int 0, .int 0, .int 0, .int 0]), (a7, eO 1 [.int 0, .int 0, .int 0, .int 0, .int 0, .int 0, .int 0]), (a8, eO 1 [.int 0, .int 0, .int 0, .int 0, .int 0, .int 0, .int 0]), (a9, eO 1 [.int 0, .int 0, .int 0, .int 0, .int 0, .int 0, .int 0]), (a10, eO 1 [.int 0, .int 0, .int 0, .int 0, .int 0, .int 0, .int 0]), (a11, eO 1 [.int 0, .int 0, .int 0, .int 0, .int 0, .int 0, .int 0])]) C dX0_init_106 rfl rfl (ix_nI (k := 5) (by decide) (by decide)) (sp_s 5) rfl ?_
  refine i_iinc (q := 110) (i := 0) (v := 6) (lv' := [(1, .int 6), (0, .ref q)]) C dX0_init_107 rfl rfl (by decide) (by decide) rfl ?_
  refine i_goto (t := 91) C dX0_init_110 (by decide) ?_
  refine i_iload_n (q := 92) (i := 0) C dX0_init_91 rfl rfl ?_
  refine i_aload_n (q := 93) (i := 1) C dX0_init_92 rfl rfl ?_
  refine i_get (q := 96) (q0 := 0) C dX0_init_93 rfl fl_X0_40 rfl rfl ?_
  refine i_alen (q := 97) (q0 := 3) (t0 := 2) (v := 10) C dX0_init_96 rfl rfl rfl rfl ?_
  refine i_icmp_ge (q := 100) (t := 113) C dX0_init_97 rfl (by decide) (fun h => absurd h (by decide)) (fun _ => ?_)
  refine i_aload_n (q := 101) (i := 1) C dX0_init_100 rfl rfl ?_
  refine i_get (q := 104) (q0 := 0) C dX0_init_101 rfl fl_X0_40 rfl rfl ?_
  refine i_iload_n (q := 105) (i := 0) C dX0_init_104 rfl rfl ?_
  refine i_iconst (q := 106) (v := (-1)) C dX0_init_105 rfl (by decide) ?_
  refine i_iast (q := 107) (q0 := 3) (j := 6) (f' := (spN 7)) (ws' := [(q, eO 0 [.ref a1, .int 0, .int 0, .int 0, .int 0, .int 1, .int 0, .ref a2, .ref a3]), (a1, eI (ca 8) 6 (fun _ => 0)), (a2, eR (ca 9) 8 (va_up (va_up (va_up (va_up (va_up (va_up (va_up (va_up (fun _ => none) 0 (some a4)) 1 (some a5)) 2 (some a6)) 3 (some a7)) 4 (some a8)) 5 (some a9)) 6 (some a10)) 7 (some a11))), (a3, eI (ca 8) 10 (spN 7)), (a4, eO 1 [.int 0, .int 0, .int 0, .int 0, .int 0, .int 0, .int 0]), (a5, eO 1 [.int 0, .int 0, .int 0, .int 0, .int 0, .int 0, .int 0]), (a6, eO 1 [.int 0, .int 0, .int 0, .int 0, .int 0, .int 0, .int 0]), (a7, eO 1 [.int 0, .int 0, .int 0, .int 0, .int 0, .int 0, .int 0]), (a8, eO 1 [.int 0, .int 0, .int 0, .int 0, .int 0, .int 0, .int 0]), (a9, eO 1 [.int 0, .int 0, .int 0, .int 0, .int 0, .int 0, .int 0]), (a10, eO 1 [.int 0, .int 0, .int 0, .int 0, .int 0, .int 0, .int 0]), (a11, eO 1 [.int 0, .int 0, .int 0, .int 0, .int 0, .int 0, .int 0])]) C dX0_init_106 rfl rfl (ix_nI (k := 6) (by decide) (by decide)) (sp_s 6) rfl ?_
  refine i_iinc (q := 110) (i := 0) (v := 7) (lv' := [(1, .int 7), (0, .ref q)]) C dX0_init_107 rfl rfl (by decide) (by decide) rfl ?_
  refine i_goto (t := 91) C dX0_init_110 (by decide) ?_
  refine i_iload_n (q := 92) (i := 0) C dX0_init_91 rfl rfl ?_
  refine i_aload_n (q := 93) (i := 1) C dX0_init_92 rfl rfl ?_
  refine i_get (q := 96) (q0 := 0) C dX0_init_93 rfl fl_X0_40 rfl rfl ?_
  refine i_alen (q := 97) (q0 := 3) (t0 := 2) (v := 10) C dX0_init_96 rfl rfl rfl rfl ?_
  refine i_icmp_ge (q := 100) (t := 113) C dX0_init_97 rfl (by decide) (fun h => absurd h (by decide)) (fun _ => ?_)
  refine i_aload_n (q := 101) (i := 1) C dX0_init_100 rfl rfl ?_
  refine i_get (q := 104) (q0 := 0) C dX0_init_101 rfl fl_X0_40 rfl rfl ?_
  refine i_iload_n (q := 105) (i := 0) C dX0_init_104 rfl rfl ?_
  refine i_iconst (q := 106) (v := (-1)) C dX0_init_105 rfl (by decide) ?_
  refine i_iast (q := 107) (q0 := 3) (j := 7) (f' := (spN 8)) (ws' := [(q, eO 0 [.ref a1, .int 0, .int 0, .int 0, .int 0, .int 1, .int 0, .ref a2, .ref a3]), (a1, eI (ca 8) 6 (fun _ => 0)), (a2, eR (ca 9) 8 (va_up (va_up (va_up (va_up (va_up (va_up (va_up (va_up (fun _ => none) 0 (some a4)) 1 (some a5)) 2 (some a6)) 3 (some a7)) 4 (some a8)) 5 (some a9)) 6 (some a10)) 7 (some a11))), (a3, eI (ca 8) 10 (spN 8)), (a4, eO 1 [.int 0, .int 0, .int 0, .int 0, .int 0, .int 0, .int 0]), (a5, eO 1 [.int 0, .int 0, .int 0, .int 0, .int 0, .int 0, .int 0]), (a6, eO 1 [.int 0, .int 0, .int 0, .int 0, .int 0, .int 0, .int 0]), (a7, eO 1 [.int 0, .int 0, .int 0, .int 0, .int 0, .int 0, .int 0]), (a8, eO 1 [.int 0, .int 0, .int 0, .int 0, .int 0, .int 0, .int 0]), (a9, eO 1 [.int 0, .int 0, .int 0, .int 0, .int 0, .int 0, .int 0]), (a10, eO 1 [.int 0, .int 0, .int 0, .int 0, .int 0, .int 0, .int 0]), (a11, eO 1 [.int 0, .int 0, .int 0, .int 0, .int 0, .int 0, .int 0])]) C dX0_init_106 rfl rfl (ix_nI (k := 7) (by decide) (by decide)) (sp_s 7) rfl ?_
  refine i_iinc (q := 110) (i := 0) (v := 8) (lv' := [(1, .int 8), (0, .ref q)]) C dX0_init_107 rfl rfl (by decide) (by decide) rfl ?_
  refine i_goto (t := 91) C dX0_init_110 (by decide) ?_
  refine i_iload_n (q := 92) (i := 0) C dX0_init_91 rfl rfl ?_
  refine i_aload_n (q := 93) (i := 1) C dX0_init_92 rfl rfl ?_
  refine i_get (q := 96) (q0 := 0) C dX0_init_93 rfl fl_X0_40 rfl rfl ?_
  refine i_alen (q := 97) (q0 := 3) (t0 := 2) (v := 10) C dX0_init_96 rfl rfl rfl rfl ?_
  refine i_icmp_ge (q := 100) (t := 113) C dX0_init_97 rfl (by decide) (fun h => absurd h (by decide)) (fun _ => ?_)
  refine i_aload_n (q := 101) (i := 1) C dX0_init_100 rfl rfl ?_
  refine i_get (q := 104) (q0 := 0) C dX0_init_101 rfl fl_X0_40 rfl rfl ?_
  refine i_iload_n (q := 105) (i := 0) C dX0_init_104 rfl rfl ?_
  refine i_iconst (q := 106) (v := (-1)) C dX0_init_105 rfl (by decide) ?_
  refine i_iast (q := 107) (q0 := 3) (j := 8) (f' := (spN 9)) (ws' := [(q, eO 0 [.ref a1, .int 0, .int 0, .int 0, .int 0, .int 1, .int 0, .ref a2, .ref a3]), (a1, eI (ca 8) 6 (fun _ => 0)), (a2, eR (ca 9) 8 (va_up (va_up (va_up (va_up (va_up (va_up (va_up (va_up (fun _ => none) 0 (some a4)) 1 (some a5)) 2 (some a6)) 3 (some a7)) 4 (some a8)) 5 (some a9)) 6 (some a10)) 7 (some a11))), (a3, eI (ca 8) 10 (spN 9)), (a4, eO 1 [.int 0, .int 0, .int 0, .int 0, .int 0, .int 0, .int 0]), (a5, eO 1 [.int 0, .int 0, .int 0, .int 0, .int 0, .int 0, .int 0]), (a6, eO 1 [.int 0, .int 0, .int 0, .int 0, .int 0, .int 0, .int 0]), (a7, eO 1 [.int 0, .int 0, .int 0, .int 0, .int 0, .int 0, .int 0]), (a8, eO 1 [.int 0, .int 0, .int 0, .int 0, .int 0, .int 0, .int 0]), (a9, eO 1 [.int 0, .int 0, .int 0, .int 0, .int 0, .int 0, .int 0]), (a10, eO 1 [.int 0, .int 0, .int 0, .int 0, .int 0, .int 0, .int 0]), (a11, eO 1 [.int 0, .int 0, .int 0, .int 0, .int 0, .int 0, .int 0])]) C dX0_init_106 rfl rfl (ix_nI (k := 8) (by decide) (by decide)) (sp_s 8) rfl ?_
  refine i_iinc (q := 110) (i := 0) (v := 9) (lv' := [(1, .int 9), (0, .ref q)]) C dX0_init_107 rfl rfl (by decide) (by decide) rfl ?_
  refine i_goto (t := 91) C dX0_init_110 (by decide) ?_
  refine i_iload_n (q := 92) (i := 0) C dX0_init_91 rfl rfl ?_
  refine i_aload_n (q := 93) (i := 1) C dX0_init_92 rfl rfl ?_
  refine i_get (q := 96) (q0 := 0) C dX0_init_93 rfl fl_X0_40 rfl rfl ?_
  refine i_alen (q := 97) (q0 := 3) (t0 := 2) (v := 10) C dX0_init_96 rfl rfl rfl rfl ?_
  refine i_icmp_ge (q := 100) (t := 113) C dX0_init_97 rfl (by decide) (fun h => absurd h (by decide)) (fun _ => ?_)
  refine i_aload_n (q := 101) (i := 1) C dX0_init_100 rfl rfl ?_
  refine i_get (q := 104) (q0 := 0) C dX0_init_101 rfl fl_X0_40 rfl rfl ?_
  refine i_iload_n (q := 105) (i := 0) C dX0_init_104 rfl rfl ?_
  refine i_iconst (q := 106) (v := (-1)) C dX0_init_105 rfl (by decide) ?_
  refine i_iast (q := 107) (q0 := 3) (j := 9) (f' := (spN 10)) (ws' := [(q, eO 0 [.ref a1, .int 0, .int 0, .int 0, .int 0, .int 1, .int 0, .ref a2, .ref a3]), (a1, eI (ca 8) 6 (fun _ => 0)), (a2, eR (ca 9) 8 (va_up (va_up (va_up (va_up (va_up (va_up (va_up (va_up (fun _ => none) 0 (some a4)) 1 (some a5)) 2 (some a6)) 3 (some a7)) 4 (some a8)) 5 (some a9)) 6 (some a10)) 7 (some a11))), (a3, eI (ca 8) 10 (spN 10)), (a4, eO 1 [.int 0, .int 0, .int 0, .int 0, .int 0, .int 0, .int 0]), (a5, eO 1 [.int 0, .int 0, .int 0, .int 0, .int 0, .int 0, .int 0]), (a6, eO 1 [.int 0, .int 0, .int 0, .int 0, .int 0, .int 0, .int 0]), (a7, eO 1 [.int 0, .int 0, .int 0, .int 0, .int 0, .int 0, .int 0]), (a8, eO 1 [.int 0, .int 0, .int 0, .int 0, .int 0, .int 0, .int 0]), (a9, eO 1 [.int 0, .int 0, .int 0, .int 0, .int 0, .int 0, .int 0]), (a10, eO 1 [.int 0, .int 0, .int 0, .int 0, .int 0, .int 0, .int 0]), (a11, eO 1 [.int 0, .int 0, .int 0, .int 0, .int 0, .int 0, .int 0])]) C dX0_init_106 rfl rfl (ix_nI (k := 9) (by decide) (by decide)) (sp_s 9) rfl ?_
  refine i_iinc (q := 110) (i := 0) (v := 10) (lv' := [(1, .int 10), (0, .ref q)]) C dX0_init_107 rfl rfl (by decide) (by decide) rfl ?_
  refine i_goto (t := 91) C dX0_init_110 (by decide) ?_
  refine i_iload_n (q := 92) (i := 0) C dX0_init_91 rfl rfl ?_
  refine i_aload_n (q := 93) (i := 1) C dX0_init_92 rfl rfl ?_
  refine i_get (q := 96) (q0 := 0) C dX0_init_93 rfl fl_X0_40 rfl rfl ?_
  refine i_alen (q := 97) (q0 := 3) (t0 := 2) (v := 10) C dX0_init_96 rfl rfl rfl rfl ?_
  refine i_icmp_ge (q := 100) (t := 113) C dX0_init_97 rfl (by decide) (fun _ => ?_) (fun h => absurd (by decide) h)
  exact i_return C hrt hlk dX0_init_113 ⟨fun i => [q, a1, a2, a3, a4, a5, a6, a7, a8, a9, a10, a11].getD i 0, rfl, rfl⟩
