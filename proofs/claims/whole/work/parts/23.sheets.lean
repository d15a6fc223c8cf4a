/-! sheets, of the class -/
def zr (f : Nat → Int32) (off j : Nat) : Nat → Int32 := fun i => if off ≤ i ∧ i < off + j then 0 else f i
theorem zr_0 {f : Nat → Int32} {off : Nat} : zr f off 0 = f := by funext i; unfold zr; rw [if_neg (by omega)]
theorem zr_s {f : Nat → Int32} {off j : Nat} : upd (zr f off j) (off + j) 0 = zr f off (j + 1) := by
  funext i
  unfold upd zr
  by_cases h : i = off + j
  · rw [if_pos h, if_pos (by omega)]
  · rw [if_neg h]
    by_cases h2 : off ≤ i ∧ i < off + j
    · rw [if_pos h2, if_pos (by omega)]
    · rw [if_neg h2, if_neg (by omega)]
def nrw (b v : Int32) : Int32 := if b = 8 then v.toInt8.toInt32 else if b = 16 then v.toInt16.toInt32 else v
def hnF (z f n : Int32) : Bool := decide (f < 0) || (decide (n < 0) || !decide (f ≤ z - n))
def shB (m : TM) (s : Nat) (b n : Int32) : TM := st1 (st1 m 41 s b) 42 s (if b = 0 then 0 else n)
def shM (m : TM) (s : Nat) (b n : Int32) : TM := st1 (st1 m 58 s b) 59 s (if b = 0 then 0 else n)
def bok (b : Int32) : Bool := decide (b = 0) || decide (b = 8) || decide (b = 16) || decide (b = 32)
/-- numbers become tides, from place j on -/
def ldR (w : Nat → Int32) (z : Nat) : Nat → Nat → (Nat → Int32) → Nat × (Nat → Int32)
  | 0, j, u => (j, u)
  | f + 1, j, u => if j < z ∧ j < 6 ∧ outI (w j) 0 20 = false then ldR w z f (j + 1) (upd u (6 + j) (w j)) else (j, u)
def ansJ (r : Option Nat) : Int32 := match r with
  | some j => 1 + nI j
  | none => 0
def jdP (s : Nat → Int32) (n : Nat) (w : Nat → Int32) (i : Nat) : Bool := !(decide (i < n) && decide (s (12 + 7 * i + 1) = w i))
theorem par_no {i n : Nat} {x : Int32} (hn : x = nI n) (h8 : n ≤ 8) (hi : i ≤ 1000) : outI (nI i) 0 (x - 1) = !decide (i < n) := by
  by_cases h : i < n
  · rw [par_in hn h8 h, decide_eq_true h]; rfl
  · rw [decide_eq_false h]
    subst hn
    unfold outI
    cases n with
    | zero =>
      rw [decide_eq_true (show (nI 0 - 1 : Int32) < nI i from ?_), Bool.or_true]; rfl
      rw [Int32.lt_iff_toInt_lt, jnI_toInt (by omega), show (nI 0 - 1 : Int32).toInt = -1 by decide]
      omega
    | succ k =>
      rw [nI_pred, decide_eq_true ((jnI_lt (a := k) (b := i) (by omega) (by omega)).mpr (by omega)), Bool.or_true]; rfl
theorem dX2_isMissing_0 : decode cX2_isMissing 0 = .ok (.aload_n 0, 1) := by decide +kernel
theorem dX2_isMissing_1 : decode cX2_isMissing 1 = .ok (.getfield 9, 3) := by decide +kernel
theorem dX2_isMissing_4 : decode cX2_isMissing 4 = .ok (.ifCond .ne 7, 3) := by decide +kernel
theorem dX2_isMissing_7 : decode cX2_isMissing 7 = .ok (.iconst 1, 1) := by decide +kernel
theorem dX2_isMissing_8 : decode cX2_isMissing 8 = .ok (.goto 4, 3) := by decide +kernel
theorem dX2_isMissing_11 : decode cX2_isMissing 11 = .ok (.iconst 0, 1) := by decide +kernel
theorem dX2_isMissing_12 : decode cX2_isMissing 12 = .ok (.ireturn, 1) := by decide +kernel
set_option maxRecDepth 20000 in
set_option maxHeartbeats 4000000 in
theorem c_X2_isMissing {K : Cx} {s : Nat} {m : TM} (hs : s < 4) : CT yX2_isMissing cX2_isMissing 1 (some .boolean) 0 0 K [.ref (41 + 2 * s)] (m) (some (.int (bI (decide (m.1 41 s = 0))))) (m) := by
  refine ct_ofd (n := 0) (by decide +kernel) rfl rfl ?_
  show XX RX2 cX2_isMissing 1 (some .boolean) 0 0 K 0 [some (.ref (41 + 2 * s))] [] (m) (fun r1 m1 => r1 = (some (.int (bI (decide (m.1 41 s = 0))))) ∧ m1 = m)
  refine x_aload_n (q := 1) dX2_isMissing_0 rfl rfl ?_
  refine x_getI (q := 4) dX2_isMissing_1 rfl fl_X2_9 (ob2_bits hs) ?_
  refine x_if_ne (q := 7) (t := 11) dX2_isMissing_4 rfl (by decide) (fun h4 => ?_) (fun h4 => ?_)
  · refine x_iconst (q := 12) (v := 0) dX2_isMissing_11 rfl (by decide) ?_
    refine x_ireturn dX2_isMissing_12 rfl (by decide) ?_
    exact ⟨by simp [h4, bI], rfl⟩
  refine x_iconst (q := 8) (v := 1) dX2_isMissing_7 rfl (by decide) ?_
  refine x_goto (q := 12) dX2_isMissing_8 (by decide) ?_
  refine x_ireturn dX2_isMissing_12 rfl (by decide) ?_
  exact ⟨by simp [h4, bI], rfl⟩
theorem dX2_begin_0 : decode cX2_begin 0 = .ok (.aload_n 0, 1) := by decide +kernel
theorem dX2_begin_1 : decode cX2_begin 1 = .ok (.iload_n 1, 1) := by decide +kernel
theorem dX2_begin_2 : decode cX2_begin 2 = .ok (.putfield 9, 3) := by decide +kernel
theorem dX2_begin_5 : decode cX2_begin 5 = .ok (.aload_n 0, 1) := by decide +kernel
theorem dX2_begin_6 : decode cX2_begin 6 = .ok (.iload_n 1, 1) := by decide +kernel
theorem dX2_begin_7 : decode cX2_begin 7 = .ok (.ifCond .ne 7, 3) := by decide +kernel
theorem dX2_begin_10 : decode cX2_begin 10 = .ok (.iconst 0, 1) := by decide +kernel
theorem dX2_begin_11 : decode cX2_begin 11 = .ok (.goto 4, 3) := by decide +kernel
theorem dX2_begin_14 : decode cX2_begin 14 = .ok (.iload_n 2, 1) := by decide +kernel
theorem dX2_begin_15 : decode cX2_begin 15 = .ok (.putfield 15, 3) := by decide +kernel
theorem dX2_begin_18 : decode cX2_begin 18 = .ok (.iconst 0, 1) := by decide +kernel
theorem dX2_begin_19 : decode cX2_begin 19 = .ok (.istore_n 3, 1) := by decide +kernel
theorem dX2_begin_20 : decode cX2_begin 20 = .ok (.iload_n 3, 1) := by decide +kernel
theorem dX2_begin_21 : decode cX2_begin 21 = .ok (.aload_n 0, 1) := by decide +kernel
theorem dX2_begin_22 : decode cX2_begin 22 = .ok (.getfield 18, 3) := by decide +kernel
theorem dX2_begin_25 : decode cX2_begin 25 = .ok (.arraylength, 1) := by decide +kernel
theorem dX2_begin_26 : decode cX2_begin 26 = .ok (.if_icmp .ge 16, 3) := by decide +kernel
theorem dX2_begin_29 : decode cX2_begin 29 = .ok (.aload_n 0, 1) := by decide +kernel
theorem dX2_begin_30 : decode cX2_begin 30 = .ok (.getfield 18, 3) := by decide +kernel
theorem dX2_begin_33 : decode cX2_begin 33 = .ok (.iload_n 3, 1) := by decide +kernel
theorem dX2_begin_34 : decode cX2_begin 34 = .ok (.iconst 0, 1) := by decide +kernel
theorem dX2_begin_35 : decode cX2_begin 35 = .ok (.iastore, 1) := by decide +kernel
theorem dX2_begin_36 : decode cX2_begin 36 = .ok (.iinc 3 1, 3) := by decide +kernel
theorem dX2_begin_39 : decode cX2_begin 39 = .ok (.goto (-19), 3) := by decide +kernel
theorem dX2_begin_42 : decode cX2_begin 42 = .ok (.return_, 1) := by decide +kernel
set_option maxRecDepth 20000 in
set_option maxHeartbeats 4000000 in
theorem l_X2_begin {K : Cx} {s : Nat} {x y : Int32} {m : TM} {f : Nat → Int32} (hs : s < 4) : ∀ (n : Nat) (j : Nat), 40 - j < n → j ≤ 40 → XX RX2 cX2_begin 4 none 0 0 K 20 [some (.ref (41 + 2 * s)), some (.int x), some (.int y), some (.int (nI j))] [] (sr m 43 (zr f (40 * s) j)) (fun r1 m1 => r1 = none ∧ m1 = sr m 43 (zr f (40 * s) 40)) := by
  intro n
  induction n with
  | zero => intro j hlt; exact absurd hlt (Nat.not_lt_zero _)
  | succ n ih =>
    intro j hlt hj
    refine x_iload_n (q := 21) dX2_begin_20 rfl rfl ?_
    refine x_aload_n (q := 22) dX2_begin_21 rfl rfl ?_
    refine x_getR (q := 25) dX2_begin_22 rfl fl_X2_18 (or2_num hs) ?_
    refine x_alen (q := 26) (v := 40) dX2_begin_25 rfl (ra_num hs) (by decide) (by decide) ?_
    refine x_icmp_ge (q := 29) (t := 42) dX2_begin_26 rfl (by decide) (fun h26 => ?_) (fun h26 => ?_)
    · refine x_return dX2_begin_42 rfl ?_
      have e : j = 40 := Nat.le_antisymm hj (lp_stop (n := 40) rfl (by omega) (by omega) h26)
      subst e
      exact ⟨rfl, rfl⟩
    have hjn : j < 40 := lp_go (n := 40) rfl (by omega) (by omega) h26
    refine x_aload_n (q := 30) dX2_begin_29 rfl rfl ?_
    refine x_getR (q := 33) dX2_begin_30 rfl fl_X2_18 (or2_num hs) ?_
    refine x_iload_n (q := 34) dX2_begin_33 rfl rfl ?_
    refine x_iconst (q := 35) (v := 0) dX2_begin_34 rfl (by decide) ?_
    refine x_iastr (q := 36) dX2_begin_35 rfl (ar_num hs) (ix_nI hjn (by decide)) rfl  ?_
    refine x_iinc (q := 39) (v := nI (j + 1)) dX2_begin_36 rfl rfl (jnI_s j) (by decide) rfl rfl ?_
    refine x_goto (q := 20) dX2_begin_39 (by decide) ?_
    rw [zr_s]
    exact ih (j + 1) (by omega) (by omega)
set_option maxRecDepth 20000 in
set_option maxHeartbeats 4000000 in
theorem c_X2_begin {K : Cx} {s : Nat} {x y : Int32} {m : TM} (hs : s < 4) : CT yX2_begin cX2_begin 4 none 0 0 K [.ref (41 + 2 * s), .int x, .int y] (m) none (sr (shB m s x y) 43 (zr ((shB m s x y).1 43) (40 * s) 40)) := by
  refine ct_ofd (n := 1) (by decide +kernel) rfl rfl ?_
  show XX RX2 cX2_begin 4 none 0 0 K 0 [some (.ref (41 + 2 * s)), some (.int x), some (.int y), none] [] (m) (fun r1 m1 => r1 = none ∧ m1 = sr (shB m s x y) 43 (zr ((shB m s x y).1 43) (40 * s) 40))
  refine x_aload_n (q := 1) dX2_begin_0 rfl rfl ?_
  refine x_iload_n (q := 2) dX2_begin_1 rfl rfl ?_
  refine x_putI (q := 5) dX2_begin_2 rfl fl_X2_9 (ob2_bits hs) rfl rfl rfl rfl ?_
  refine x_aload_n (q := 6) dX2_begin_5 rfl rfl ?_
  refine x_iload_n (q := 7) dX2_begin_6 rfl rfl ?_
  refine x_if_ne (q := 10) (t := 14) dX2_begin_7 rfl (by decide) (fun h7 => ?_) (fun h7 => ?_)
  · refine x_iload_n (q := 15) dX2_begin_14 rfl rfl ?_
    refine x_putI (q := 18) dX2_begin_15 rfl fl_X2_15 (ob2_len hs) rfl rfl rfl rfl ?_
    refine x_iconst (q := 19) (v := 0) dX2_begin_18 rfl (by decide) ?_
    refine x_istore_n (q := 20) dX2_begin_19 rfl (by decide) rfl rfl ?_
    have h := l_X2_begin (K := K) (x := x) (y := y) (m := shB m s x y) (f := (shB m s x y).1 43) hs 41 0 (by omega) (by omega)
    rw [zr_0, sr_self] at h
    unfold shB at h ⊢
    rw [if_neg h7] at h ⊢
    exact h
  refine x_iconst (q := 11) (v := 0) dX2_begin_10 rfl (by decide) ?_
  refine x_goto (q := 15) dX2_begin_11 (by decide) ?_
  refine x_putI (q := 18) dX2_begin_15 rfl fl_X2_15 (ob2_len hs) rfl rfl rfl rfl ?_
  refine x_iconst (q := 19) (v := 0) dX2_begin_18 rfl (by decide) ?_
  refine x_istore_n (q := 20) dX2_begin_19 rfl (by decide) rfl rfl ?_
  have h := l_X2_begin (K := K) (x := x) (y := y) (m := shB m s x y) (f := (shB m s x y).1 43) hs 41 0 (by omega) (by omega)
  rw [zr_0, sr_self] at h
  unfold shB at h ⊢
  rw [if_pos h7] at h ⊢
  exact h
theorem dX2_put_0 : decode cX2_put 0 = .ok (.aload_n 0, 1) := by decide +kernel
theorem dX2_put_1 : decode cX2_put 1 = .ok (.getfield 9, 3) := by decide +kernel
theorem dX2_put_4 : decode cX2_put 4 = .ok (.bipush 8, 2) := by decide +kernel
theorem dX2_put_6 : decode cX2_put 6 = .ok (.if_icmp .ne 14, 3) := by decide +kernel
theorem dX2_put_9 : decode cX2_put 9 = .ok (.aload_n 0, 1) := by decide +kernel
theorem dX2_put_10 : decode cX2_put 10 = .ok (.getfield 18, 3) := by decide +kernel
theorem dX2_put_13 : decode cX2_put 13 = .ok (.iload_n 1, 1) := by decide +kernel
theorem dX2_put_14 : decode cX2_put 14 = .ok (.iload_n 2, 1) := by decide +kernel
theorem dX2_put_15 : decode cX2_put 15 = .ok (.i2b, 1) := by decide +kernel
theorem dX2_put_16 : decode cX2_put 16 = .ok (.iastore, 1) := by decide +kernel
theorem dX2_put_17 : decode cX2_put 17 = .ok (.goto 30, 3) := by decide +kernel
theorem dX2_put_20 : decode cX2_put 20 = .ok (.aload_n 0, 1) := by decide +kernel
theorem dX2_put_21 : decode cX2_put 21 = .ok (.getfield 9, 3) := by decide +kernel
theorem dX2_put_24 : decode cX2_put 24 = .ok (.bipush 16, 2) := by decide +kernel
theorem dX2_put_26 : decode cX2_put 26 = .ok (.if_icmp .ne 14, 3) := by decide +kernel
theorem dX2_put_29 : decode cX2_put 29 = .ok (.aload_n 0, 1) := by decide +kernel
theorem dX2_put_30 : decode cX2_put 30 = .ok (.getfield 18, 3) := by decide +kernel
theorem dX2_put_33 : decode cX2_put 33 = .ok (.iload_n 1, 1) := by decide +kernel
theorem dX2_put_34 : decode cX2_put 34 = .ok (.iload_n 2, 1) := by decide +kernel
theorem dX2_put_35 : decode cX2_put 35 = .ok (.i2s, 1) := by decide +kernel
theorem dX2_put_36 : decode cX2_put 36 = .ok (.iastore, 1) := by decide +kernel
theorem dX2_put_37 : decode cX2_put 37 = .ok (.goto 10, 3) := by decide +kernel
theorem dX2_put_40 : decode cX2_put 40 = .ok (.aload_n 0, 1) := by decide +kernel
theorem dX2_put_41 : decode cX2_put 41 = .ok (.getfield 18, 3) := by decide +kernel
theorem dX2_put_44 : decode cX2_put 44 = .ok (.iload_n 1, 1) := by decide +kernel
theorem dX2_put_45 : decode cX2_put 45 = .ok (.iload_n 2, 1) := by decide +kernel
theorem dX2_put_46 : decode cX2_put 46 = .ok (.iastore, 1) := by decide +kernel
theorem dX2_put_47 : decode cX2_put 47 = .ok (.return_, 1) := by decide +kernel
set_option maxRecDepth 20000 in
set_option maxHeartbeats 4000000 in
theorem c_X2_put {K : Cx} {s j : Nat} {x v : Int32} {m : TM} (hs : s < 4) (hj : IX x j 40) : CT yX2_put cX2_put 3 none 0 0 K [.ref (41 + 2 * s), .int x, .int v] (m) none (st1 m 43 (40 * s + j) (nrw (m.1 41 s) v)) := by
  refine ct_ofd (n := 0) (by decide +kernel) rfl rfl ?_
  show XX RX2 cX2_put 3 none 0 0 K 0 [some (.ref (41 + 2 * s)), some (.int x), some (.int v)] [] (m) (fun r1 m1 => r1 = none ∧ m1 = st1 m 43 (40 * s + j) (nrw (m.1 41 s) v))
  refine x_aload_n (q := 1) dX2_put_0 rfl rfl ?_
  refine x_getI (q := 4) dX2_put_1 rfl fl_X2_9 (ob2_bits hs) ?_
  refine x_bipush (q := 6) (v := 8) dX2_put_4 rfl (by decide) ?_
  refine x_icmp_ne (q := 9) (t := 20) dX2_put_6 rfl (by decide) (fun h6 => ?_) (fun h6 => ?_)
  · refine x_aload_n (q := 21) dX2_put_20 rfl rfl ?_
    refine x_getI (q := 24) dX2_put_21 rfl fl_X2_9 (ob2_bits hs) ?_
    refine x_bipush (q := 26) (v := 16) dX2_put_24 rfl (by decide) ?_
    refine x_icmp_ne (q := 29) (t := 40) dX2_put_26 rfl (by decide) (fun h26 => ?_) (fun h26 => ?_)
    · refine x_aload_n (q := 41) dX2_put_40 rfl rfl ?_
      refine x_getR (q := 44) dX2_put_41 rfl fl_X2_18 (or2_num hs) ?_
      refine x_iload_n (q := 45) dX2_put_44 rfl rfl ?_
      refine x_iload_n (q := 46) dX2_put_45 rfl rfl ?_
      refine x_iast (q := 47) dX2_put_46 rfl (ar_num hs) hj rfl rfl ?_
      refine x_return dX2_put_47 rfl ?_
      exact ⟨rfl, by simp [nrw, h6, h26]⟩
    refine x_aload_n (q := 30) dX2_put_29 rfl rfl ?_
    refine x_getR (q := 33) dX2_put_30 rfl fl_X2_18 (or2_num hs) ?_
    refine x_iload_n (q := 34) dX2_put_33 rfl rfl ?_
    refine x_iload_n (q := 35) dX2_put_34 rfl rfl ?_
    refine x_i2s (q := 36) dX2_put_35 rfl ?_
    refine x_iast (q := 37) dX2_put_36 rfl (ar_num hs) hj rfl rfl ?_
    refine x_goto (q := 47) dX2_put_37 (by decide) ?_
    refine x_return dX2_put_47 rfl ?_
    exact ⟨rfl, by simp [nrw, h6, h26]⟩
  refine x_aload_n (q := 10) dX2_put_9 rfl rfl ?_
  refine x_getR (q := 13) dX2_put_10 rfl fl_X2_18 (or2_num hs) ?_
  refine x_iload_n (q := 14) dX2_put_13 rfl rfl ?_
  refine x_iload_n (q := 15) dX2_put_14 rfl rfl ?_
  refine x_i2b (q := 16) dX2_put_15 rfl ?_
  refine x_iast (q := 17) dX2_put_16 rfl (ar_num hs) hj rfl rfl ?_
  refine x_goto (q := 47) dX2_put_17 (by decide) ?_
  refine x_return dX2_put_47 rfl ?_
  exact ⟨rfl, by simp [nrw, h6]⟩
theorem dX2_hasNot_0 : decode cX2_hasNot 0 = .ok (.iload_n 1, 1) := by decide +kernel
theorem dX2_hasNot_1 : decode cX2_hasNot 1 = .ok (.ifCond .lt 17, 3) := by decide +kernel
theorem dX2_hasNot_4 : decode cX2_hasNot 4 = .ok (.iload_n 2, 1) := by decide +kernel
theorem dX2_hasNot_5 : decode cX2_hasNot 5 = .ok (.ifCond .lt 13, 3) := by decide +kernel
theorem dX2_hasNot_8 : decode cX2_hasNot 8 = .ok (.iload_n 1, 1) := by decide +kernel
theorem dX2_hasNot_9 : decode cX2_hasNot 9 = .ok (.aload_n 0, 1) := by decide +kernel
theorem dX2_hasNot_10 : decode cX2_hasNot 10 = .ok (.getfield 15, 3) := by decide +kernel
theorem dX2_hasNot_13 : decode cX2_hasNot 13 = .ok (.iload_n 2, 1) := by decide +kernel
theorem dX2_hasNot_14 : decode cX2_hasNot 14 = .ok (.isub, 1) := by decide +kernel
theorem dX2_hasNot_15 : decode cX2_hasNot 15 = .ok (.if_icmp .le 7, 3) := by decide +kernel
theorem dX2_hasNot_18 : decode cX2_hasNot 18 = .ok (.iconst 1, 1) := by decide +kernel
theorem dX2_hasNot_19 : decode cX2_hasNot 19 = .ok (.goto 4, 3) := by decide +kernel
theorem dX2_hasNot_22 : decode cX2_hasNot 22 = .ok (.iconst 0, 1) := by decide +kernel
theorem dX2_hasNot_23 : decode cX2_hasNot 23 = .ok (.ireturn, 1) := by decide +kernel
set_option maxRecDepth 20000 in
set_option maxHeartbeats 4000000 in
theorem c_X2_hasNot {K : Cx} {s : Nat} {x y : Int32} {m : TM} (hs : s < 4) : CT yX2_hasNot cX2_hasNot 3 (some .boolean) 0 0 K [.ref (41 + 2 * s), .int x, .int y] (m) (some (.int (bI (hnF (m.1 42 s) x y)))) (m) := by
  refine ct_ofd (n := 0) (by decide +kernel) rfl rfl ?_
  show XX RX2 cX2_hasNot 3 (some .boolean) 0 0 K 0 [some (.ref (41 + 2 * s)), some (.int x), some (.int y)] [] (m) (fun r1 m1 => r1 = (some (.int (bI (hnF (m.1 42 s) x y)))) ∧ m1 = m)
  refine x_iload_n (q := 1) dX2_hasNot_0 rfl rfl ?_
  refine x_if_lt (q := 4) (t := 18) dX2_hasNot_1 rfl (by decide) (fun h1 => ?_) (fun h1 => ?_)
  · refine x_iconst (q := 19) (v := 1) dX2_hasNot_18 rfl (by decide) ?_
    refine x_goto (q := 23) dX2_hasNot_19 (by decide) ?_
    refine x_ireturn dX2_hasNot_23 rfl (by decide) ?_
    exact ⟨by simp [hnF, bI, h1], rfl⟩
  refine x_iload_n (q := 5) dX2_hasNot_4 rfl rfl ?_
  refine x_if_lt (q := 8) (t := 18) dX2_hasNot_5 rfl (by decide) (fun h5 => ?_) (fun h5 => ?_)
  · refine x_iconst (q := 19) (v := 1) dX2_hasNot_18 rfl (by decide) ?_
    refine x_goto (q := 23) dX2_hasNot_19 (by decide) ?_
    refine x_ireturn dX2_hasNot_23 rfl (by decide) ?_
    exact ⟨by simp [hnF, bI, h1, h5], rfl⟩
  refine x_iload_n (q := 9) dX2_hasNot_8 rfl rfl ?_
  refine x_aload_n (q := 10) dX2_hasNot_9 rfl rfl ?_
  refine x_getI (q := 13) dX2_hasNot_10 rfl fl_X2_15 (ob2_len hs) ?_
  refine x_iload_n (q := 14) dX2_hasNot_13 rfl rfl ?_
  refine x_isub (q := 15) dX2_hasNot_14 rfl ?_
  refine x_icmp_le (q := 18) (t := 22) dX2_hasNot_15 rfl (by decide) (fun h15 => ?_) (fun h15 => ?_)
  · refine x_iconst (q := 23) (v := 0) dX2_hasNot_22 rfl (by decide) ?_
    refine x_ireturn dX2_hasNot_23 rfl (by decide) ?_
    exact ⟨by simp [hnF, bI, h1, h5, h15], rfl⟩
  refine x_iconst (q := 19) (v := 1) dX2_hasNot_18 rfl (by decide) ?_
  refine x_goto (q := 23) dX2_hasNot_19 (by decide) ?_
  refine x_ireturn dX2_hasNot_23 rfl (by decide) ?_
  exact ⟨by simp [hnF, bI, h1, h5, h15], rfl⟩
theorem dX4_wrongSheet_0 : decode cX4_wrongSheet 0 = .ok (.iload_n 1, 1) := by decide +kernel
theorem dX4_wrongSheet_1 : decode cX4_wrongSheet 1 = .ok (.invokestatic 185, 3) := by decide +kernel
theorem dX4_wrongSheet_4 : decode cX4_wrongSheet 4 = .ok (.ifCond .eq 6, 3) := by decide +kernel
theorem dX4_wrongSheet_7 : decode cX4_wrongSheet 7 = .ok (.ldc 48, 2) := by decide +kernel
theorem dX4_wrongSheet_9 : decode cX4_wrongSheet 9 = .ok (.ireturn, 1) := by decide +kernel
theorem dX4_wrongSheet_10 : decode cX4_wrongSheet 10 = .ok (.aload_n 0, 1) := by decide +kernel
theorem dX4_wrongSheet_11 : decode cX4_wrongSheet 11 = .ok (.getfield 35, 3) := by decide +kernel
theorem dX4_wrongSheet_14 : decode cX4_wrongSheet 14 = .ok (.iload_n 1, 1) := by decide +kernel
theorem dX4_wrongSheet_15 : decode cX4_wrongSheet 15 = .ok (.aaload, 1) := by decide +kernel
theorem dX4_wrongSheet_16 : decode cX4_wrongSheet 16 = .ok (.invokevirtual 197, 3) := by decide +kernel
theorem dX4_wrongSheet_19 : decode cX4_wrongSheet 19 = .ok (.ifCond .eq 8, 3) := by decide +kernel
theorem dX4_wrongSheet_22 : decode cX4_wrongSheet 22 = .ok (.ldc 180, 2) := by decide +kernel
theorem dX4_wrongSheet_24 : decode cX4_wrongSheet 24 = .ok (.goto 4, 3) := by decide +kernel
theorem dX4_wrongSheet_27 : decode cX4_wrongSheet 27 = .ok (.iconst 0, 1) := by decide +kernel
theorem dX4_wrongSheet_28 : decode cX4_wrongSheet 28 = .ok (.ireturn, 1) := by decide +kernel
set_option maxRecDepth 20000 in
set_option maxHeartbeats 4000000 in
theorem c_X4_wsA {K : Cx} {x : Int32} {m : TM} (hb : outI x 0 3 = true) : CT yX4_wrongSheet cX4_wrongSheet 2 (some .int) 2 42 K [.ref 0, .int x] (m) (some (.int (-1000001))) (m) := by
  refine ct_ofd (n := 0) (by decide +kernel) rfl rfl ?_
  show XX RX4 cX4_wrongSheet 2 (some .int) 2 42 K 0 [some (.ref 0), some (.int x)] [] (m) (fun r1 m1 => r1 = (some (.int (-1000001))) ∧ m1 = m)
  refine x_iload_n (q := 1) dX4_wrongSheet_0 rfl rfl ?_
  refine x_callS1v (q := 4) dX4_wrongSheet_1 rfl ml_X4_185 ms_X4_isNoSheet c_X4_isNoSheet (Nat.le_of_ble_eq_true rfl) ⟨by decide, by decide⟩ ?_
  refine x_ifB_eq (q := 7) (t := 10) dX4_wrongSheet_4 rfl (by decide) (fun h4 => ?_) (fun h4 => ?_)
  · exact absurd hb (by rw [h4]; decide)
  refine x_ldc (q := 9) dX4_wrongSheet_7 rfl kc_X4_48 ?_
  refine x_ireturn dX4_wrongSheet_9 rfl rfl ?_
  exact ⟨rfl, rfl⟩
set_option maxRecDepth 20000 in
set_option maxHeartbeats 4000000 in
theorem c_X4_wsB {K : Cx} {s : Nat} {m : TM} (hs : s < 4) (hb : m.1 41 s = 0) : CT yX4_wrongSheet cX4_wrongSheet 2 (some .int) 2 42 K [.ref 0, .int (nI s)] (m) (some (.int (-1000006))) (m) := by
  refine ct_ofd (n := 0) (by decide +kernel) rfl rfl ?_
  show XX RX4 cX4_wrongSheet 2 (some .int) 2 42 K 0 [some (.ref 0), some (.int (nI s))] [] (m) (fun r1 m1 => r1 = (some (.int (-1000006))) ∧ m1 = m)
  refine x_iload_n (q := 1) dX4_wrongSheet_0 rfl rfl ?_
  refine x_callS1v (q := 4) dX4_wrongSheet_1 rfl ml_X4_185 ms_X4_isNoSheet c_X4_isNoSheet (Nat.le_of_ble_eq_true rfl) ⟨by decide, by decide⟩ ?_
  refine x_ifB_eq (q := 7) (t := 10) dX4_wrongSheet_4 rfl (by decide) (fun h4 => ?_) (fun h4 => ?_)
  · refine x_aload_n (q := 11) dX4_wrongSheet_10 rfl rfl ?_
    refine x_getR (q := 14) dX4_wrongSheet_11 rfl fl_X4_35 (or4_sheets) ?_
    refine x_iload_n (q := 15) dX4_wrongSheet_14 rfl rfl ?_
    refine x_sheet (q := 16) dX4_wrongSheet_15 rfl (ix_nI hs (by decide)) ?_
    refine x_callV0v (q := 19) dX4_wrongSheet_16 rfl ml_X4_197 mv_X2_isMissing (rv2 hs) rfl (c_X2_isMissing hs) (Nat.le_of_ble_eq_true rfl) ⟨by decide, by decide⟩ ?_
    refine x_ifB_eq (q := 22) (t := 27) dX4_wrongSheet_19 rfl (by decide) (fun h19 => ?_) (fun h19 => ?_)
    · exact absurd h19 (by rw [decide_eq_true hb]; decide)
    refine x_ldc (q := 24) dX4_wrongSheet_22 rfl kc_X4_180 ?_
    refine x_goto (q := 28) dX4_wrongSheet_24 (by decide) ?_
    refine x_ireturn dX4_wrongSheet_28 rfl rfl ?_
    exact ⟨rfl, rfl⟩
  exact absurd (by show outI (nI s) 0 3 = false; exact rng_in (a := 0) (b := 3) (Nat.zero_le s) (by omega) (by decide)) (by rw [h4]; decide)
set_option maxRecDepth 20000 in
set_option maxHeartbeats 4000000 in
theorem c_X4_wsC {K : Cx} {s : Nat} {m : TM} (hs : s < 4) (hb : ¬ m.1 41 s = 0) : CT yX4_wrongSheet cX4_wrongSheet 2 (some .int) 2 42 K [.ref 0, .int (nI s)] (m) (some (.int (0))) (m) := by
  refine ct_ofd (n := 0) (by decide +kernel) rfl rfl ?_
  show XX RX4 cX4_wrongSheet 2 (some .int) 2 42 K 0 [some (.ref 0), some (.int (nI s))] [] (m) (fun r1 m1 => r1 = (some (.int (0))) ∧ m1 = m)
  refine x_iload_n (q := 1) dX4_wrongSheet_0 rfl rfl ?_
  refine x_callS1v (q := 4) dX4_wrongSheet_1 rfl ml_X4_185 ms_X4_isNoSheet c_X4_isNoSheet (Nat.le_of_ble_eq_true rfl) ⟨by decide, by decide⟩ ?_
  refine x_ifB_eq (q := 7) (t := 10) dX4_wrongSheet_4 rfl (by decide) (fun h4 => ?_) (fun h4 => ?_)
  · refine x_aload_n (q := 11) dX4_wrongSheet_10 rfl rfl ?_
    refine x_getR (q := 14) dX4_wrongSheet_11 rfl fl_X4_35 (or4_sheets) ?_
    refine x_iload_n (q := 15) dX4_wrongSheet_14 rfl rfl ?_
    refine x_sheet (q := 16) dX4_wrongSheet_15 rfl (ix_nI hs (by decide)) ?_
    refine x_callV0v (q := 19) dX4_wrongSheet_16 rfl ml_X4_197 mv_X2_isMissing (rv2 hs) rfl (c_X2_isMissing hs) (Nat.le_of_ble_eq_true rfl) ⟨by decide, by decide⟩ ?_
    refine x_ifB_eq (q := 22) (t := 27) dX4_wrongSheet_19 rfl (by decide) (fun h19 => ?_) (fun h19 => ?_)
    · refine x_iconst (q := 28) (v := 0) dX4_wrongSheet_27 rfl (by decide) ?_
      refine x_ireturn dX4_wrongSheet_28 rfl rfl ?_
      exact ⟨rfl, rfl⟩
    exact absurd h19 (by rw [decide_eq_false hb]; decide)
  exact absurd (by show outI (nI s) 0 3 = false; exact rng_in (a := 0) (b := 3) (Nat.zero_le s) (by omega) (by decide)) (by rw [h4]; decide)
theorem dX4_sheet_0 : decode cX4_sheet 0 = .ok (.iload_n 1, 1) := by decide +kernel
theorem dX4_sheet_1 : decode cX4_sheet 1 = .ok (.invokestatic 185, 3) := by decide +kernel
theorem dX4_sheet_4 : decode cX4_sheet 4 = .ok (.ifCond .ne 25, 3) := by decide +kernel
theorem dX4_sheet_7 : decode cX4_sheet 7 = .ok (.iload_n 2, 1) := by decide +kernel
theorem dX4_sheet_8 : decode cX4_sheet 8 = .ok (.ifCond .eq 28, 3) := by decide +kernel
theorem dX4_sheet_11 : decode cX4_sheet 11 = .ok (.iload_n 2, 1) := by decide +kernel
theorem dX4_sheet_12 : decode cX4_sheet 12 = .ok (.bipush 8, 2) := by decide +kernel
theorem dX4_sheet_14 : decode cX4_sheet 14 = .ok (.if_icmp .eq 22, 3) := by decide +kernel
theorem dX4_sheet_17 : decode cX4_sheet 17 = .ok (.iload_n 2, 1) := by decide +kernel
theorem dX4_sheet_18 : decode cX4_sheet 18 = .ok (.bipush 16, 2) := by decide +kernel
theorem dX4_sheet_20 : decode cX4_sheet 20 = .ok (.if_icmp .eq 16, 3) := by decide +kernel
theorem dX4_sheet_23 : decode cX4_sheet 23 = .ok (.iload_n 2, 1) := by decide +kernel
theorem dX4_sheet_24 : decode cX4_sheet 24 = .ok (.bipush 32, 2) := by decide +kernel
theorem dX4_sheet_26 : decode cX4_sheet 26 = .ok (.if_icmp .eq 10, 3) := by decide +kernel
theorem dX4_sheet_29 : decode cX4_sheet 29 = .ok (.aload_n 0, 1) := by decide +kernel
theorem dX4_sheet_30 : decode cX4_sheet 30 = .ok (.ldc 48, 2) := by decide +kernel
theorem dX4_sheet_32 : decode cX4_sheet 32 = .ok (.invokevirtual 49, 3) := by decide +kernel
theorem dX4_sheet_35 : decode cX4_sheet 35 = .ok (.ireturn, 1) := by decide +kernel
theorem dX4_sheet_36 : decode cX4_sheet 36 = .ok (.iload_n 3, 1) := by decide +kernel
theorem dX4_sheet_37 : decode cX4_sheet 37 = .ok (.ifCond .ge 10, 3) := by decide +kernel
theorem dX4_sheet_40 : decode cX4_sheet 40 = .ok (.aload_n 0, 1) := by decide +kernel
theorem dX4_sheet_41 : decode cX4_sheet 41 = .ok (.ldc 188, 2) := by decide +kernel
theorem dX4_sheet_43 : decode cX4_sheet 43 = .ok (.invokevirtual 49, 3) := by decide +kernel
theorem dX4_sheet_46 : decode cX4_sheet 46 = .ok (.ireturn, 1) := by decide +kernel
theorem dX4_sheet_47 : decode cX4_sheet 47 = .ok (.iload_n 3, 1) := by decide +kernel
theorem dX4_sheet_48 : decode cX4_sheet 48 = .ok (.bipush 40, 2) := by decide +kernel
theorem dX4_sheet_50 : decode cX4_sheet 50 = .ok (.if_icmp .le 10, 3) := by decide +kernel
theorem dX4_sheet_53 : decode cX4_sheet 53 = .ok (.aload_n 0, 1) := by decide +kernel
theorem dX4_sheet_54 : decode cX4_sheet 54 = .ok (.ldc 48, 2) := by decide +kernel
theorem dX4_sheet_56 : decode cX4_sheet 56 = .ok (.invokevirtual 49, 3) := by decide +kernel
theorem dX4_sheet_59 : decode cX4_sheet 59 = .ok (.ireturn, 1) := by decide +kernel
theorem dX4_sheet_60 : decode cX4_sheet 60 = .ok (.aload_n 0, 1) := by decide +kernel
theorem dX4_sheet_61 : decode cX4_sheet 61 = .ok (.getfield 35, 3) := by decide +kernel
theorem dX4_sheet_64 : decode cX4_sheet 64 = .ok (.iload_n 1, 1) := by decide +kernel
theorem dX4_sheet_65 : decode cX4_sheet 65 = .ok (.aaload, 1) := by decide +kernel
theorem dX4_sheet_66 : decode cX4_sheet 66 = .ok (.iload_n 2, 1) := by decide +kernel
theorem dX4_sheet_67 : decode cX4_sheet 67 = .ok (.iload_n 3, 1) := by decide +kernel
theorem dX4_sheet_68 : decode cX4_sheet 68 = .ok (.invokevirtual 189, 3) := by decide +kernel
theorem dX4_sheet_71 : decode cX4_sheet 71 = .ok (.aload_n 0, 1) := by decide +kernel
theorem dX4_sheet_72 : decode cX4_sheet 72 = .ok (.getfield 35, 3) := by decide +kernel
theorem dX4_sheet_75 : decode cX4_sheet 75 = .ok (.iload_n 1, 1) := by decide +kernel
theorem dX4_sheet_76 : decode cX4_sheet 76 = .ok (.aaload, 1) := by decide +kernel
theorem dX4_sheet_77 : decode cX4_sheet 77 = .ok (.getfield 192, 3) := by decide +kernel
theorem dX4_sheet_80 : decode cX4_sheet 80 = .ok (.ireturn, 1) := by decide +kernel
set_option maxRecDepth 20000 in
set_option maxHeartbeats 4000000 in
theorem c_X4_sheet {K : Cx} {x b n : Int32} {m : TM} : CT yX4_sheet cX4_sheet 4 (some .int) 2 44 K [.ref 0, .int x, .int b, .int n] (m) (some (.int ((if (outI x 0 3 || !bok b) = true then -1000001 else (if n < 0 then -1000007 else (if 40 < n then -1000001 else if b = 0 then 0 else n)))))) ((if (outI x 0 3 || !bok b) = true then fnd m 0 else (if n < 0 then fnd m 6 else (if 40 < n then fnd m 0 else sr (shB m (cl x) b n) 43 (zr ((shB m (cl x) b n).1 43) (40 * cl x) 40))))) := by
  refine ct_ofd (n := 0) (by decide +kernel) rfl rfl ?_
  show XX RX4 cX4_sheet 4 (some .int) 2 44 K 0 [some (.ref 0), some (.int x), some (.int b), some (.int n)] [] (m) (fun r1 m1 => r1 = (some (.int ((if (outI x 0 3 || !bok b) = true then -1000001 else (if n < 0 then -1000007 else (if 40 < n then -1000001 else if b = 0 then 0 else n)))))) ∧ m1 = (if (outI x 0 3 || !bok b) = true then fnd m 0 else (if n < 0 then fnd m 6 else (if 40 < n then fnd m 0 else sr (shB m (cl x) b n) 43 (zr ((shB m (cl x) b n).1 43) (40 * cl x) 40)))))
  refine x_iload_n (q := 1) dX4_sheet_0 rfl rfl ?_
  refine x_callS1v (q := 4) dX4_sheet_1 rfl ml_X4_185 ms_X4_isNoSheet c_X4_isNoSheet (Nat.le_of_ble_eq_true rfl) ⟨by decide, by decide⟩ ?_
  refine x_ifB_ne (q := 7) (t := 29) dX4_sheet_4 rfl (by decide) (fun h4 => ?_) (fun h4 => ?_)
  · refine x_aload_n (q := 30) dX4_sheet_29 rfl rfl ?_
    refine x_ldc (q := 32) dX4_sheet_30 rfl kc_X4_48 ?_
    refine x_callV1v (q := 35) dX4_sheet_32 rfl ml_X4_49 mv_X4_finding rv4 rfl (c_X4_finding (w := 0) (by decide) (by decide)) (Nat.le_of_ble_eq_true rfl) ⟨by decide, by decide⟩ ?_
    refine x_ireturn dX4_sheet_35 rfl rfl ?_
    exact ⟨by simp [h4], by simp [h4]⟩
  refine x_iload_n (q := 8) dX4_sheet_7 rfl rfl ?_
  refine x_if_eq (q := 11) (t := 36) dX4_sheet_8 rfl (by decide) (fun h8 => ?_) (fun h8 => ?_)
  · refine x_iload_n (q := 37) dX4_sheet_36 rfl rfl ?_
    refine x_if_ge (q := 40) (t := 47) dX4_sheet_37 rfl (by decide) (fun h37 => ?_) (fun h37 => ?_)
    · refine x_iload_n (q := 48) dX4_sheet_47 rfl rfl ?_
      refine x_bipush (q := 50) (v := 40) dX4_sheet_48 rfl (by decide) ?_
      refine x_icmp_le (q := 53) (t := 60) dX4_sheet_50 rfl (by decide) (fun h50 => ?_) (fun h50 => ?_)
      · refine x_aload_n (q := 61) dX4_sheet_60 rfl rfl ?_
        refine x_getR (q := 64) dX4_sheet_61 rfl fl_X4_35 (or4_sheets) ?_
        refine x_iload_n (q := 65) dX4_sheet_64 rfl rfl ?_
        refine x_sheet (q := 66) dX4_sheet_65 rfl (ix_out h4 (n := 4) (by decide)) ?_
        refine x_iload_n (q := 67) dX4_sheet_66 rfl rfl ?_
        refine x_iload_n (q := 68) dX4_sheet_67 rfl rfl ?_
        refine x_callV2n (q := 71) dX4_sheet_68 rfl ml_X4_189 mv_X2_begin (rv2 (ix_out h4 (n := 4) (by decide)).2.2) rfl (c_X2_begin (ix_out h4 (n := 4) (by decide)).2.2) (Nat.le_of_ble_eq_true rfl) ⟨by decide, by decide⟩ ?_
        refine x_aload_n (q := 72) dX4_sheet_71 rfl rfl ?_
        refine x_getR (q := 75) dX4_sheet_72 rfl fl_X4_35 (or4_sheets) ?_
        refine x_iload_n (q := 76) dX4_sheet_75 rfl rfl ?_
        refine x_sheet (q := 77) dX4_sheet_76 rfl (ix_out h4 (n := 4) (by decide)) ?_
        refine x_getI (q := 80) dX4_sheet_77 rfl fl_X4_192 (ob2_len (ix_out h4 (n := 4) (by decide)).2.2) ?_
        refine x_ireturn dX4_sheet_80 rfl rfl ?_
        have hb : bok b = true := by simp [bok, h8]
        have h38 : ¬ n < 0 := Int32.not_lt.mpr h37
        have h51 : ¬ 40 < n := Int32.not_lt.mpr h50
        refine ⟨?_, by simp [h4, hb, h38, h51]⟩
        rw [sr_ne (by decide)]
        simp [h4, hb, h38, h51, shB, st1]
      refine x_aload_n (q := 54) dX4_sheet_53 rfl rfl ?_
      refine x_ldc (q := 56) dX4_sheet_54 rfl kc_X4_48 ?_
      refine x_callV1v (q := 59) dX4_sheet_56 rfl ml_X4_49 mv_X4_finding rv4 rfl (c_X4_finding (w := 0) (by decide) (by decide)) (Nat.le_of_ble_eq_true rfl) ⟨by decide, by decide⟩ ?_
      refine x_ireturn dX4_sheet_59 rfl rfl ?_
      have hb : bok b = true := by simp [bok, h8]
      have h38 : ¬ n < 0 := Int32.not_lt.mpr h37
      have h51 : 40 < n := Int32.not_le.mp h50
      exact ⟨by simp [h4, hb, h38, h51], by simp [h4, hb, h38, h51]⟩
    refine x_aload_n (q := 41) dX4_sheet_40 rfl rfl ?_
    refine x_ldc (q := 43) dX4_sheet_41 rfl kc_X4_188 ?_
    refine x_callV1v (q := 46) dX4_sheet_43 rfl ml_X4_49 mv_X4_finding rv4 rfl (c_X4_finding (w := 6) (by decide) (by decide)) (Nat.le_of_ble_eq_true rfl) ⟨by decide, by decide⟩ ?_
    refine x_ireturn dX4_sheet_46 rfl rfl ?_
    have hb : bok b = true := by simp [bok, h8]
    have h38 : n < 0 := Int32.not_le.mp h37
    exact ⟨by simp [h4, hb, h38], by simp [h4, hb, h38]⟩
  refine x_iload_n (q := 12) dX4_sheet_11 rfl rfl ?_
  refine x_bipush (q := 14) (v := 8) dX4_sheet_12 rfl (by decide) ?_
  refine x_icmp_eq (q := 17) (t := 36) dX4_sheet_14 rfl (by decide) (fun h14 => ?_) (fun h14 => ?_)
  · refine x_iload_n (q := 37) dX4_sheet_36 rfl rfl ?_
    refine x_if_ge (q := 40) (t := 47) dX4_sheet_37 rfl (by decide) (fun h37 => ?_) (fun h37 => ?_)
    · refine x_iload_n (q := 48) dX4_sheet_47 rfl rfl ?_
      refine x_bipush (q := 50) (v := 40) dX4_sheet_48 rfl (by decide) ?_
      refine x_icmp_le (q := 53) (t := 60) dX4_sheet_50 rfl (by decide) (fun h50 => ?_) (fun h50 => ?_)
      · refine x_aload_n (q := 61) dX4_sheet_60 rfl rfl ?_
        refine x_getR (q := 64) dX4_sheet_61 rfl fl_X4_35 (or4_sheets) ?_
        refine x_iload_n (q := 65) dX4_sheet_64 rfl rfl ?_
        refine x_sheet (q := 66) dX4_sheet_65 rfl (ix_out h4 (n := 4) (by decide)) ?_
        refine x_iload_n (q := 67) dX4_sheet_66 rfl rfl ?_
        refine x_iload_n (q := 68) dX4_sheet_67 rfl rfl ?_
        refine x_callV2n (q := 71) dX4_sheet_68 rfl ml_X4_189 mv_X2_begin (rv2 (ix_out h4 (n := 4) (by decide)).2.2) rfl (c_X2_begin (ix_out h4 (n := 4) (by decide)).2.2) (Nat.le_of_ble_eq_true rfl) ⟨by decide, by decide⟩ ?_
        refine x_aload_n (q := 72) dX4_sheet_71 rfl rfl ?_
        refine x_getR (q := 75) dX4_sheet_72 rfl fl_X4_35 (or4_sheets) ?_
        refine x_iload_n (q := 76) dX4_sheet_75 rfl rfl ?_
        refine x_sheet (q := 77) dX4_sheet_76 rfl (ix_out h4 (n := 4) (by decide)) ?_
        refine x_getI (q := 80) dX4_sheet_77 rfl fl_X4_192 (ob2_len (ix_out h4 (n := 4) (by decide)).2.2) ?_
        refine x_ireturn dX4_sheet_80 rfl rfl ?_
        have hb : bok b = true := by simp [bok, h8, h14]
        have h38 : ¬ n < 0 := Int32.not_lt.mpr h37
        have h51 : ¬ 40 < n := Int32.not_lt.mpr h50
        refine ⟨?_, by simp [h4, hb, h38, h51]⟩
        rw [sr_ne (by decide)]
        simp [h4, hb, h38, h51, shB, st1]
      refine x_aload_n (q := 54) dX4_sheet_53 rfl rfl ?_
      refine x_ldc (q := 56) dX4_sheet_54 rfl kc_X4_48 ?_
      refine x_callV1v (q := 59) dX4_sheet_56 rfl ml_X4_49 mv_X4_finding rv4 rfl (c_X4_finding (w := 0) (by decide) (by decide)) (Nat.le_of_ble_eq_true rfl) ⟨by decide, by decide⟩ ?_
      refine x_ireturn dX4_sheet_59 rfl rfl ?_
      have hb : bok b = true := by simp [bok, h8, h14]
      have h38 : ¬ n < 0 := Int32.not_lt.mpr h37
      have h51 : 40 < n := Int32.not_le.mp h50
      exact ⟨by simp [h4, hb, h38, h51], by simp [h4, hb, h38, h51]⟩
    refine x_aload_n (q := 41) dX4_sheet_40 rfl rfl ?_
    refine x_ldc (q := 43) dX4_sheet_41 rfl kc_X4_188 ?_
    refine x_callV1v (q := 46) dX4_sheet_43 rfl ml_X4_49 mv_X4_finding rv4 rfl (c_X4_finding (w := 6) (by decide) (by decide)) (Nat.le_of_ble_eq_true rfl) ⟨by decide, by decide⟩ ?_
    refine x_ireturn dX4_sheet_46 rfl rfl ?_
    have hb : bok b = true := by simp [bok, h8, h14]
    have h38 : n < 0 := Int32.not_le.mp h37
    exact ⟨by simp [h4, hb, h38], by simp [h4, hb, h38]⟩
  refine x_iload_n (q := 18) dX4_sheet_17 rfl rfl ?_
  refine x_bipush (q := 20) (v := 16) dX4_sheet_18 rfl (by decide) ?_
  refine x_icmp_eq (q := 23) (t := 36) dX4_sheet_20 rfl (by decide) (fun h20 => ?_) (fun h20 => ?_)
  · refine x_iload_n (q := 37) dX4_sheet_36 rfl rfl ?_
    refine x_if_ge (q := 40) (t := 47) dX4_sheet_37 rfl (by decide) (fun h37 => ?_) (fun h37 => ?_)
    · refine x_iload_n (q := 48) dX4_sheet_47 rfl rfl ?_
      refine x_bipush (q := 50) (v := 40) dX4_sheet_48 rfl (by decide) ?_
      refine x_icmp_le (q := 53) (t := 60) dX4_sheet_50 rfl (by decide) (fun h50 => ?_) (fun h50 => ?_)
      · refine x_aload_n (q := 61) dX4_sheet_60 rfl rfl ?_
        refine x_getR (q := 64) dX4_sheet_61 rfl fl_X4_35 (or4_sheets) ?_
        refine x_iload_n (q := 65) dX4_sheet_64 rfl rfl ?_
        refine x_sheet (q := 66) dX4_sheet_65 rfl (ix_out h4 (n := 4) (by decide)) ?_
        refine x_iload_n (q := 67) dX4_sheet_66 rfl rfl ?_
        refine x_iload_n (q := 68) dX4_sheet_67 rfl rfl ?_
        refine x_callV2n (q := 71) dX4_sheet_68 rfl ml_X4_189 mv_X2_begin (rv2 (ix_out h4 (n := 4) (by decide)).2.2) rfl (c_X2_begin (ix_out h4 (n := 4) (by decide)).2.2) (Nat.le_of_ble_eq_true rfl) ⟨by decide, by decide⟩ ?_
        refine x_aload_n (q := 72) dX4_sheet_71 rfl rfl ?_
        refine x_getR (q := 75) dX4_sheet_72 rfl fl_X4_35 (or4_sheets) ?_
        refine x_iload_n (q := 76) dX4_sheet_75 rfl rfl ?_
        refine x_sheet (q := 77) dX4_sheet_76 rfl (ix_out h4 (n := 4) (by decide)) ?_
        refine x_getI (q := 80) dX4_sheet_77 rfl fl_X4_192 (ob2_len (ix_out h4 (n := 4) (by decide)).2.2) ?_
        refine x_ireturn dX4_sheet_80 rfl rfl ?_
        have hb : bok b = true := by simp [bok, h8, h14, h20]
        have h38 : ¬ n < 0 := Int32.not_lt.mpr h37
        have h51 : ¬ 40 < n := Int32.not_lt.mpr h50
        refine ⟨?_, by simp [h4, hb, h38, h51]⟩
        rw [sr_ne (by decide)]
        simp [h4, hb, h38, h51, shB, st1]
      refine x_aload_n (q := 54) dX4_sheet_53 rfl rfl ?_
      refine x_ldc (q := 56) dX4_sheet_54 rfl kc_X4_48 ?_
      refine x_callV1v (q := 59) dX4_sheet_56 rfl ml_X4_49 mv_X4_finding rv4 rfl (c_X4_finding (w := 0) (by decide) (by decide)) (Nat.le_of_ble_eq_true rfl) ⟨by decide, by decide⟩ ?_
      refine x_ireturn dX4_sheet_59 rfl rfl ?_
      have hb : bok b = true := by simp [bok, h8, h14, h20]
      have h38 : ¬ n < 0 := Int32.not_lt.mpr h37
      have h51 : 40 < n := Int32.not_le.mp h50
      exact ⟨by simp [h4, hb, h38, h51], by simp [h4, hb, h38, h51]⟩
    refine x_aload_n (q := 41) dX4_sheet_40 rfl rfl ?_
    refine x_ldc (q := 43) dX4_sheet_41 rfl kc_X4_188 ?_
    refine x_callV1v (q := 46) dX4_sheet_43 rfl ml_X4_49 mv_X4_finding rv4 rfl (c_X4_finding (w := 6) (by decide) (by decide)) (Nat.le_of_ble_eq_true rfl) ⟨by decide, by decide⟩ ?_
    refine x_ireturn dX4_sheet_46 rfl rfl ?_
    have hb : bok b = true := by simp [bok, h8, h14, h20]
    have h38 : n < 0 := Int32.not_le.mp h37
    exact ⟨by simp [h4, hb, h38], by simp [h4, hb, h38]⟩
  refine x_iload_n (q := 24) dX4_sheet_23 rfl rfl ?_
  refine x_bipush (q := 26) (v := 32) dX4_sheet_24 rfl (by decide) ?_
  refine x_icmp_eq (q := 29) (t := 36) dX4_sheet_26 rfl (by decide) (fun h26 => ?_) (fun h26 => ?_)
  · refine x_iload_n (q := 37) dX4_sheet_36 rfl rfl ?_
    refine x_if_ge (q := 40) (t := 47) dX4_sheet_37 rfl (by decide) (fun h37 => ?_) (fun h37 => ?_)
    · refine x_iload_n (q := 48) dX4_sheet_47 rfl rfl ?_
      refine x_bipush (q := 50) (v := 40) dX4_sheet_48 rfl (by decide) ?_
      refine x_icmp_le (q := 53) (t := 60) dX4_sheet_50 rfl (by decide) (fun h50 => ?_) (fun h50 => ?_)
      · refine x_aload_n (q := 61) dX4_sheet_60 rfl rfl ?_
        refine x_getR (q := 64) dX4_sheet_61 rfl fl_X4_35 (or4_sheets) ?_
        refine x_iload_n (q := 65) dX4_sheet_64 rfl rfl ?_
        refine x_sheet (q := 66) dX4_sheet_65 rfl (ix_out h4 (n := 4) (by decide)) ?_
        refine x_iload_n (q := 67) dX4_sheet_66 rfl rfl ?_
        refine x_iload_n (q := 68) dX4_sheet_67 rfl rfl ?_
        refine x_callV2n (q := 71) dX4_sheet_68 rfl ml_X4_189 mv_X2_begin (rv2 (ix_out h4 (n := 4) (by decide)).2.2) rfl (c_X2_begin (ix_out h4 (n := 4) (by decide)).2.2) (Nat.le_of_ble_eq_true rfl) ⟨by decide, by decide⟩ ?_
        refine x_aload_n (q := 72) dX4_sheet_71 rfl rfl ?_
        refine x_getR (q := 75) dX4_sheet_72 rfl fl_X4_35 (or4_sheets) ?_
        refine x_iload_n (q := 76) dX4_sheet_75 rfl rfl ?_
        refine x_sheet (q := 77) dX4_sheet_76 rfl (ix_out h4 (n := 4) (by decide)) ?_
        refine x_getI (q := 80) dX4_sheet_77 rfl fl_X4_192 (ob2_len (ix_out h4 (n := 4) (by decide)).2.2) ?_
        refine x_ireturn dX4_sheet_80 rfl rfl ?_
        have hb : bok b = true := by simp [bok, h8, h14, h20, h26]
        have h38 : ¬ n < 0 := Int32.not_lt.mpr h37
        have h51 : ¬ 40 < n := Int32.not_lt.mpr h50
        refine ⟨?_, by simp [h4, hb, h38, h51]⟩
        rw [sr_ne (by decide)]
        simp [h4, hb, h38, h51, shB, st1]
      refine x_aload_n (q := 54) dX4_sheet_53 rfl rfl ?_
      refine x_ldc (q := 56) dX4_sheet_54 rfl kc_X4_48 ?_
      refine x_callV1v (q := 59) dX4_sheet_56 rfl ml_X4_49 mv_X4_finding rv4 rfl (c_X4_finding (w := 0) (by decide) (by decide)) (Nat.le_of_ble_eq_true rfl) ⟨by decide, by decide⟩ ?_
      refine x_ireturn dX4_sheet_59 rfl rfl ?_
      have hb : bok b = true := by simp [bok, h8, h14, h20, h26]
      have h38 : ¬ n < 0 := Int32.not_lt.mpr h37
      have h51 : 40 < n := Int32.not_le.mp h50
      exact ⟨by simp [h4, hb, h38, h51], by simp [h4, hb, h38, h51]⟩
    refine x_aload_n (q := 41) dX4_sheet_40 rfl rfl ?_
    refine x_ldc (q := 43) dX4_sheet_41 rfl kc_X4_188 ?_
    refine x_callV1v (q := 46) dX4_sheet_43 rfl ml_X4_49 mv_X4_finding rv4 rfl (c_X4_finding (w := 6) (by decide) (by decide)) (Nat.le_of_ble_eq_true rfl) ⟨by decide, by decide⟩ ?_
    refine x_ireturn dX4_sheet_46 rfl rfl ?_
    have hb : bok b = true := by simp [bok, h8, h14, h20, h26]
    have h38 : n < 0 := Int32.not_le.mp h37
    exact ⟨by simp [h4, hb, h38], by simp [h4, hb, h38]⟩
  refine x_aload_n (q := 30) dX4_sheet_29 rfl rfl ?_
  refine x_ldc (q := 32) dX4_sheet_30 rfl kc_X4_48 ?_
  refine x_callV1v (q := 35) dX4_sheet_32 rfl ml_X4_49 mv_X4_finding rv4 rfl (c_X4_finding (w := 0) (by decide) (by decide)) (Nat.le_of_ble_eq_true rfl) ⟨by decide, by decide⟩ ?_
  refine x_ireturn dX4_sheet_35 rfl rfl ?_
  have hb : bok b = false := by simp [bok, h8, h14, h20, h26]
  exact ⟨by simp [h4, hb], by simp [h4, hb]⟩
theorem dX4_write_0 : decode cX4_write 0 = .ok (.aload_n 0, 1) := by decide +kernel
theorem dX4_write_1 : decode cX4_write 1 = .ok (.iload_n 1, 1) := by decide +kernel
theorem dX4_write_2 : decode cX4_write 2 = .ok (.invokevirtual 193, 3) := by decide +kernel
theorem dX4_write_5 : decode cX4_write 5 = .ok (.istore 4, 2) := by decide +kernel
theorem dX4_write_7 : decode cX4_write 7 = .ok (.iload 4, 2) := by decide +kernel
theorem dX4_write_9 : decode cX4_write 9 = .ok (.ifCond .eq 10, 3) := by decide +kernel
theorem dX4_write_12 : decode cX4_write 12 = .ok (.aload_n 0, 1) := by decide +kernel
theorem dX4_write_13 : decode cX4_write 13 = .ok (.iload 4, 2) := by decide +kernel
theorem dX4_write_15 : decode cX4_write 15 = .ok (.invokevirtual 49, 3) := by decide +kernel
theorem dX4_write_18 : decode cX4_write 18 = .ok (.ireturn, 1) := by decide +kernel
theorem dX4_write_19 : decode cX4_write 19 = .ok (.iload_n 2, 1) := by decide +kernel
theorem dX4_write_20 : decode cX4_write 20 = .ok (.iconst 0, 1) := by decide +kernel
theorem dX4_write_21 : decode cX4_write 21 = .ok (.aload_n 0, 1) := by decide +kernel
theorem dX4_write_22 : decode cX4_write 22 = .ok (.getfield 35, 3) := by decide +kernel
theorem dX4_write_25 : decode cX4_write 25 = .ok (.iload_n 1, 1) := by decide +kernel
theorem dX4_write_26 : decode cX4_write 26 = .ok (.aaload, 1) := by decide +kernel
theorem dX4_write_27 : decode cX4_write 27 = .ok (.getfield 192, 3) := by decide +kernel
theorem dX4_write_30 : decode cX4_write 30 = .ok (.iconst 1, 1) := by decide +kernel
theorem dX4_write_31 : decode cX4_write 31 = .ok (.isub, 1) := by decide +kernel
theorem dX4_write_32 : decode cX4_write 32 = .ok (.invokestatic 44, 3) := by decide +kernel
theorem dX4_write_35 : decode cX4_write 35 = .ok (.ifCond .eq 10, 3) := by decide +kernel
theorem dX4_write_38 : decode cX4_write 38 = .ok (.aload_n 0, 1) := by decide +kernel
theorem dX4_write_39 : decode cX4_write 39 = .ok (.ldc 48, 2) := by decide +kernel
theorem dX4_write_41 : decode cX4_write 41 = .ok (.invokevirtual 49, 3) := by decide +kernel
theorem dX4_write_44 : decode cX4_write 44 = .ok (.ireturn, 1) := by decide +kernel
theorem dX4_write_45 : decode cX4_write 45 = .ok (.aload_n 0, 1) := by decide +kernel
theorem dX4_write_46 : decode cX4_write 46 = .ok (.getfield 35, 3) := by decide +kernel
theorem dX4_write_49 : decode cX4_write 49 = .ok (.iload_n 1, 1) := by decide +kernel
theorem dX4_write_50 : decode cX4_write 50 = .ok (.aaload, 1) := by decide +kernel
theorem dX4_write_51 : decode cX4_write 51 = .ok (.iload_n 2, 1) := by decide +kernel
theorem dX4_write_52 : decode cX4_write 52 = .ok (.iload_n 3, 1) := by decide +kernel
theorem dX4_write_53 : decode cX4_write 53 = .ok (.invokevirtual 196, 3) := by decide +kernel
theorem dX4_write_56 : decode cX4_write 56 = .ok (.iconst 1, 1) := by decide +kernel
theorem dX4_write_57 : decode cX4_write 57 = .ok (.ireturn, 1) := by decide +kernel
set_option maxRecDepth 20000 in
set_option maxHeartbeats 4000000 in
theorem c_X4_writeA {K : Cx} {x : Int32} {y : Int32} {v : Int32} {m : TM} (hb : outI x 0 3 = true) : CT yX4_write cX4_write 5 (some .int) 3 63 K [.ref 0, .int x, .int y, .int v] (m) (some (.int (-1000001))) (fnd m 0) := by
  refine ct_ofd (n := 1) (by decide +kernel) rfl rfl ?_
  show XX RX4 cX4_write 5 (some .int) 3 63 K 0 [some (.ref 0), some (.int x), some (.int y), some (.int v), none] [] (m) (fun r1 m1 => r1 = (some (.int (-1000001))) ∧ m1 = fnd m 0)
  refine x_aload_n (q := 1) dX4_write_0 rfl rfl ?_
  refine x_iload_n (q := 2) dX4_write_1 rfl rfl ?_
  refine x_callV1v (q := 5) dX4_write_2 rfl ml_X4_193 mv_X4_wrongSheet rv4 rfl (c_X4_wsA hb) (Nat.le_of_ble_eq_true rfl) ⟨by decide, by decide⟩ ?_
  refine x_istore (q := 7) dX4_write_5 rfl (by decide) rfl rfl ?_
  refine x_iload (q := 9) dX4_write_7 rfl rfl ?_
  refine x_if_eq (q := 12) (t := 19) dX4_write_9 rfl (by decide) (fun h => absurd h (by decide)) (fun _ => ?_)
  refine x_aload_n (q := 13) dX4_write_12 rfl rfl ?_
  refine x_iload (q := 15) dX4_write_13 rfl rfl ?_
  refine x_callV1v (q := 18) dX4_write_15 rfl ml_X4_49 mv_X4_finding rv4 rfl (c_X4_finding (w := 0) (by decide) (by decide)) (Nat.le_of_ble_eq_true rfl) ⟨by decide, by decide⟩ ?_
  refine x_ireturn dX4_write_18 rfl rfl ?_
  exact ⟨rfl, rfl⟩
set_option maxRecDepth 20000 in
set_option maxHeartbeats 4000000 in
theorem c_X4_writeB {K : Cx} {s : Nat} {y : Int32} {v : Int32} {m : TM} (hs : s < 4) (hb : m.1 41 s = 0) : CT yX4_write cX4_write 5 (some .int) 3 63 K [.ref 0, .int (nI s), .int y, .int v] (m) (some (.int (-1000006))) (fnd m 5) := by
  refine ct_ofd (n := 1) (by decide +kernel) rfl rfl ?_
  show XX RX4 cX4_write 5 (some .int) 3 63 K 0 [some (.ref 0), some (.int (nI s)), some (.int y), some (.int v), none] [] (m) (fun r1 m1 => r1 = (some (.int (-1000006))) ∧ m1 = fnd m 5)
  refine x_aload_n (q := 1) dX4_write_0 rfl rfl ?_
  refine x_iload_n (q := 2) dX4_write_1 rfl rfl ?_
  refine x_callV1v (q := 5) dX4_write_2 rfl ml_X4_193 mv_X4_wrongSheet rv4 rfl (c_X4_wsB hs hb) (Nat.le_of_ble_eq_true rfl) ⟨by decide, by decide⟩ ?_
  refine x_istore (q := 7) dX4_write_5 rfl (by decide) rfl rfl ?_
  refine x_iload (q := 9) dX4_write_7 rfl rfl ?_
  refine x_if_eq (q := 12) (t := 19) dX4_write_9 rfl (by decide) (fun h => absurd h (by decide)) (fun _ => ?_)
  refine x_aload_n (q := 13) dX4_write_12 rfl rfl ?_
  refine x_iload (q := 15) dX4_write_13 rfl rfl ?_
  refine x_callV1v (q := 18) dX4_write_15 rfl ml_X4_49 mv_X4_finding rv4 rfl (c_X4_finding (w := 5) (by decide) (by decide)) (Nat.le_of_ble_eq_true rfl) ⟨by decide, by decide⟩ ?_
  refine x_ireturn dX4_write_18 rfl rfl ?_
  exact ⟨rfl, rfl⟩
theorem ix_len {y : Int32} {z : Nat} (h : outI y 0 (nI z - 1) = false) (hz : z ≤ 40) : IX y (cl y) 40 ∧ cl y < z := by
  have h1 := h
  unfold outI at h
  rw [Bool.or_eq_false_iff] at h
  have h2 := of_decide_eq_false h.1
  have h3 := of_decide_eq_false h.2
  have e := toInt_clamp h2
  cases z with
  | zero =>
    exfalso
    rw [Int32.lt_iff_toInt_lt] at h2 h3
    have z1 : (nI 0 - 1 : Int32).toInt = -1 := by decide
    have z0 : (0 : Int32).toInt = 0 := by decide
    rw [z1] at h3
    rw [z0] at h2
    omega
  | succ k =>
    rw [nI_pred, Int32.lt_iff_toInt_lt, jnI_toInt (by omega)] at h3
    have hk : cl y < k + 1 := by unfold cl; omega
    exact ⟨⟨h2, rfl, by omega⟩, hk⟩
set_option maxRecDepth 20000 in
set_option maxHeartbeats 4000000 in
theorem c_X4_write {K : Cx} {s z : Nat} {y v : Int32} {m : TM} (hs : s < 4) (hb : ¬ m.1 41 s = 0) (hz : m.1 42 s = nI z) (hz40 : z ≤ 40) : CT yX4_write cX4_write 5 (some .int) 3 63 K [.ref 0, .int (nI s), .int y, .int v] (m) (some (.int ((if (outI y 0 (nI z - 1)) = true then -1000001 else 1)))) ((if (outI y 0 (nI z - 1)) = true then fnd m 0 else st1 m 43 (40 * s + cl y) (nrw (m.1 41 s) v))) := by
  refine ct_ofd (n := 1) (by decide +kernel) rfl rfl ?_
  show XX RX4 cX4_write 5 (some .int) 3 63 K 0 [some (.ref 0), some (.int (nI s)), some (.int y), some (.int v), none] [] (m) (fun r1 m1 => r1 = (some (.int ((if (outI y 0 (nI z - 1)) = true then -1000001 else 1)))) ∧ m1 = (if (outI y 0 (nI z - 1)) = true then fnd m 0 else st1 m 43 (40 * s + cl y) (nrw (m.1 41 s) v)))
  refine x_aload_n (q := 1) dX4_write_0 rfl rfl ?_
  refine x_iload_n (q := 2) dX4_write_1 rfl rfl ?_
  refine x_callV1v (q := 5) dX4_write_2 rfl ml_X4_193 mv_X4_wrongSheet rv4 rfl (c_X4_wsC hs hb) (Nat.le_of_ble_eq_true rfl) ⟨by decide, by decide⟩ ?_
  refine x_istore (q := 7) dX4_write_5 rfl (by decide) rfl rfl ?_
  refine x_iload (q := 9) dX4_write_7 rfl rfl ?_
  refine x_if_eq (q := 12) (t := 19) dX4_write_9 rfl (by decide) (fun _ => ?_) (fun h => absurd (by decide) h)
  refine x_iload_n (q := 20) dX4_write_19 rfl rfl ?_
  refine x_iconst (q := 21) (v := 0) dX4_write_20 rfl (by decide) ?_
  refine x_aload_n (q := 22) dX4_write_21 rfl rfl ?_
  refine x_getR (q := 25) dX4_write_22 rfl fl_X4_35 (or4_sheets) ?_
  refine x_iload_n (q := 26) dX4_write_25 rfl rfl ?_
  refine x_sheet (q := 27) dX4_write_26 rfl (ix_nI hs (by decide)) ?_
  refine x_getI (q := 30) dX4_write_27 rfl fl_X4_192 (ob2_len hs) ?_
  rw [hz]
  refine x_iconst (q := 31) (v := 1) dX4_write_30 rfl (by decide) ?_
  refine x_isub (q := 32) dX4_write_31 rfl ?_
  refine x_callS3v (q := 35) dX4_write_32 rfl ml_X4_44 ms_X4_isOut c_X4_isOut (Nat.le_of_ble_eq_true rfl) ⟨by decide, by decide⟩ ?_
  refine x_ifB_eq (q := 38) (t := 45) dX4_write_35 rfl (by decide) (fun h35 => ?_) (fun h35 => ?_)
  · refine x_aload_n (q := 46) dX4_write_45 rfl rfl ?_
    refine x_getR (q := 49) dX4_write_46 rfl fl_X4_35 (or4_sheets) ?_
    refine x_iload_n (q := 50) dX4_write_49 rfl rfl ?_
    refine x_sheet (q := 51) dX4_write_50 rfl (ix_nI hs (by decide)) ?_
    refine x_iload_n (q := 52) dX4_write_51 rfl rfl ?_
    refine x_iload_n (q := 53) dX4_write_52 rfl rfl ?_
    refine x_callV2n (q := 56) dX4_write_53 rfl ml_X4_196 mv_X2_put (rv2 hs) rfl (c_X2_put hs (ix_len h35 hz40).1) (Nat.le_of_ble_eq_true rfl) ⟨by decide, by decide⟩ ?_
    refine x_iconst (q := 57) (v := 1) dX4_write_56 rfl (by decide) ?_
    refine x_ireturn dX4_write_57 rfl rfl ?_
    exact ⟨by simp [h35], by simp [h35]⟩
  refine x_aload_n (q := 39) dX4_write_38 rfl rfl ?_
  refine x_ldc (q := 41) dX4_write_39 rfl kc_X4_48 ?_
  refine x_callV1v (q := 44) dX4_write_41 rfl ml_X4_49 mv_X4_finding rv4 rfl (c_X4_finding (w := 0) (by decide) (by decide)) (Nat.le_of_ble_eq_true rfl) ⟨by decide, by decide⟩ ?_
  refine x_ireturn dX4_write_44 rfl rfl ?_
  exact ⟨by simp [h35], by simp [h35]⟩
theorem dX4_copy_0 : decode cX4_copy 0 = .ok (.iload_n 1, 1) := by decide +kernel
theorem dX4_copy_1 : decode cX4_copy 1 = .ok (.invokestatic 185, 3) := by decide +kernel
theorem dX4_copy_4 : decode cX4_copy 4 = .ok (.ifCond .ne 10, 3) := by decide +kernel
theorem dX4_copy_7 : decode cX4_copy 7 = .ok (.iload_n 3, 1) := by decide +kernel
theorem dX4_copy_8 : decode cX4_copy 8 = .ok (.invokestatic 185, 3) := by decide +kernel
theorem dX4_copy_11 : decode cX4_copy 11 = .ok (.ifCond .eq 10, 3) := by decide +kernel
theorem dX4_copy_14 : decode cX4_copy 14 = .ok (.aload_n 0, 1) := by decide +kernel
theorem dX4_copy_15 : decode cX4_copy 15 = .ok (.ldc 48, 2) := by decide +kernel
theorem dX4_copy_17 : decode cX4_copy 17 = .ok (.invokevirtual 49, 3) := by decide +kernel
theorem dX4_copy_20 : decode cX4_copy 20 = .ok (.ireturn, 1) := by decide +kernel
theorem dX4_copy_21 : decode cX4_copy 21 = .ok (.aload_n 0, 1) := by decide +kernel
theorem dX4_copy_22 : decode cX4_copy 22 = .ok (.getfield 35, 3) := by decide +kernel
theorem dX4_copy_25 : decode cX4_copy 25 = .ok (.iload_n 1, 1) := by decide +kernel
theorem dX4_copy_26 : decode cX4_copy 26 = .ok (.aaload, 1) := by decide +kernel
theorem dX4_copy_27 : decode cX4_copy 27 = .ok (.astore 6, 2) := by decide +kernel
theorem dX4_copy_29 : decode cX4_copy 29 = .ok (.aload_n 0, 1) := by decide +kernel
theorem dX4_copy_30 : decode cX4_copy 30 = .ok (.getfield 35, 3) := by decide +kernel
theorem dX4_copy_33 : decode cX4_copy 33 = .ok (.iload_n 3, 1) := by decide +kernel
theorem dX4_copy_34 : decode cX4_copy 34 = .ok (.aaload, 1) := by decide +kernel
theorem dX4_copy_35 : decode cX4_copy 35 = .ok (.astore 7, 2) := by decide +kernel
theorem dX4_copy_37 : decode cX4_copy 37 = .ok (.aload 6, 2) := by decide +kernel
theorem dX4_copy_39 : decode cX4_copy 39 = .ok (.invokevirtual 197, 3) := by decide +kernel
theorem dX4_copy_42 : decode cX4_copy 42 = .ok (.ifCond .ne 11, 3) := by decide +kernel
theorem dX4_copy_45 : decode cX4_copy 45 = .ok (.aload 7, 2) := by decide +kernel
theorem dX4_copy_47 : decode cX4_copy 47 = .ok (.invokevirtual 197, 3) := by decide +kernel
theorem dX4_copy_50 : decode cX4_copy 50 = .ok (.ifCond .eq 10, 3) := by decide +kernel
theorem dX4_copy_53 : decode cX4_copy 53 = .ok (.aload_n 0, 1) := by decide +kernel
theorem dX4_copy_54 : decode cX4_copy 54 = .ok (.ldc 180, 2) := by decide +kernel
theorem dX4_copy_56 : decode cX4_copy 56 = .ok (.invokevirtual 49, 3) := by decide +kernel
theorem dX4_copy_59 : decode cX4_copy 59 = .ok (.ireturn, 1) := by decide +kernel
theorem dX4_copy_60 : decode cX4_copy 60 = .ok (.aload 6, 2) := by decide +kernel
theorem dX4_copy_62 : decode cX4_copy 62 = .ok (.getfield 201, 3) := by decide +kernel
theorem dX4_copy_65 : decode cX4_copy 65 = .ok (.aload 7, 2) := by decide +kernel
theorem dX4_copy_67 : decode cX4_copy 67 = .ok (.getfield 201, 3) := by decide +kernel
theorem dX4_copy_70 : decode cX4_copy 70 = .ok (.if_icmp .eq 10, 3) := by decide +kernel
theorem dX4_copy_73 : decode cX4_copy 73 = .ok (.aload_n 0, 1) := by decide +kernel
theorem dX4_copy_74 : decode cX4_copy 74 = .ok (.ldc 184, 2) := by decide +kernel
theorem dX4_copy_76 : decode cX4_copy 76 = .ok (.invokevirtual 49, 3) := by decide +kernel
theorem dX4_copy_79 : decode cX4_copy 79 = .ok (.ireturn, 1) := by decide +kernel
theorem dX4_copy_80 : decode cX4_copy 80 = .ok (.aload 6, 2) := by decide +kernel
theorem dX4_copy_82 : decode cX4_copy 82 = .ok (.iload_n 2, 1) := by decide +kernel
theorem dX4_copy_83 : decode cX4_copy 83 = .ok (.iload 5, 2) := by decide +kernel
theorem dX4_copy_85 : decode cX4_copy 85 = .ok (.invokevirtual 204, 3) := by decide +kernel
theorem dX4_copy_88 : decode cX4_copy 88 = .ok (.ifCond .ne 15, 3) := by decide +kernel
theorem dX4_copy_91 : decode cX4_copy 91 = .ok (.aload 7, 2) := by decide +kernel
theorem dX4_copy_93 : decode cX4_copy 93 = .ok (.iload 4, 2) := by decide +kernel
theorem dX4_copy_95 : decode cX4_copy 95 = .ok (.iload 5, 2) := by decide +kernel
theorem dX4_copy_97 : decode cX4_copy 97 = .ok (.invokevirtual 204, 3) := by decide +kernel
theorem dX4_copy_100 : decode cX4_copy 100 = .ok (.ifCond .eq 10, 3) := by decide +kernel
theorem dX4_copy_103 : decode cX4_copy 103 = .ok (.aload_n 0, 1) := by decide +kernel
theorem dX4_copy_104 : decode cX4_copy 104 = .ok (.ldc 48, 2) := by decide +kernel
theorem dX4_copy_106 : decode cX4_copy 106 = .ok (.invokevirtual 49, 3) := by decide +kernel
theorem dX4_copy_109 : decode cX4_copy 109 = .ok (.ireturn, 1) := by decide +kernel
theorem dX4_copy_110 : decode cX4_copy 110 = .ok (.aload 6, 2) := by decide +kernel
theorem dX4_copy_112 : decode cX4_copy 112 = .ok (.getfield 207, 3) := by decide +kernel
theorem dX4_copy_115 : decode cX4_copy 115 = .ok (.iload_n 2, 1) := by decide +kernel
theorem dX4_copy_116 : decode cX4_copy 116 = .ok (.aload 7, 2) := by decide +kernel
theorem dX4_copy_118 : decode cX4_copy 118 = .ok (.getfield 207, 3) := by decide +kernel
theorem dX4_copy_121 : decode cX4_copy 121 = .ok (.iload 4, 2) := by decide +kernel
theorem dX4_copy_123 : decode cX4_copy 123 = .ok (.iload 5, 2) := by decide +kernel
theorem dX4_copy_125 : decode cX4_copy 125 = .ok (.invokestatic 210, 3) := by decide +kernel
theorem dX4_copy_128 : decode cX4_copy 128 = .ok (.iload 5, 2) := by decide +kernel
theorem dX4_copy_130 : decode cX4_copy 130 = .ok (.ireturn, 1) := by decide +kernel
theorem hn_f {z f n : Int32} {Z : Nat} (hz : z = nI Z) (h40 : Z ≤ 40) (h : hnF z f n = false) : ¬ f < 0 ∧ ¬ n < 0 ∧ cl f + cl n ≤ Z := by
  unfold hnF at h
  rw [Bool.or_eq_false_iff, Bool.or_eq_false_iff] at h
  have h1 := of_decide_eq_false h.1
  have h2 := of_decide_eq_false h.2.1
  have h3 : f ≤ z - n := by
    have := h.2.2
    rw [Bool.not_eq_false', decide_eq_true_iff] at this
    exact this
  refine ⟨h1, h2, ?_⟩
  have e1 := toInt_clamp h1
  have e2 := toInt_clamp h2
  have en := jnI_of h2
  subst hz
  by_cases hc : cl n ≤ Z
  · have e3 : nI Z - n = nI (Z - cl n) := by
      have en2 : nI (cl n) = n := en.symm
      have : nI Z = nI (Z - cl n) + n := by
        calc nI Z = nI ((Z - cl n) + cl n) := congrArg nI (by omega)
          _ = nI (Z - cl n) + nI (cl n) := (nI_add _ _).symm
          _ = nI (Z - cl n) + n := by rw [en2]
      rw [this]
      apply Int32.toBitVec_inj.1
      simp
    rw [e3, Int32.le_iff_toInt_le, jnI_toInt (by omega)] at h3
    unfold cl at *
    omega
  · exfalso
    have hn31 : n.toNatClampNeg < 2147483648 := by
      have := n.toInt_lt
      have h9 : n.toInt < 2147483648 := by simpa using this
      omega
    have e3 : (nI Z - n).toInt < 0 := by
      rw [Int32.toInt_sub, jnI_toInt (by omega)]
      unfold cl at hc
      rw [← e2]
      simp only [Int.bmod]
      omega
    rw [Int32.lt_iff_toInt_lt] at h1
    rw [Int32.le_iff_toInt_le] at h3
    have z0 : (0 : Int32).toInt = 0 := by decide
    rw [z0] at h1
    omega
set_option maxRecDepth 20000 in
set_option maxHeartbeats 4000000 in
theorem c_X4_copy {K : Cx} {x f t g n : Int32} {m : TM} (hZ : ∀ s, s < 4 → ∃ z, z ≤ 40 ∧ m.1 42 s = nI z) : CT yX4_copy cX4_copy 8 (some .int) 2 44 K [.ref 0, .int x, .int f, .int t, .int g, .int n] (m) (some (.int (if (outI x 0 3 || outI t 0 3) = true then -1000001 else if (decide (m.1 41 (cl x) = 0) || decide (m.1 41 (cl t) = 0)) = true then -1000006 else if ¬ m.1 41 (cl x) = m.1 41 (cl t) then -1000003 else if (hnF (m.1 42 (cl x)) f n || hnF (m.1 42 (cl t)) g n) = true then -1000001 else n))) (if (outI x 0 3 || outI t 0 3) = true then fnd m 0 else if (decide (m.1 41 (cl x) = 0) || decide (m.1 41 (cl t) = 0)) = true then fnd m 5 else if ¬ m.1 41 (cl x) = m.1 41 (cl t) then fnd m 2 else if (hnF (m.1 42 (cl x)) f n || hnF (m.1 42 (cl t)) g n) = true then fnd m 0 else cpy m 43 (40 * cl x + cl f) 43 (40 * cl t + cl g) (cl n)) := by
  refine ct_ofd (n := 2) (by decide +kernel) rfl rfl ?_
  show XX RX4 cX4_copy 8 (some .int) 2 44 K 0 [some (.ref 0), some (.int x), some (.int f), some (.int t), some (.int g), some (.int n), none, none] [] (m) (fun r1 m1 => r1 = (some (.int (if (outI x 0 3 || outI t 0 3) = true then -1000001 else if (decide (m.1 41 (cl x) = 0) || decide (m.1 41 (cl t) = 0)) = true then -1000006 else if ¬ m.1 41 (cl x) = m.1 41 (cl t) then -1000003 else if (hnF (m.1 42 (cl x)) f n || hnF (m.1 42 (cl t)) g n) = true then -1000001 else n))) ∧ m1 = if (outI x 0 3 || outI t 0 3) = true then fnd m 0 else if (decide (m.1 41 (cl x) = 0) || decide (m.1 41 (cl t) = 0)) = true then fnd m 5 else if ¬ m.1 41 (cl x) = m.1 41 (cl t) then fnd m 2 else if (hnF (m.1 42 (cl x)) f n || hnF (m.1 42 (cl t)) g n) = true then fnd m 0 else cpy m 43 (40 * cl x + cl f) 43 (40 * cl t + cl g) (cl n))
  refine x_iload_n (q := 1) dX4_copy_0 rfl rfl ?_
  refine x_callS1v (q := 4) dX4_copy_1 rfl ml_X4_185 ms_X4_isNoSheet c_X4_isNoSheet (Nat.le_of_ble_eq_true rfl) ⟨by decide, by decide⟩ ?_
  refine x_ifB_ne (q := 7) (t := 14) dX4_copy_4 rfl (by decide) (fun h4 => ?_) (fun h4 => ?_)
  · refine x_aload_n (q := 15) dX4_copy_14 rfl rfl ?_
    refine x_ldc (q := 17) dX4_copy_15 rfl kc_X4_48 ?_
    refine x_callV1v (q := 20) dX4_copy_17 rfl ml_X4_49 mv_X4_finding rv4 rfl (c_X4_finding (w := 0) (by decide) (by decide)) (Nat.le_of_ble_eq_true rfl) ⟨by decide, by decide⟩ ?_
    refine x_ireturn dX4_copy_20 rfl rfl ?_
    exact ⟨by simp [h4], by simp [h4]⟩
  refine x_iload_n (q := 8) dX4_copy_7 rfl rfl ?_
  refine x_callS1v (q := 11) dX4_copy_8 rfl ml_X4_185 ms_X4_isNoSheet c_X4_isNoSheet (Nat.le_of_ble_eq_true rfl) ⟨by decide, by decide⟩ ?_
  refine x_ifB_eq (q := 14) (t := 21) dX4_copy_11 rfl (by decide) (fun h11 => ?_) (fun h11 => ?_)
  · refine x_aload_n (q := 22) dX4_copy_21 rfl rfl ?_
    refine x_getR (q := 25) dX4_copy_22 rfl fl_X4_35 (or4_sheets) ?_
    refine x_iload_n (q := 26) dX4_copy_25 rfl rfl ?_
    refine x_sheet (q := 27) dX4_copy_26 rfl (ix_out h4 (n := 4) (by decide)) ?_
    refine x_astore (q := 29) dX4_copy_27 rfl (by decide) rfl rfl ?_
    refine x_aload_n (q := 30) dX4_copy_29 rfl rfl ?_
    refine x_getR (q := 33) dX4_copy_30 rfl fl_X4_35 (or4_sheets) ?_
    refine x_iload_n (q := 34) dX4_copy_33 rfl rfl ?_
    refine x_sheet (q := 35) dX4_copy_34 rfl (ix_out h11 (n := 4) (by decide)) ?_
    refine x_astore (q := 37) dX4_copy_35 rfl (by decide) rfl rfl ?_
    refine x_aload (q := 39) dX4_copy_37 rfl rfl ?_
    refine x_callV0v (q := 42) dX4_copy_39 rfl ml_X4_197 mv_X2_isMissing (rv2 (ix_out h4 (n := 4) (by decide)).2.2) rfl (c_X2_isMissing (ix_out h4 (n := 4) (by decide)).2.2) (Nat.le_of_ble_eq_true rfl) ⟨by decide, by decide⟩ ?_
    refine x_ifB_ne (q := 45) (t := 53) dX4_copy_42 rfl (by decide) (fun h42 => ?_) (fun h42 => ?_)
    · refine x_aload_n (q := 54) dX4_copy_53 rfl rfl ?_
      refine x_ldc (q := 56) dX4_copy_54 rfl kc_X4_180 ?_
      refine x_callV1v (q := 59) dX4_copy_56 rfl ml_X4_49 mv_X4_finding rv4 rfl (c_X4_finding (w := 5) (by decide) (by decide)) (Nat.le_of_ble_eq_true rfl) ⟨by decide, by decide⟩ ?_
      refine x_ireturn dX4_copy_59 rfl rfl ?_
      exact ⟨by simp [h4, h11, h42], by simp [h4, h11, h42]⟩
    refine x_aload (q := 47) dX4_copy_45 rfl rfl ?_
    refine x_callV0v (q := 50) dX4_copy_47 rfl ml_X4_197 mv_X2_isMissing (rv2 (ix_out h11 (n := 4) (by decide)).2.2) rfl (c_X2_isMissing (ix_out h11 (n := 4) (by decide)).2.2) (Nat.le_of_ble_eq_true rfl) ⟨by decide, by decide⟩ ?_
    refine x_ifB_eq (q := 53) (t := 60) dX4_copy_50 rfl (by decide) (fun h50 => ?_) (fun h50 => ?_)
    · refine x_aload (q := 62) dX4_copy_60 rfl rfl ?_
      refine x_getI (q := 65) dX4_copy_62 rfl fl_X4_201 (ob2_bits (ix_out h4 (n := 4) (by decide)).2.2) ?_
      refine x_aload (q := 67) dX4_copy_65 rfl rfl ?_
      refine x_getI (q := 70) dX4_copy_67 rfl fl_X4_201 (ob2_bits (ix_out h11 (n := 4) (by decide)).2.2) ?_
      refine x_icmp_eq (q := 73) (t := 80) dX4_copy_70 rfl (by decide) (fun h70 => ?_) (fun h70 => ?_)
      · refine x_aload (q := 82) dX4_copy_80 rfl rfl ?_
        refine x_iload_n (q := 83) dX4_copy_82 rfl rfl ?_
        refine x_iload (q := 85) dX4_copy_83 rfl rfl ?_
        refine x_callV2v (q := 88) dX4_copy_85 rfl ml_X4_204 mv_X2_hasNot (rv2 (ix_out h4 (n := 4) (by decide)).2.2) rfl (c_X2_hasNot (ix_out h4 (n := 4) (by decide)).2.2) (Nat.le_of_ble_eq_true rfl) ⟨by decide, by decide⟩ ?_
        refine x_ifB_ne (q := 91) (t := 103) dX4_copy_88 rfl (by decide) (fun h88 => ?_) (fun h88 => ?_)
        · refine x_aload_n (q := 104) dX4_copy_103 rfl rfl ?_
          refine x_ldc (q := 106) dX4_copy_104 rfl kc_X4_48 ?_
          refine x_callV1v (q := 109) dX4_copy_106 rfl ml_X4_49 mv_X4_finding rv4 rfl (c_X4_finding (w := 0) (by decide) (by decide)) (Nat.le_of_ble_eq_true rfl) ⟨by decide, by decide⟩ ?_
          refine x_ireturn dX4_copy_109 rfl rfl ?_
          exact ⟨by simp [h4, h11, h42, h50, h70, h88], by simp [h4, h11, h42, h50, h70, h88]⟩
        refine x_aload (q := 93) dX4_copy_91 rfl rfl ?_
        refine x_iload (q := 95) dX4_copy_93 rfl rfl ?_
        refine x_iload (q := 97) dX4_copy_95 rfl rfl ?_
        refine x_callV2v (q := 100) dX4_copy_97 rfl ml_X4_204 mv_X2_hasNot (rv2 (ix_out h11 (n := 4) (by decide)).2.2) rfl (c_X2_hasNot (ix_out h11 (n := 4) (by decide)).2.2) (Nat.le_of_ble_eq_true rfl) ⟨by decide, by decide⟩ ?_
        refine x_ifB_eq (q := 103) (t := 110) dX4_copy_100 rfl (by decide) (fun h100 => ?_) (fun h100 => ?_)
        · obtain ⟨za, ha, ea⟩ := hZ (cl x) (ix_out h4 (n := 4) (by decide)).2.2
          obtain ⟨zb, hb, eb⟩ := hZ (cl t) (ix_out h11 (n := 4) (by decide)).2.2
          have h1 := hn_f ea ha h88
          have h2 := hn_f eb hb h100
          refine x_aload (q := 112) dX4_copy_110 rfl rfl ?_
          refine x_getR (q := 115) dX4_copy_112 rfl fl_X4_207 (or2_num (ix_out h4 (n := 4) (by decide)).2.2) ?_
          refine x_iload_n (q := 116) dX4_copy_115 rfl rfl ?_
          refine x_aload (q := 118) dX4_copy_116 rfl rfl ?_
          refine x_getR (q := 121) dX4_copy_118 rfl fl_X4_207 (or2_num (ix_out h11 (n := 4) (by decide)).2.2) ?_
          refine x_iload (q := 123) dX4_copy_121 rfl rfl ?_
          refine x_iload (q := 125) dX4_copy_123 rfl rfl ?_
          refine x_copy (q := 128) dX4_copy_125 rfl ac_X4 (ar_num (ix_out h4 (n := 4) (by decide)).2.2) (ar_num (ix_out h11 (n := 4) (by decide)).2.2) ⟨h1.1, h2.1, h1.2.1⟩ ⟨rfl, rfl, rfl⟩ (by have := h1.2.2; unfold cl at this; omega) (by have := h2.2.2; unfold cl at this; omega) ⟨by decide, Nat.le_of_ble_eq_true rfl⟩ rfl ?_
          refine x_iload (q := 130) dX4_copy_128 rfl rfl ?_
          refine x_ireturn dX4_copy_130 rfl rfl ?_
          exact ⟨by simp [h4, h11, h42, h50, h70, h88, h100], by simp [h4, h11, h42, h50, h70, h88, h100]; rfl⟩
        refine x_aload_n (q := 104) dX4_copy_103 rfl rfl ?_
        refine x_ldc (q := 106) dX4_copy_104 rfl kc_X4_48 ?_
        refine x_callV1v (q := 109) dX4_copy_106 rfl ml_X4_49 mv_X4_finding rv4 rfl (c_X4_finding (w := 0) (by decide) (by decide)) (Nat.le_of_ble_eq_true rfl) ⟨by decide, by decide⟩ ?_
        refine x_ireturn dX4_copy_109 rfl rfl ?_
        exact ⟨by simp [h4, h11, h42, h50, h70, h88, h100], by simp [h4, h11, h42, h50, h70, h88, h100]⟩
      refine x_aload_n (q := 74) dX4_copy_73 rfl rfl ?_
      refine x_ldc (q := 76) dX4_copy_74 rfl kc_X4_184 ?_
      refine x_callV1v (q := 79) dX4_copy_76 rfl ml_X4_49 mv_X4_finding rv4 rfl (c_X4_finding (w := 2) (by decide) (by decide)) (Nat.le_of_ble_eq_true rfl) ⟨by decide, by decide⟩ ?_
      refine x_ireturn dX4_copy_79 rfl rfl ?_
      exact ⟨by simp [h4, h11, h42, h50, h70], by simp [h4, h11, h42, h50, h70]⟩
    refine x_aload_n (q := 54) dX4_copy_53 rfl rfl ?_
    refine x_ldc (q := 56) dX4_copy_54 rfl kc_X4_180 ?_
    refine x_callV1v (q := 59) dX4_copy_56 rfl ml_X4_49 mv_X4_finding rv4 rfl (c_X4_finding (w := 5) (by decide) (by decide)) (Nat.le_of_ble_eq_true rfl) ⟨by decide, by decide⟩ ?_
    refine x_ireturn dX4_copy_59 rfl rfl ?_
    exact ⟨by simp [h4, h11, h42, h50], by simp [h4, h11, h42, h50]⟩
  refine x_aload_n (q := 15) dX4_copy_14 rfl rfl ?_
  refine x_ldc (q := 17) dX4_copy_15 rfl kc_X4_48 ?_
  refine x_callV1v (q := 20) dX4_copy_17 rfl ml_X4_49 mv_X4_finding rv4 rfl (c_X4_finding (w := 0) (by decide) (by decide)) (Nat.le_of_ble_eq_true rfl) ⟨by decide, by decide⟩ ?_
  refine x_ireturn dX4_copy_20 rfl rfl ?_
  exact ⟨by simp [h4, h11], by simp [h4, h11]⟩
theorem dX4_load_0 : decode cX4_load 0 = .ok (.aload_n 0, 1) := by decide +kernel
theorem dX4_load_1 : decode cX4_load 1 = .ok (.iload_n 1, 1) := by decide +kernel
theorem dX4_load_2 : decode cX4_load 2 = .ok (.invokevirtual 193, 3) := by decide +kernel
theorem dX4_load_5 : decode cX4_load 5 = .ok (.istore_n 2, 1) := by decide +kernel
theorem dX4_load_6 : decode cX4_load 6 = .ok (.iload_n 2, 1) := by decide +kernel
theorem dX4_load_7 : decode cX4_load 7 = .ok (.ifCond .eq 9, 3) := by decide +kernel
theorem dX4_load_10 : decode cX4_load 10 = .ok (.aload_n 0, 1) := by decide +kernel
theorem dX4_load_11 : decode cX4_load 11 = .ok (.iload_n 2, 1) := by decide +kernel
theorem dX4_load_12 : decode cX4_load 12 = .ok (.invokevirtual 49, 3) := by decide +kernel
theorem dX4_load_15 : decode cX4_load 15 = .ok (.ireturn, 1) := by decide +kernel
theorem dX4_load_16 : decode cX4_load 16 = .ok (.aload_n 0, 1) := by decide +kernel
theorem dX4_load_17 : decode cX4_load 17 = .ok (.getfield 35, 3) := by decide +kernel
theorem dX4_load_20 : decode cX4_load 20 = .ok (.iload_n 1, 1) := by decide +kernel
theorem dX4_load_21 : decode cX4_load 21 = .ok (.aaload, 1) := by decide +kernel
theorem dX4_load_22 : decode cX4_load 22 = .ok (.astore_n 3, 1) := by decide +kernel
theorem dX4_load_23 : decode cX4_load 23 = .ok (.iconst 0, 1) := by decide +kernel
theorem dX4_load_24 : decode cX4_load 24 = .ok (.istore 4, 2) := by decide +kernel
theorem dX4_load_26 : decode cX4_load 26 = .ok (.iload 4, 2) := by decide +kernel
theorem dX4_load_28 : decode cX4_load 28 = .ok (.aload_n 3, 1) := by decide +kernel
theorem dX4_load_29 : decode cX4_load 29 = .ok (.getfield 192, 3) := by decide +kernel
theorem dX4_load_32 : decode cX4_load 32 = .ok (.if_icmp .ge 49, 3) := by decide +kernel
theorem dX4_load_35 : decode cX4_load 35 = .ok (.iload 4, 2) := by decide +kernel
theorem dX4_load_37 : decode cX4_load 37 = .ok (.bipush 6, 2) := by decide +kernel
theorem dX4_load_39 : decode cX4_load 39 = .ok (.if_icmp .ge 42, 3) := by decide +kernel
theorem dX4_load_42 : decode cX4_load 42 = .ok (.aload_n 3, 1) := by decide +kernel
theorem dX4_load_43 : decode cX4_load 43 = .ok (.getfield 207, 3) := by decide +kernel
theorem dX4_load_46 : decode cX4_load 46 = .ok (.iload 4, 2) := by decide +kernel
theorem dX4_load_48 : decode cX4_load 48 = .ok (.iaload, 1) := by decide +kernel
theorem dX4_load_49 : decode cX4_load 49 = .ok (.iconst 0, 1) := by decide +kernel
theorem dX4_load_50 : decode cX4_load 50 = .ok (.bipush 20, 2) := by decide +kernel
theorem dX4_load_52 : decode cX4_load 52 = .ok (.invokestatic 44, 3) := by decide +kernel
theorem dX4_load_55 : decode cX4_load 55 = .ok (.ifCond .ne 26, 3) := by decide +kernel
theorem dX4_load_58 : decode cX4_load 58 = .ok (.aload_n 0, 1) := by decide +kernel
theorem dX4_load_59 : decode cX4_load 59 = .ok (.getfield 12, 3) := by decide +kernel
theorem dX4_load_62 : decode cX4_load 62 = .ok (.getfield 53, 3) := by decide +kernel
theorem dX4_load_65 : decode cX4_load 65 = .ok (.iload 4, 2) := by decide +kernel
theorem dX4_load_67 : decode cX4_load 67 = .ok (.aload_n 3, 1) := by decide +kernel
theorem dX4_load_68 : decode cX4_load 68 = .ok (.getfield 207, 3) := by decide +kernel
theorem dX4_load_71 : decode cX4_load 71 = .ok (.iload 4, 2) := by decide +kernel
theorem dX4_load_73 : decode cX4_load 73 = .ok (.iaload, 1) := by decide +kernel
theorem dX4_load_74 : decode cX4_load 74 = .ok (.iastore, 1) := by decide +kernel
theorem dX4_load_75 : decode cX4_load 75 = .ok (.iinc 4 1, 3) := by decide +kernel
theorem dX4_load_78 : decode cX4_load 78 = .ok (.goto (-52), 3) := by decide +kernel
theorem dX4_load_81 : decode cX4_load 81 = .ok (.iload 4, 2) := by decide +kernel
theorem dX4_load_83 : decode cX4_load 83 = .ok (.ireturn, 1) := by decide +kernel
set_option maxRecDepth 20000 in
set_option maxHeartbeats 4000000 in
theorem c_X4_loadA {K : Cx} {x : Int32} {m : TM} (hb : outI x 0 3 = true) : CT yX4_load cX4_load 5 (some .int) 3 63 K [.ref 0, .int x] (m) (some (.int (-1000001))) (fnd m 0) := by
  refine ct_ofd (n := 3) (by decide +kernel) rfl rfl ?_
  show XX RX4 cX4_load 5 (some .int) 3 63 K 0 [some (.ref 0), some (.int x), none, none, none] [] (m) (fun r1 m1 => r1 = (some (.int (-1000001))) ∧ m1 = fnd m 0)
  refine x_aload_n (q := 1) dX4_load_0 rfl rfl ?_
  refine x_iload_n (q := 2) dX4_load_1 rfl rfl ?_
  refine x_callV1v (q := 5) dX4_load_2 rfl ml_X4_193 mv_X4_wrongSheet rv4 rfl (c_X4_wsA hb) (Nat.le_of_ble_eq_true rfl) ⟨by decide, by decide⟩ ?_
  refine x_istore_n (q := 6) dX4_load_5 rfl (by decide) rfl rfl ?_
  refine x_iload_n (q := 7) dX4_load_6 rfl rfl ?_
  refine x_if_eq (q := 10) (t := 16) dX4_load_7 rfl (by decide) (fun h => absurd h (by decide)) (fun _ => ?_)
  refine x_aload_n (q := 11) dX4_load_10 rfl rfl ?_
  refine x_iload_n (q := 12) dX4_load_11 rfl rfl ?_
  refine x_callV1v (q := 15) dX4_load_12 rfl ml_X4_49 mv_X4_finding rv4 rfl (c_X4_finding (w := 0) (by decide) (by decide)) (Nat.le_of_ble_eq_true rfl) ⟨by decide, by decide⟩ ?_
  refine x_ireturn dX4_load_15 rfl rfl ?_
  exact ⟨rfl, rfl⟩
set_option maxRecDepth 20000 in
set_option maxHeartbeats 4000000 in
theorem c_X4_loadB {K : Cx} {s : Nat} {m : TM} (hs : s < 4) (hb : m.1 41 s = 0) : CT yX4_load cX4_load 5 (some .int) 3 63 K [.ref 0, .int (nI s)] (m) (some (.int (-1000006))) (fnd m 5) := by
  refine ct_ofd (n := 3) (by decide +kernel) rfl rfl ?_
  show XX RX4 cX4_load 5 (some .int) 3 63 K 0 [some (.ref 0), some (.int (nI s)), none, none, none] [] (m) (fun r1 m1 => r1 = (some (.int (-1000006))) ∧ m1 = fnd m 5)
  refine x_aload_n (q := 1) dX4_load_0 rfl rfl ?_
  refine x_iload_n (q := 2) dX4_load_1 rfl rfl ?_
  refine x_callV1v (q := 5) dX4_load_2 rfl ml_X4_193 mv_X4_wrongSheet rv4 rfl (c_X4_wsB hs hb) (Nat.le_of_ble_eq_true rfl) ⟨by decide, by decide⟩ ?_
  refine x_istore_n (q := 6) dX4_load_5 rfl (by decide) rfl rfl ?_
  refine x_iload_n (q := 7) dX4_load_6 rfl rfl ?_
  refine x_if_eq (q := 10) (t := 16) dX4_load_7 rfl (by decide) (fun h => absurd h (by decide)) (fun _ => ?_)
  refine x_aload_n (q := 11) dX4_load_10 rfl rfl ?_
  refine x_iload_n (q := 12) dX4_load_11 rfl rfl ?_
  refine x_callV1v (q := 15) dX4_load_12 rfl ml_X4_49 mv_X4_finding rv4 rfl (c_X4_finding (w := 5) (by decide) (by decide)) (Nat.le_of_ble_eq_true rfl) ⟨by decide, by decide⟩ ?_
  refine x_ireturn dX4_load_15 rfl rfl ?_
  exact ⟨rfl, rfl⟩
set_option maxRecDepth 20000 in
set_option maxHeartbeats 4000000 in
theorem l_X4_load {K : Cx} {s z : Nat} {m : TM} (hs : s < 4) (hz : m.1 42 s = nI z) (hz40 : z ≤ 40) : ∀ (n : Nat) (j : Nat) (u : Nat → Int32), 7 - j < n → j ≤ 6 → XX RX4 cX4_load 5 (some .int) 3 63 K 26 [some (.ref 0), some (.int (nI s)), some (.int 0), some (.ref (41 + 2 * s)), some (.int (nI j))] [] (sr m 1 u) (fun r1 m1 => r1 = (some (.int (nI (ldR (fun q => m.1 43 (40 * s + q)) z (7 - j) j u).1))) ∧ m1 = sr m 1 (ldR (fun q => m.1 43 (40 * s + q)) z (7 - j) j u).2) := by
  intro n
  induction n with
  | zero => intro j u hlt; exact absurd hlt (Nat.not_lt_zero _)
  | succ n ih =>
    intro j u hlt hj
    have e1 : 7 - j = (6 - j) + 1 := by omega
    rw [e1]
    simp only [ldR]
    refine x_iload (q := 28) dX4_load_26 rfl rfl ?_
    refine x_aload_n (q := 29) dX4_load_28 rfl rfl ?_
    refine x_getI (q := 32) dX4_load_29 rfl fl_X4_192 (ob2_len hs) ?_
    refine x_icmp_ge (q := 35) (t := 81) dX4_load_32 rfl (by decide) (fun h32 => ?_) (fun h32 => ?_)
    · refine x_iload (q := 83) dX4_load_81 rfl rfl ?_
      refine x_ireturn dX4_load_83 rfl rfl ?_
      rw [if_neg (fun q => absurd q.1 (Nat.not_lt.mpr (lp_stop hz (by omega) (by omega) h32)))]
      exact ⟨rfl, rfl⟩
    have hjz : j < z := lp_go hz (by omega) (by omega) h32
    refine x_iload (q := 37) dX4_load_35 rfl rfl ?_
    refine x_bipush (q := 39) (v := 6) dX4_load_37 rfl (by decide) ?_
    refine x_icmp_ge (q := 42) (t := 81) dX4_load_39 rfl (by decide) (fun h39 => ?_) (fun h39 => ?_)
    · refine x_iload (q := 83) dX4_load_81 rfl rfl ?_
      refine x_ireturn dX4_load_83 rfl rfl ?_
      rw [if_neg (fun q => absurd q.2.1 (Nat.not_lt.mpr (lp_stop (n := 6) rfl (by omega) (by omega) h39)))]
      exact ⟨rfl, rfl⟩
    have hj6 : j < 6 := lp_go (n := 6) rfl (by omega) (by omega) h39
    refine x_aload_n (q := 43) dX4_load_42 rfl rfl ?_
    refine x_getR (q := 46) dX4_load_43 rfl fl_X4_207 (or2_num hs) ?_
    refine x_iload (q := 48) dX4_load_46 rfl rfl ?_
    refine x_iald (q := 49) dX4_load_48 rfl (ar_num hs) (ix_nI (n := 40) (by omega) (by decide)) rfl ?_
    refine x_iconst (q := 50) (v := 0) dX4_load_49 rfl (by decide) ?_
    refine x_bipush (q := 52) (v := 20) dX4_load_50 rfl (by decide) ?_
    refine x_callS3v (q := 55) dX4_load_52 rfl ml_X4_44 ms_X4_isOut c_X4_isOut (Nat.le_of_ble_eq_true rfl) ⟨by decide, by decide⟩ ?_
    refine x_ifB_ne (q := 58) (t := 81) dX4_load_55 rfl (by decide) (fun h55 => ?_) (fun h55 => ?_)
    · refine x_iload (q := 83) dX4_load_81 rfl rfl ?_
      refine x_ireturn dX4_load_83 rfl rfl ?_
      rw [if_neg (fun q => absurd q.2.2 (by show ¬ outI (m.1 43 (40 * s + j)) 0 20 = false; rw [show outI (m.1 43 (40 * s + j)) 0 20 = true from h55]; decide))]
      exact ⟨rfl, rfl⟩
    refine x_aload_n (q := 59) dX4_load_58 rfl rfl ?_
    refine x_getR (q := 62) dX4_load_59 rfl fl_X4_12 (or4_coast) ?_
    refine x_getR (q := 65) dX4_load_62 rfl fl_X4_53 (or0_list isC_1) ?_
    refine x_iload (q := 67) dX4_load_65 rfl rfl ?_
    refine x_aload_n (q := 68) dX4_load_67 rfl rfl ?_
    refine x_getR (q := 71) dX4_load_68 rfl fl_X4_207 (or2_num hs) ?_
    refine x_iload (q := 73) dX4_load_71 rfl rfl ?_
    refine x_iald (q := 74) dX4_load_73 rfl (ar_num hs) (ix_nI (n := 40) (by omega) (by decide)) rfl ?_
    refine x_iastr (q := 75) dX4_load_74 rfl (ar_list isC_1) (ix_nI (n := 6) hj6 (by decide)) rfl  ?_
    refine x_iinc (q := 78) (v := nI (j + 1)) dX4_load_75 rfl rfl (jnI_s j) (by decide) rfl rfl ?_
    refine x_goto (q := 26) dX4_load_78 (by decide) ?_
    rw [if_pos ⟨hjz, hj6, h55⟩]
    have key := ih (j + 1) (upd u (6 + j) (m.1 43 (40 * s + j))) (by omega) (by omega)
    rw [show 7 - (j + 1) = 6 - j by omega] at key
    exact key
set_option maxRecDepth 20000 in
set_option maxHeartbeats 4000000 in
theorem c_X4_load {K : Cx} {s z : Nat} {m : TM} (hb : ¬ m.1 41 s = 0) (hs : s < 4) (hz : m.1 42 s = nI z) (hz40 : z ≤ 40) : CT yX4_load cX4_load 5 (some .int) 3 63 K [.ref 0, .int (nI s)] (m) (some (.int (nI (ldR (fun q => m.1 43 (40 * s + q)) z 7 0 (m.1 1)).1))) (sr m 1 (ldR (fun q => m.1 43 (40 * s + q)) z 7 0 (m.1 1)).2) := by
  refine ct_ofd (n := 3) (by decide +kernel) rfl rfl ?_
  show XX RX4 cX4_load 5 (some .int) 3 63 K 0 [some (.ref 0), some (.int (nI s)), none, none, none] [] (m) (fun r1 m1 => r1 = (some (.int (nI (ldR (fun q => m.1 43 (40 * s + q)) z 7 0 (m.1 1)).1))) ∧ m1 = sr m 1 (ldR (fun q => m.1 43 (40 * s + q)) z 7 0 (m.1 1)).2)
  refine x_aload_n (q := 1) dX4_load_0 rfl rfl ?_
  refine x_iload_n (q := 2) dX4_load_1 rfl rfl ?_
  refine x_callV1v (q := 5) dX4_load_2 rfl ml_X4_193 mv_X4_wrongSheet rv4 rfl (c_X4_wsC hs hb) (Nat.le_of_ble_eq_true rfl) ⟨by decide, by decide⟩ ?_
  refine x_istore_n (q := 6) dX4_load_5 rfl (by decide) rfl rfl ?_
  refine x_iload_n (q := 7) dX4_load_6 rfl rfl ?_
  refine x_if_eq (q := 10) (t := 16) dX4_load_7 rfl (by decide) (fun _ => ?_) (fun h => absurd (by decide) h)
  refine x_aload_n (q := 17) dX4_load_16 rfl rfl ?_
  refine x_getR (q := 20) dX4_load_17 rfl fl_X4_35 (or4_sheets) ?_
  refine x_iload_n (q := 21) dX4_load_20 rfl rfl ?_
  refine x_sheet (q := 22) dX4_load_21 rfl (ix_nI hs (by decide)) ?_
  refine x_astore_n (q := 23) dX4_load_22 rfl (by decide) rfl rfl ?_
  refine x_iconst (q := 24) (v := 0) dX4_load_23 rfl (by decide) ?_
  refine x_istore (q := 26) dX4_load_24 rfl (by decide) rfl rfl ?_
  have h := l_X4_load (K := K) (m := m) hs hz hz40 8 0 (m.1 1) (by omega) (by omega)
  rw [sr_self] at h
  exact h
theorem dX4_judge_0 : decode cX4_judge 0 = .ok (.aload_n 0, 1) := by decide +kernel
theorem dX4_judge_1 : decode cX4_judge 1 = .ok (.iload_n 1, 1) := by decide +kernel
theorem dX4_judge_2 : decode cX4_judge 2 = .ok (.invokevirtual 193, 3) := by decide +kernel
theorem dX4_judge_5 : decode cX4_judge 5 = .ok (.istore_n 2, 1) := by decide +kernel
theorem dX4_judge_6 : decode cX4_judge 6 = .ok (.iload_n 2, 1) := by decide +kernel
theorem dX4_judge_7 : decode cX4_judge 7 = .ok (.ifCond .eq 9, 3) := by decide +kernel
theorem dX4_judge_10 : decode cX4_judge 10 = .ok (.aload_n 0, 1) := by decide +kernel
theorem dX4_judge_11 : decode cX4_judge 11 = .ok (.iload_n 2, 1) := by decide +kernel
theorem dX4_judge_12 : decode cX4_judge 12 = .ok (.invokevirtual 49, 3) := by decide +kernel
theorem dX4_judge_15 : decode cX4_judge 15 = .ok (.ireturn, 1) := by decide +kernel
theorem dX4_judge_16 : decode cX4_judge 16 = .ok (.aload_n 0, 1) := by decide +kernel
theorem dX4_judge_17 : decode cX4_judge 17 = .ok (.getfield 35, 3) := by decide +kernel
theorem dX4_judge_20 : decode cX4_judge 20 = .ok (.iload_n 1, 1) := by decide +kernel
theorem dX4_judge_21 : decode cX4_judge 21 = .ok (.aaload, 1) := by decide +kernel
theorem dX4_judge_22 : decode cX4_judge 22 = .ok (.astore_n 3, 1) := by decide +kernel
theorem dX4_judge_23 : decode cX4_judge 23 = .ok (.iconst 0, 1) := by decide +kernel
theorem dX4_judge_24 : decode cX4_judge 24 = .ok (.istore 4, 2) := by decide +kernel
theorem dX4_judge_26 : decode cX4_judge 26 = .ok (.iload 4, 2) := by decide +kernel
theorem dX4_judge_28 : decode cX4_judge 28 = .ok (.aload_n 3, 1) := by decide +kernel
theorem dX4_judge_29 : decode cX4_judge 29 = .ok (.getfield 192, 3) := by decide +kernel
theorem dX4_judge_32 : decode cX4_judge 32 = .ok (.if_icmp .ge 46, 3) := by decide +kernel
theorem dX4_judge_35 : decode cX4_judge 35 = .ok (.aload_n 0, 1) := by decide +kernel
theorem dX4_judge_36 : decode cX4_judge 36 = .ok (.iload 4, 2) := by decide +kernel
theorem dX4_judge_38 : decode cX4_judge 38 = .ok (.invokevirtual 76, 3) := by decide +kernel
theorem dX4_judge_41 : decode cX4_judge 41 = .ok (.ifCond .ne 26, 3) := by decide +kernel
theorem dX4_judge_44 : decode cX4_judge 44 = .ok (.aload_n 0, 1) := by decide +kernel
theorem dX4_judge_45 : decode cX4_judge 45 = .ok (.getfield 12, 3) := by decide +kernel
theorem dX4_judge_48 : decode cX4_judge 48 = .ok (.getfield 80, 3) := by decide +kernel
theorem dX4_judge_51 : decode cX4_judge 51 = .ok (.iload 4, 2) := by decide +kernel
theorem dX4_judge_53 : decode cX4_judge 53 = .ok (.aaload, 1) := by decide +kernel
theorem dX4_judge_54 : decode cX4_judge 54 = .ok (.getfield 68, 3) := by decide +kernel
theorem dX4_judge_57 : decode cX4_judge 57 = .ok (.aload_n 3, 1) := by decide +kernel
theorem dX4_judge_58 : decode cX4_judge 58 = .ok (.getfield 207, 3) := by decide +kernel
theorem dX4_judge_61 : decode cX4_judge 61 = .ok (.iload 4, 2) := by decide +kernel
theorem dX4_judge_63 : decode cX4_judge 63 = .ok (.iaload, 1) := by decide +kernel
theorem dX4_judge_64 : decode cX4_judge 64 = .ok (.if_icmp .eq 8, 3) := by decide +kernel
theorem dX4_judge_67 : decode cX4_judge 67 = .ok (.iconst 1, 1) := by decide +kernel
theorem dX4_judge_68 : decode cX4_judge 68 = .ok (.iload 4, 2) := by decide +kernel
theorem dX4_judge_70 : decode cX4_judge 70 = .ok (.iadd, 1) := by decide +kernel
theorem dX4_judge_71 : decode cX4_judge 71 = .ok (.ireturn, 1) := by decide +kernel
theorem dX4_judge_72 : decode cX4_judge 72 = .ok (.iinc 4 1, 3) := by decide +kernel
theorem dX4_judge_75 : decode cX4_judge 75 = .ok (.goto (-49), 3) := by decide +kernel
theorem dX4_judge_78 : decode cX4_judge 78 = .ok (.iconst 0, 1) := by decide +kernel
theorem dX4_judge_79 : decode cX4_judge 79 = .ok (.ireturn, 1) := by decide +kernel
set_option maxRecDepth 20000 in
set_option maxHeartbeats 4000000 in
theorem c_X4_judgeA {K : Cx} {x : Int32} {m : TM} (hb : outI x 0 3 = true) : CT yX4_judge cX4_judge 5 (some .int) 3 63 K [.ref 0, .int x] (m) (some (.int (-1000001))) (fnd m 0) := by
  refine ct_ofd (n := 3) (by decide +kernel) rfl rfl ?_
  show XX RX4 cX4_judge 5 (some .int) 3 63 K 0 [some (.ref 0), some (.int x), none, none, none] [] (m) (fun r1 m1 => r1 = (some (.int (-1000001))) ∧ m1 = fnd m 0)
  refine x_aload_n (q := 1) dX4_judge_0 rfl rfl ?_
  refine x_iload_n (q := 2) dX4_judge_1 rfl rfl ?_
  refine x_callV1v (q := 5) dX4_judge_2 rfl ml_X4_193 mv_X4_wrongSheet rv4 rfl (c_X4_wsA hb) (Nat.le_of_ble_eq_true rfl) ⟨by decide, by decide⟩ ?_
  refine x_istore_n (q := 6) dX4_judge_5 rfl (by decide) rfl rfl ?_
  refine x_iload_n (q := 7) dX4_judge_6 rfl rfl ?_
  refine x_if_eq (q := 10) (t := 16) dX4_judge_7 rfl (by decide) (fun h => absurd h (by decide)) (fun _ => ?_)
  refine x_aload_n (q := 11) dX4_judge_10 rfl rfl ?_
  refine x_iload_n (q := 12) dX4_judge_11 rfl rfl ?_
  refine x_callV1v (q := 15) dX4_judge_12 rfl ml_X4_49 mv_X4_finding rv4 rfl (c_X4_finding (w := 0) (by decide) (by decide)) (Nat.le_of_ble_eq_true rfl) ⟨by decide, by decide⟩ ?_
  refine x_ireturn dX4_judge_15 rfl rfl ?_
  exact ⟨rfl, rfl⟩
set_option maxRecDepth 20000 in
set_option maxHeartbeats 4000000 in
theorem c_X4_judgeB {K : Cx} {s : Nat} {m : TM} (hs : s < 4) (hb : m.1 41 s = 0) : CT yX4_judge cX4_judge 5 (some .int) 3 63 K [.ref 0, .int (nI s)] (m) (some (.int (-1000006))) (fnd m 5) := by
  refine ct_ofd (n := 3) (by decide +kernel) rfl rfl ?_
  show XX RX4 cX4_judge 5 (some .int) 3 63 K 0 [some (.ref 0), some (.int (nI s)), none, none, none] [] (m) (fun r1 m1 => r1 = (some (.int (-1000006))) ∧ m1 = fnd m 5)
  refine x_aload_n (q := 1) dX4_judge_0 rfl rfl ?_
  refine x_iload_n (q := 2) dX4_judge_1 rfl rfl ?_
  refine x_callV1v (q := 5) dX4_judge_2 rfl ml_X4_193 mv_X4_wrongSheet rv4 rfl (c_X4_wsB hs hb) (Nat.le_of_ble_eq_true rfl) ⟨by decide, by decide⟩ ?_
  refine x_istore_n (q := 6) dX4_judge_5 rfl (by decide) rfl rfl ?_
  refine x_iload_n (q := 7) dX4_judge_6 rfl rfl ?_
  refine x_if_eq (q := 10) (t := 16) dX4_judge_7 rfl (by decide) (fun h => absurd h (by decide)) (fun _ => ?_)
  refine x_aload_n (q := 11) dX4_judge_10 rfl rfl ?_
  refine x_iload_n (q := 12) dX4_judge_11 rfl rfl ?_
  refine x_callV1v (q := 15) dX4_judge_12 rfl ml_X4_49 mv_X4_finding rv4 rfl (c_X4_finding (w := 5) (by decide) (by decide)) (Nat.le_of_ble_eq_true rfl) ⟨by decide, by decide⟩ ?_
  refine x_ireturn dX4_judge_15 rfl rfl ?_
  exact ⟨rfl, rfl⟩
set_option maxRecDepth 20000 in
set_option maxHeartbeats 4000000 in
theorem l_X4_judge {K : Cx} {s z n8 : Nat} {m : TM} (hs : s < 4) (hz : m.1 42 s = nI z) (hz40 : z ≤ 40) (hI : Iv n8 (m.1 1)) : ∀ (n : Nat) (j : Nat), z - j < n → j ≤ z → XX RX4 cX4_judge 5 (some .int) 3 63 K 26 [some (.ref 0), some (.int (nI s)), some (.int 0), some (.ref (41 + 2 * s)), some (.int (nI j))] [] (m) (fun r1 m1 => r1 = (some (.int (ansJ (srch (fun q => jdP (m.1 1) n8 (fun q => m.1 43 (40 * s + q)) q) (z - j) j)))) ∧ m1 = m) := by
  intro n
  induction n with
  | zero => intro j hlt; exact absurd hlt (Nat.not_lt_zero _)
  | succ n ih =>
    intro j hlt hj
    refine x_iload (q := 28) dX4_judge_26 rfl rfl ?_
    refine x_aload_n (q := 29) dX4_judge_28 rfl rfl ?_
    refine x_getI (q := 32) dX4_judge_29 rfl fl_X4_192 (ob2_len hs) ?_
    refine x_icmp_ge (q := 35) (t := 78) dX4_judge_32 rfl (by decide) (fun h32 => ?_) (fun h32 => ?_)
    · refine x_iconst (q := 79) (v := 0) dX4_judge_78 rfl (by decide) ?_
      refine x_ireturn dX4_judge_79 rfl rfl ?_
      have e : z - j = 0 := by
        have := lp_stop hz (by omega) (by omega) h32
        omega
      rw [e]
      exact ⟨rfl, rfl⟩
    have hjz : j < z := lp_go hz (by omega) (by omega) h32
    have e1 : z - j = (z - (j + 1)) + 1 := by omega
    rw [e1]
    simp only [srch]
    refine x_aload_n (q := 36) dX4_judge_35 rfl rfl ?_
    refine x_iload (q := 38) dX4_judge_36 rfl rfl ?_
    refine x_callV1v (q := 41) dX4_judge_38 rfl ml_X4_76 mv_X4_isNoParcel rv4 rfl c_X4_isNoParcel (Nat.le_of_ble_eq_true rfl) ⟨by decide, by decide⟩ ?_
    refine x_ifB_ne (q := 44) (t := 67) dX4_judge_41 rfl (by decide) (fun h41 => ?_) (fun h41 => ?_)
    · refine x_iconst (q := 68) (v := 1) dX4_judge_67 rfl (by decide) ?_
      refine x_iload (q := 70) dX4_judge_68 rfl rfl ?_
      refine x_iadd (q := 71) dX4_judge_70 rfl ?_
      refine x_ireturn dX4_judge_71 rfl rfl ?_
      rw [par_no hI.2.1 hI.1 (by omega)] at h41
      have hP : jdP (m.1 1) n8 (fun q => m.1 43 (40 * s + q)) j = true := by
        have h42 : decide (j < n8) = false := by simpa using h41
        unfold jdP
        rw [h42]
        rfl
      rw [if_pos hP]
      exact ⟨rfl, rfl⟩
    rw [par_no hI.2.1 hI.1 (by omega)] at h41
    have hjn : j < n8 := by simpa using h41
    have hj8 : j < 8 := by have := hI.1; omega
    refine x_aload_n (q := 45) dX4_judge_44 rfl rfl ?_
    refine x_getR (q := 48) dX4_judge_45 rfl fl_X4_12 (or4_coast) ?_
    refine x_getR (q := 51) dX4_judge_48 rfl fl_X4_80 (or0_slip isC_1) ?_
    refine x_iload (q := 53) dX4_judge_51 rfl rfl ?_
    refine x_slip (q := 54) dX4_judge_53 rfl isC_1 (ix_nI hj8 (by decide)) ?_
    refine x_getI (q := 57) dX4_judge_54 rfl fl_X4_68 (ob1 isC_1 hj8 1 (by decide)) ?_
    refine x_aload_n (q := 58) dX4_judge_57 rfl rfl ?_
    refine x_getR (q := 61) dX4_judge_58 rfl fl_X4_207 (or2_num hs) ?_
    refine x_iload (q := 63) dX4_judge_61 rfl rfl ?_
    refine x_iald (q := 64) dX4_judge_63 rfl (ar_num hs) (ix_nI (n := 40) (by omega) (by decide)) rfl ?_
    refine x_icmp_eq (q := 67) (t := 72) dX4_judge_64 rfl (by decide) (fun h64 => ?_) (fun h64 => ?_)
    · refine x_iinc (q := 75) (v := nI (j + 1)) dX4_judge_72 rfl rfl (jnI_s j) (by decide) rfl rfl ?_
      refine x_goto (q := 26) dX4_judge_75 (by decide) ?_
      have hP : jdP (m.1 1) n8 (fun q => m.1 43 (40 * s + q)) j = false := by
        unfold jdP
        rw [decide_eq_true hjn, decide_eq_true h64]
        rfl
      rw [if_neg (by rw [hP]; decide)]
      exact ih (j + 1) (by omega) (by omega)
    refine x_iconst (q := 68) (v := 1) dX4_judge_67 rfl (by decide) ?_
    refine x_iload (q := 70) dX4_judge_68 rfl rfl ?_
    refine x_iadd (q := 71) dX4_judge_70 rfl ?_
    refine x_ireturn dX4_judge_71 rfl rfl ?_
    have hP : jdP (m.1 1) n8 (fun q => m.1 43 (40 * s + q)) j = true := by
      unfold jdP
      rw [decide_eq_false h64, Bool.and_false]
      rfl
    rw [if_pos hP]
    exact ⟨rfl, rfl⟩
set_option maxRecDepth 20000 in
set_option maxHeartbeats 4000000 in
theorem c_X4_judge {K : Cx} {s z n8 : Nat} {m : TM} (hb : ¬ m.1 41 s = 0) (hs : s < 4) (hz : m.1 42 s = nI z) (hz40 : z ≤ 40) (hI : Iv n8 (m.1 1)) : CT yX4_judge cX4_judge 5 (some .int) 3 63 K [.ref 0, .int (nI s)] (m) (some (.int (ansJ (srch (fun q => jdP (m.1 1) n8 (fun q => m.1 43 (40 * s + q)) q) z 0)))) (m) := by
  refine ct_ofd (n := 3) (by decide +kernel) rfl rfl ?_
  show XX RX4 cX4_judge 5 (some .int) 3 63 K 0 [some (.ref 0), some (.int (nI s)), none, none, none] [] (m) (fun r1 m1 => r1 = (some (.int (ansJ (srch (fun q => jdP (m.1 1) n8 (fun q => m.1 43 (40 * s + q)) q) z 0)))) ∧ m1 = m)
  refine x_aload_n (q := 1) dX4_judge_0 rfl rfl ?_
  refine x_iload_n (q := 2) dX4_judge_1 rfl rfl ?_
  refine x_callV1v (q := 5) dX4_judge_2 rfl ml_X4_193 mv_X4_wrongSheet rv4 rfl (c_X4_wsC hs hb) (Nat.le_of_ble_eq_true rfl) ⟨by decide, by decide⟩ ?_
  refine x_istore_n (q := 6) dX4_judge_5 rfl (by decide) rfl rfl ?_
  refine x_iload_n (q := 7) dX4_judge_6 rfl rfl ?_
  refine x_if_eq (q := 10) (t := 16) dX4_judge_7 rfl (by decide) (fun _ => ?_) (fun h => absurd (by decide) h)
  refine x_aload_n (q := 17) dX4_judge_16 rfl rfl ?_
  refine x_getR (q := 20) dX4_judge_17 rfl fl_X4_35 (or4_sheets) ?_
  refine x_iload_n (q := 21) dX4_judge_20 rfl rfl ?_
  refine x_sheet (q := 22) dX4_judge_21 rfl (ix_nI hs (by decide)) ?_
  refine x_astore_n (q := 23) dX4_judge_22 rfl (by decide) rfl rfl ?_
  refine x_iconst (q := 24) (v := 0) dX4_judge_23 rfl (by decide) ?_
  refine x_istore (q := 26) dX4_judge_24 rfl (by decide) rfl rfl ?_
  exact l_X4_judge hs hz hz40 hI (z + 1) 0 (by omega) (by omega)
