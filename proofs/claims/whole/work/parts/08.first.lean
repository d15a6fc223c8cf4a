theorem ct_ofd {y : MethodName} {cc : ByteArray} {mL fr lo n : Nat} {rt : Option FieldType} {K : Cx} {as : List Value} {m m1 : TM} {r : Option Value} (hy : plainName y.cls = true) (hcat : as.all (fun v => v.category == 1) = true) (hlen : as.length + n = mL) (h : XX y.cls cc mL rt fr lo K 0 (as.map some ++ List.replicate n none) [] m (fun r1 m2 => r1 = r ∧ m2 = m1)) : CT y cc mL rt fr lo K as m r m1 :=
  ct_of hy (fun v hv => by simpa using List.all_eq_true.mp hcat v hv) (by omega) (x_pad n h)
theorem bI_narrow (b : Bool) : narrow .boolean (.int (bI b)) = .int (bI b) := by cases b <;> decide
def minI (a b : Int32) : Int32 := if b < a then b else a
def outI (v l h : Int32) : Bool := decide (v < l) || decide (h < v)
def inI (v l h : Int32) : Bool := !decide (v < l) && !decide (h < v)
theorem inI_out {v l h : Int32} : inI v l h = !outI v l h := by simp [inI, outI]
theorem jnI_mul (a b : Nat) : nI a * nI b = nI (a * b) := by
  unfold nI
  exact (Int32.ofNat_mul a b).symm
theorem par_ix (k f : Nat) : (12 : Int32) + 7 * nI k + nI f = nI (12 + 7 * k + f) := by
  rw [show (12 : Int32) = nI 12 from rfl, show (7 : Int32) = nI 7 from rfl, jnI_mul, nI_add, nI_add]
theorem ix_par {k f : Nat} (hk : k < 8) (hf : f < 7) : IX ((12 : Int32) + 7 * nI k + nI f) (12 + 7 * k + f) 78 := by
  rw [par_ix]
  exact ix_nI (by omega) (by decide)
theorem mm_code : Cond.code Lib.Math.min.name Lib.Math.min.code 2 (some .int) ∈ WT := mw 350 (by decide +kernel) (by decide +kernel)
section MM
variable {own : String} {cc : ByteArray} {mL : Nat} {rt : Option FieldType} {fr lo : Nat} {K : Cx} {pc q : Nat} {ls : List (Option Value)} {st : List Value} {m : TM} {Q : Option Value → TM → Prop}
theorem x_mmin {x y : Int32} {idx : Nat} (hd : decode cc pc = .ok (.invokestatic idx, 3)) (hq : pc + 3 = q) (hl : Cond.methodLink own idx yJ9_min_7cf53 ∈ WT) (hR : 1 ≤ fr ∧ (st.map fun v => v.category).sum + 13 ≤ lo) (kk : XX own cc mL rt fr lo K q ls (.int (minI x y) :: st) m Q) : XX own cc mL rt fr lo K pc ls (.int y :: .int x :: st) m Q := by
  subst hq
  intro p e s mi args below meth c H locs arr C hP hD hS hL
  have hts := C.2.2.2.2.2.1
  exact va_mmin C.1 C.2.1 (C.2.2.2.1.trans hL.len.symm) C.2.2.2.2.1 (hts _ hl) (hts _ ms_J9_min_7cf53.1) (hts _ ms_J9_min_7cf53.2.1) (hts _ mm_code) hR.1 (by rw [cat_sum]; exact hR.2) (Nat.le_refl _) (Nat.le_refl _) hd (kk p e s mi args below meth c H locs arr C hP hD hS hL)
end MM
theorem dX5_in1_0 : decode cX5_in1 0 = .ok (.iload_n 0, 1) := by decide +kernel
theorem dX5_in1_1 : decode cX5_in1 1 = .ok (.iload_n 1, 1) := by decide +kernel
theorem dX5_in1_2 : decode cX5_in1 2 = .ok (.if_icmp .lt 12, 3) := by decide +kernel
theorem dX5_in1_5 : decode cX5_in1 5 = .ok (.iload_n 0, 1) := by decide +kernel
theorem dX5_in1_6 : decode cX5_in1 6 = .ok (.iload_n 2, 1) := by decide +kernel
theorem dX5_in1_7 : decode cX5_in1 7 = .ok (.if_icmp .gt 7, 3) := by decide +kernel
theorem dX5_in1_10 : decode cX5_in1 10 = .ok (.iconst 1, 1) := by decide +kernel
theorem dX5_in1_11 : decode cX5_in1 11 = .ok (.goto 4, 3) := by decide +kernel
theorem dX5_in1_14 : decode cX5_in1 14 = .ok (.iconst 0, 1) := by decide +kernel
theorem dX5_in1_15 : decode cX5_in1 15 = .ok (.ireturn, 1) := by decide +kernel
set_option maxRecDepth 20000 in
set_option maxHeartbeats 4000000 in
theorem c_X5_in1 {K : Cx} {v l h : Int32} {m : TM} : CT yX5_in1 cX5_in1 3 (some .boolean) 0 0 K [.int v, .int l, .int h] (m) (some (.int (bI (inI v l h)))) (m) := by
  refine ct_ofd (n := 0) (by decide +kernel) rfl rfl ?_
  show XX RX5 cX5_in1 3 (some .boolean) 0 0 K 0 [some (.int v), some (.int l), some (.int h)] [] (m) (fun r1 m1 => r1 = (some (.int (bI (inI v l h)))) ∧ m1 = m)
  refine x_iload_n (q := 1) dX5_in1_0 rfl rfl ?_
  refine x_iload_n (q := 2) dX5_in1_1 rfl rfl ?_
  refine x_icmp_lt (q := 5) (t := 14) dX5_in1_2 rfl (by decide) (fun h2 => ?_) (fun h2 => ?_)
  · refine x_iconst (q := 15) (v := 0) dX5_in1_14 rfl (by decide) ?_
    refine x_ireturn dX5_in1_15 rfl (by decide) ?_
    exact ⟨by simp [inI, bI, *], rfl⟩
  refine x_iload_n (q := 6) dX5_in1_5 rfl rfl ?_
  refine x_iload_n (q := 7) dX5_in1_6 rfl rfl ?_
  refine x_icmp_gt (q := 10) (t := 14) dX5_in1_7 rfl (by decide) (fun h7 => ?_) (fun h7 => ?_)
  · refine x_iconst (q := 15) (v := 0) dX5_in1_14 rfl (by decide) ?_
    refine x_ireturn dX5_in1_15 rfl (by decide) ?_
    exact ⟨by simp [inI, bI, *], rfl⟩
  refine x_iconst (q := 11) (v := 1) dX5_in1_10 rfl (by decide) ?_
  refine x_goto (q := 15) dX5_in1_11 (by decide) ?_
  refine x_ireturn dX5_in1_15 rfl (by decide) ?_
  exact ⟨by simp [inI, bI, *], rfl⟩
theorem dX5_less_0 : decode cX5_less 0 = .ok (.iload_n 0, 1) := by decide +kernel
theorem dX5_less_1 : decode cX5_less 1 = .ok (.iload_n 1, 1) := by decide +kernel
theorem dX5_less_2 : decode cX5_less 2 = .ok (.if_icmp .ge 7, 3) := by decide +kernel
theorem dX5_less_5 : decode cX5_less 5 = .ok (.iload_n 0, 1) := by decide +kernel
theorem dX5_less_6 : decode cX5_less 6 = .ok (.goto 4, 3) := by decide +kernel
theorem dX5_less_9 : decode cX5_less 9 = .ok (.iload_n 1, 1) := by decide +kernel
theorem dX5_less_10 : decode cX5_less 10 = .ok (.ireturn, 1) := by decide +kernel
set_option maxRecDepth 20000 in
set_option maxHeartbeats 4000000 in
theorem c_X5_less {K : Cx} {a b : Int32} {m : TM} : CT yX5_less cX5_less 2 (some .int) 0 0 K [.int a, .int b] (m) (some (.int (minI b a))) (m) := by
  refine ct_ofd (n := 0) (by decide +kernel) rfl rfl ?_
  show XX RX5 cX5_less 2 (some .int) 0 0 K 0 [some (.int a), some (.int b)] [] (m) (fun r1 m1 => r1 = (some (.int (minI b a))) ∧ m1 = m)
  refine x_iload_n (q := 1) dX5_less_0 rfl rfl ?_
  refine x_iload_n (q := 2) dX5_less_1 rfl rfl ?_
  refine x_icmp_ge (q := 5) (t := 9) dX5_less_2 rfl (by decide) (fun h2 => ?_) (fun h2 => ?_)
  · refine x_iload_n (q := 10) dX5_less_9 rfl rfl ?_
    refine x_ireturn dX5_less_10 rfl rfl ?_
    exact ⟨by first | (simp [minI, Int32.not_lt.mpr h2]; done) | simp [minI, Int32.not_le.mp h2], rfl⟩
  refine x_iload_n (q := 6) dX5_less_5 rfl rfl ?_
  refine x_goto (q := 10) dX5_less_6 (by decide) ?_
  refine x_ireturn dX5_less_10 rfl rfl ?_
  exact ⟨by first | (simp [minI, Int32.not_lt.mpr h2]; done) | simp [minI, Int32.not_le.mp h2], rfl⟩
theorem dX5_isLine_0 : decode cX5_isLine 0 = .ok (.iload_n 0, 1) := by decide +kernel
theorem dX5_isLine_1 : decode cX5_isLine 1 = .ok (.iconst 0, 1) := by decide +kernel
theorem dX5_isLine_2 : decode cX5_isLine 2 = .ok (.bipush 20, 2) := by decide +kernel
theorem dX5_isLine_4 : decode cX5_isLine 4 = .ok (.invokestatic 48, 3) := by decide +kernel
theorem dX5_isLine_7 : decode cX5_isLine 7 = .ok (.ireturn, 1) := by decide +kernel
set_option maxRecDepth 20000 in
set_option maxHeartbeats 4000000 in
theorem c_X5_isLine {K : Cx} {v : Int32} {m : TM} : CT yX5_isLine cX5_isLine 1 (some .boolean) 1 22 K [.int v] (m) (some (.int (bI (inI v 0 20)))) (m) := by
  refine ct_ofd (n := 0) (by decide +kernel) rfl rfl ?_
  show XX RX5 cX5_isLine 1 (some .boolean) 1 22 K 0 [some (.int v)] [] (m) (fun r1 m1 => r1 = (some (.int (bI (inI v 0 20)))) ∧ m1 = m)
  refine x_iload_n (q := 1) dX5_isLine_0 rfl rfl ?_
  refine x_iconst (q := 2) (v := 0) dX5_isLine_1 rfl (by decide) ?_
  refine x_bipush (q := 4) (v := 20) dX5_isLine_2 rfl (by decide) ?_
  refine x_callS3v (q := 7) dX5_isLine_4 rfl ml_X5_48 ms_X5_in1 c_X5_in1 (Nat.le_of_ble_eq_true rfl) ⟨by decide, by decide⟩ ?_
  refine x_ireturn dX5_isLine_7 rfl (bI_narrow _) ?_
  exact ⟨rfl, rfl⟩
theorem dX5_isTurn_0 : decode cX5_isTurn 0 = .ok (.iload_n 0, 1) := by decide +kernel
theorem dX5_isTurn_1 : decode cX5_isTurn 1 = .ok (.iconst 0, 1) := by decide +kernel
theorem dX5_isTurn_2 : decode cX5_isTurn 2 = .ok (.iconst 5, 1) := by decide +kernel
theorem dX5_isTurn_3 : decode cX5_isTurn 3 = .ok (.invokestatic 48, 3) := by decide +kernel
theorem dX5_isTurn_6 : decode cX5_isTurn 6 = .ok (.ireturn, 1) := by decide +kernel
set_option maxRecDepth 20000 in
set_option maxHeartbeats 4000000 in
theorem c_X5_isTurn {K : Cx} {v : Int32} {m : TM} : CT yX5_isTurn cX5_isTurn 1 (some .boolean) 1 22 K [.int v] (m) (some (.int (bI (inI v 0 5)))) (m) := by
  refine ct_ofd (n := 0) (by decide +kernel) rfl rfl ?_
  show XX RX5 cX5_isTurn 1 (some .boolean) 1 22 K 0 [some (.int v)] [] (m) (fun r1 m1 => r1 = (some (.int (bI (inI v 0 5)))) ∧ m1 = m)
  refine x_iload_n (q := 1) dX5_isTurn_0 rfl rfl ?_
  refine x_iconst (q := 2) (v := 0) dX5_isTurn_1 rfl (by decide) ?_
  refine x_iconst (q := 3) (v := 5) dX5_isTurn_2 rfl (by decide) ?_
  refine x_callS3v (q := 6) dX5_isTurn_3 rfl ml_X5_48 ms_X5_in1 c_X5_in1 (Nat.le_of_ble_eq_true rfl) ⟨by decide, by decide⟩ ?_
  refine x_ireturn dX5_isTurn_6 rfl (bI_narrow _) ?_
  exact ⟨rfl, rfl⟩
theorem dX5_isSheet_0 : decode cX5_isSheet 0 = .ok (.iload_n 0, 1) := by decide +kernel
theorem dX5_isSheet_1 : decode cX5_isSheet 1 = .ok (.iconst 0, 1) := by decide +kernel
theorem dX5_isSheet_2 : decode cX5_isSheet 2 = .ok (.iconst 3, 1) := by decide +kernel
theorem dX5_isSheet_3 : decode cX5_isSheet 3 = .ok (.invokestatic 48, 3) := by decide +kernel
theorem dX5_isSheet_6 : decode cX5_isSheet 6 = .ok (.ireturn, 1) := by decide +kernel
set_option maxRecDepth 20000 in
set_option maxHeartbeats 4000000 in
theorem c_X5_isSheet {K : Cx} {v : Int32} {m : TM} : CT yX5_isSheet cX5_isSheet 1 (some .boolean) 1 22 K [.int v] (m) (some (.int (bI (inI v 0 3)))) (m) := by
  refine ct_ofd (n := 0) (by decide +kernel) rfl rfl ?_
  show XX RX5 cX5_isSheet 1 (some .boolean) 1 22 K 0 [some (.int v)] [] (m) (fun r1 m1 => r1 = (some (.int (bI (inI v 0 3)))) ∧ m1 = m)
  refine x_iload_n (q := 1) dX5_isSheet_0 rfl rfl ?_
  refine x_iconst (q := 2) (v := 0) dX5_isSheet_1 rfl (by decide) ?_
  refine x_iconst (q := 3) (v := 3) dX5_isSheet_2 rfl (by decide) ?_
  refine x_callS3v (q := 6) dX5_isSheet_3 rfl ml_X5_48 ms_X5_in1 c_X5_in1 (Nat.le_of_ble_eq_true rfl) ⟨by decide, by decide⟩ ?_
  refine x_ireturn dX5_isSheet_6 rfl (bI_narrow _) ?_
  exact ⟨rfl, rfl⟩
theorem dX5_isSpot_0 : decode cX5_isSpot 0 = .ok (.iload_n 0, 1) := by decide +kernel
theorem dX5_isSpot_1 : decode cX5_isSpot 1 = .ok (.iconst 0, 1) := by decide +kernel
theorem dX5_isSpot_2 : decode cX5_isSpot 2 = .ok (.bipush 9, 2) := by decide +kernel
theorem dX5_isSpot_4 : decode cX5_isSpot 4 = .ok (.invokestatic 48, 3) := by decide +kernel
theorem dX5_isSpot_7 : decode cX5_isSpot 7 = .ok (.ireturn, 1) := by decide +kernel
set_option maxRecDepth 20000 in
set_option maxHeartbeats 4000000 in
theorem c_X5_isSpot {K : Cx} {v : Int32} {m : TM} : CT yX5_isSpot cX5_isSpot 1 (some .boolean) 1 22 K [.int v] (m) (some (.int (bI (inI v 0 9)))) (m) := by
  refine ct_ofd (n := 0) (by decide +kernel) rfl rfl ?_
  show XX RX5 cX5_isSpot 1 (some .boolean) 1 22 K 0 [some (.int v)] [] (m) (fun r1 m1 => r1 = (some (.int (bI (inI v 0 9)))) ∧ m1 = m)
  refine x_iload_n (q := 1) dX5_isSpot_0 rfl rfl ?_
  refine x_iconst (q := 2) (v := 0) dX5_isSpot_1 rfl (by decide) ?_
  refine x_bipush (q := 4) (v := 9) dX5_isSpot_2 rfl (by decide) ?_
  refine x_callS3v (q := 7) dX5_isSpot_4 rfl ml_X5_48 ms_X5_in1 c_X5_in1 (Nat.le_of_ble_eq_true rfl) ⟨by decide, by decide⟩ ?_
  refine x_ireturn dX5_isSpot_7 rfl (bI_narrow _) ?_
  exact ⟨rfl, rfl⟩
theorem dX5_isLetter_0 : decode cX5_isLetter 0 = .ok (.iload_n 0, 1) := by decide +kernel
theorem dX5_isLetter_1 : decode cX5_isLetter 1 = .ok (.bipush 97, 2) := by decide +kernel
theorem dX5_isLetter_3 : decode cX5_isLetter 3 = .ok (.bipush 122, 2) := by decide +kernel
theorem dX5_isLetter_5 : decode cX5_isLetter 5 = .ok (.invokestatic 48, 3) := by decide +kernel
theorem dX5_isLetter_8 : decode cX5_isLetter 8 = .ok (.ireturn, 1) := by decide +kernel
set_option maxRecDepth 20000 in
set_option maxHeartbeats 4000000 in
theorem c_X5_isLetter {K : Cx} {v : Int32} {m : TM} : CT yX5_isLetter cX5_isLetter 1 (some .boolean) 1 22 K [.int v] (m) (some (.int (bI (inI v 97 122)))) (m) := by
  refine ct_ofd (n := 0) (by decide +kernel) rfl rfl ?_
  show XX RX5 cX5_isLetter 1 (some .boolean) 1 22 K 0 [some (.int v)] [] (m) (fun r1 m1 => r1 = (some (.int (bI (inI v 97 122)))) ∧ m1 = m)
  refine x_iload_n (q := 1) dX5_isLetter_0 rfl rfl ?_
  refine x_bipush (q := 3) (v := 97) dX5_isLetter_1 rfl (by decide) ?_
  refine x_bipush (q := 5) (v := 122) dX5_isLetter_3 rfl (by decide) ?_
  refine x_callS3v (q := 8) dX5_isLetter_5 rfl ml_X5_48 ms_X5_in1 c_X5_in1 (Nat.le_of_ble_eq_true rfl) ⟨by decide, by decide⟩ ?_
  refine x_ireturn dX5_isLetter_8 rfl (bI_narrow _) ?_
  exact ⟨rfl, rfl⟩
theorem dX5_isDigit_0 : decode cX5_isDigit 0 = .ok (.iload_n 0, 1) := by decide +kernel
theorem dX5_isDigit_1 : decode cX5_isDigit 1 = .ok (.bipush 48, 2) := by decide +kernel
theorem dX5_isDigit_3 : decode cX5_isDigit 3 = .ok (.bipush 57, 2) := by decide +kernel
theorem dX5_isDigit_5 : decode cX5_isDigit 5 = .ok (.invokestatic 48, 3) := by decide +kernel
theorem dX5_isDigit_8 : decode cX5_isDigit 8 = .ok (.ireturn, 1) := by decide +kernel
set_option maxRecDepth 20000 in
set_option maxHeartbeats 4000000 in
theorem c_X5_isDigit {K : Cx} {v : Int32} {m : TM} : CT yX5_isDigit cX5_isDigit 1 (some .boolean) 1 22 K [.int v] (m) (some (.int (bI (inI v 48 57)))) (m) := by
  refine ct_ofd (n := 0) (by decide +kernel) rfl rfl ?_
  show XX RX5 cX5_isDigit 1 (some .boolean) 1 22 K 0 [some (.int v)] [] (m) (fun r1 m1 => r1 = (some (.int (bI (inI v 48 57)))) ∧ m1 = m)
  refine x_iload_n (q := 1) dX5_isDigit_0 rfl rfl ?_
  refine x_bipush (q := 3) (v := 48) dX5_isDigit_1 rfl (by decide) ?_
  refine x_bipush (q := 5) (v := 57) dX5_isDigit_3 rfl (by decide) ?_
  refine x_callS3v (q := 8) dX5_isDigit_5 rfl ml_X5_48 ms_X5_in1 c_X5_in1 (Nat.le_of_ble_eq_true rfl) ⟨by decide, by decide⟩ ?_
  refine x_ireturn dX5_isDigit_8 rfl (bI_narrow _) ?_
  exact ⟨rfl, rfl⟩
theorem dX5_get_0 : decode cX5_get 0 = .ok (.aload_n 0, 1) := by decide +kernel
theorem dX5_get_1 : decode cX5_get 1 = .ok (.getfield 9, 3) := by decide +kernel
theorem dX5_get_4 : decode cX5_get 4 = .ok (.bipush 12, 2) := by decide +kernel
theorem dX5_get_6 : decode cX5_get 6 = .ok (.bipush 7, 2) := by decide +kernel
theorem dX5_get_8 : decode cX5_get 8 = .ok (.iload_n 1, 1) := by decide +kernel
theorem dX5_get_9 : decode cX5_get 9 = .ok (.imul, 1) := by decide +kernel
theorem dX5_get_10 : decode cX5_get 10 = .ok (.iadd, 1) := by decide +kernel
theorem dX5_get_11 : decode cX5_get 11 = .ok (.iload_n 2, 1) := by decide +kernel
theorem dX5_get_12 : decode cX5_get 12 = .ok (.iadd, 1) := by decide +kernel
theorem dX5_get_13 : decode cX5_get 13 = .ok (.iaload, 1) := by decide +kernel
theorem dX5_get_14 : decode cX5_get 14 = .ok (.ireturn, 1) := by decide +kernel
set_option maxRecDepth 20000 in
set_option maxHeartbeats 4000000 in
theorem c_X5_get {K : Cx} {k f : Nat} {m : TM} (hk : k < 8) (hf : f < 7) : CT yX5_get cX5_get 3 (some .int) 0 0 K [.ref 49, .int (nI k), .int (nI f)] (m) (some (.int (m.1 50 (12 + 7 * k + f)))) (m) := by
  refine ct_ofd (n := 0) (by decide +kernel) rfl rfl ?_
  show XX RX5 cX5_get 3 (some .int) 0 0 K 0 [some (.ref 49), some (.int (nI k)), some (.int (nI f))] [] (m) (fun r1 m1 => r1 = (some (.int (m.1 50 (12 + 7 * k + f)))) ∧ m1 = m)
  refine x_aload_n (q := 1) dX5_get_0 rfl rfl ?_
  refine x_getR (q := 4) dX5_get_1 rfl fl_X5_9 (or5_s) ?_
  refine x_bipush (q := 6) (v := 12) dX5_get_4 rfl (by decide) ?_
  refine x_bipush (q := 8) (v := 7) dX5_get_6 rfl (by decide) ?_
  refine x_iload_n (q := 9) dX5_get_8 rfl rfl ?_
  refine x_imul (q := 10) dX5_get_9 rfl ?_
  refine x_iadd (q := 11) dX5_get_10 rfl ?_
  refine x_iload_n (q := 12) dX5_get_11 rfl rfl ?_
  refine x_iadd (q := 13) dX5_get_12 rfl ?_
  refine x_iald (q := 14) dX5_get_13 rfl (ar_50) (ix_par hk hf) (Nat.zero_add _) ?_
  refine x_ireturn dX5_get_14 rfl rfl ?_
  exact ⟨rfl, rfl⟩
theorem dX5_puts_0 : decode cX5_puts 0 = .ok (.aload_n 0, 1) := by decide +kernel
theorem dX5_puts_1 : decode cX5_puts 1 = .ok (.getfield 9, 3) := by decide +kernel
theorem dX5_puts_4 : decode cX5_puts 4 = .ok (.bipush 12, 2) := by decide +kernel
theorem dX5_puts_6 : decode cX5_puts 6 = .ok (.bipush 7, 2) := by decide +kernel
theorem dX5_puts_8 : decode cX5_puts 8 = .ok (.iload_n 1, 1) := by decide +kernel
theorem dX5_puts_9 : decode cX5_puts 9 = .ok (.imul, 1) := by decide +kernel
theorem dX5_puts_10 : decode cX5_puts 10 = .ok (.iadd, 1) := by decide +kernel
theorem dX5_puts_11 : decode cX5_puts 11 = .ok (.iload_n 2, 1) := by decide +kernel
theorem dX5_puts_12 : decode cX5_puts 12 = .ok (.iadd, 1) := by decide +kernel
theorem dX5_puts_13 : decode cX5_puts 13 = .ok (.iload_n 3, 1) := by decide +kernel
theorem dX5_puts_14 : decode cX5_puts 14 = .ok (.iastore, 1) := by decide +kernel
theorem dX5_puts_15 : decode cX5_puts 15 = .ok (.return_, 1) := by decide +kernel
set_option maxRecDepth 20000 in
set_option maxHeartbeats 4000000 in
theorem c_X5_puts {K : Cx} {k f : Nat} {v : Int32} {m : TM} (hk : k < 8) (hf : f < 7) : CT yX5_puts cX5_puts 4 none 0 0 K [.ref 49, .int (nI k), .int (nI f), .int v] (m) none (st1 m 50 (12 + 7 * k + f) v) := by
  refine ct_ofd (n := 0) (by decide +kernel) rfl rfl ?_
  show XX RX5 cX5_puts 4 none 0 0 K 0 [some (.ref 49), some (.int (nI k)), some (.int (nI f)), some (.int v)] [] (m) (fun r1 m1 => r1 = none ∧ m1 = st1 m 50 (12 + 7 * k + f) v)
  refine x_aload_n (q := 1) dX5_puts_0 rfl rfl ?_
  refine x_getR (q := 4) dX5_puts_1 rfl fl_X5_9 (or5_s) ?_
  refine x_bipush (q := 6) (v := 12) dX5_puts_4 rfl (by decide) ?_
  refine x_bipush (q := 8) (v := 7) dX5_puts_6 rfl (by decide) ?_
  refine x_iload_n (q := 9) dX5_puts_8 rfl rfl ?_
  refine x_imul (q := 10) dX5_puts_9 rfl ?_
  refine x_iadd (q := 11) dX5_puts_10 rfl ?_
  refine x_iload_n (q := 12) dX5_puts_11 rfl rfl ?_
  refine x_iadd (q := 13) dX5_puts_12 rfl ?_
  refine x_iload_n (q := 14) dX5_puts_13 rfl rfl ?_
  refine x_iast (q := 15) dX5_puts_14 rfl (ar_50) (ix_par hk hf) (Nat.zero_add _) rfl ?_
  refine x_return dX5_puts_15 rfl ?_
  exact ⟨rfl, rfl⟩
theorem dX5_isParcel_0 : decode cX5_isParcel 0 = .ok (.iload_n 1, 1) := by decide +kernel
theorem dX5_isParcel_1 : decode cX5_isParcel 1 = .ok (.iconst 0, 1) := by decide +kernel
theorem dX5_isParcel_2 : decode cX5_isParcel 2 = .ok (.aload_n 0, 1) := by decide +kernel
theorem dX5_isParcel_3 : decode cX5_isParcel 3 = .ok (.getfield 9, 3) := by decide +kernel
theorem dX5_isParcel_6 : decode cX5_isParcel 6 = .ok (.iconst 1, 1) := by decide +kernel
theorem dX5_isParcel_7 : decode cX5_isParcel 7 = .ok (.iaload, 1) := by decide +kernel
theorem dX5_isParcel_8 : decode cX5_isParcel 8 = .ok (.iconst 1, 1) := by decide +kernel
theorem dX5_isParcel_9 : decode cX5_isParcel 9 = .ok (.isub, 1) := by decide +kernel
theorem dX5_isParcel_10 : decode cX5_isParcel 10 = .ok (.invokestatic 48, 3) := by decide +kernel
theorem dX5_isParcel_13 : decode cX5_isParcel 13 = .ok (.ireturn, 1) := by decide +kernel
set_option maxRecDepth 20000 in
set_option maxHeartbeats 4000000 in
theorem c_X5_isParcel {K : Cx} {v : Int32} {m : TM} : CT yX5_isParcel cX5_isParcel 2 (some .boolean) 1 22 K [.ref 49, .int v] (m) (some (.int (bI (inI v 0 (m.1 50 1 - 1))))) (m) := by
  refine ct_ofd (n := 0) (by decide +kernel) rfl rfl ?_
  show XX RX5 cX5_isParcel 2 (some .boolean) 1 22 K 0 [some (.ref 49), some (.int v)] [] (m) (fun r1 m1 => r1 = (some (.int (bI (inI v 0 (m.1 50 1 - 1))))) ∧ m1 = m)
  refine x_iload_n (q := 1) dX5_isParcel_0 rfl rfl ?_
  refine x_iconst (q := 2) (v := 0) dX5_isParcel_1 rfl (by decide) ?_
  refine x_aload_n (q := 3) dX5_isParcel_2 rfl rfl ?_
  refine x_getR (q := 6) dX5_isParcel_3 rfl fl_X5_9 (or5_s) ?_
  refine x_iconst (q := 7) (v := 1) dX5_isParcel_6 rfl (by decide) ?_
  refine x_iald (q := 8) dX5_isParcel_7 rfl (ar_50) (ix_nI (k := 1) (by decide) (by decide)) (Nat.zero_add _) ?_
  refine x_iconst (q := 9) (v := 1) dX5_isParcel_8 rfl (by decide) ?_
  refine x_isub (q := 10) dX5_isParcel_9 rfl ?_
  refine x_callS3v (q := 13) dX5_isParcel_10 rfl ml_X5_48 ms_X5_in1 c_X5_in1 (Nat.le_of_ble_eq_true rfl) ⟨by decide, by decide⟩ ?_
  refine x_ireturn dX5_isParcel_13 rfl (bI_narrow _) ?_
  exact ⟨rfl, rfl⟩
theorem dX4_isOut_0 : decode cX4_isOut 0 = .ok (.iload_n 0, 1) := by decide +kernel
theorem dX4_isOut_1 : decode cX4_isOut 1 = .ok (.iload_n 1, 1) := by decide +kernel
theorem dX4_isOut_2 : decode cX4_isOut 2 = .ok (.if_icmp .lt 8, 3) := by decide +kernel
theorem dX4_isOut_5 : decode cX4_isOut 5 = .ok (.iload_n 0, 1) := by decide +kernel
theorem dX4_isOut_6 : decode cX4_isOut 6 = .ok (.iload_n 2, 1) := by decide +kernel
theorem dX4_isOut_7 : decode cX4_isOut 7 = .ok (.if_icmp .le 7, 3) := by decide +kernel
theorem dX4_isOut_10 : decode cX4_isOut 10 = .ok (.iconst 1, 1) := by decide +kernel
theorem dX4_isOut_11 : decode cX4_isOut 11 = .ok (.goto 4, 3) := by decide +kernel
theorem dX4_isOut_14 : decode cX4_isOut 14 = .ok (.iconst 0, 1) := by decide +kernel
theorem dX4_isOut_15 : decode cX4_isOut 15 = .ok (.ireturn, 1) := by decide +kernel
set_option maxRecDepth 20000 in
set_option maxHeartbeats 4000000 in
theorem c_X4_isOut {K : Cx} {v l h : Int32} {m : TM} : CT yX4_isOut cX4_isOut 3 (some .boolean) 0 0 K [.int v, .int l, .int h] (m) (some (.int (bI (outI v l h)))) (m) := by
  refine ct_ofd (n := 0) (by decide +kernel) rfl rfl ?_
  show XX RX4 cX4_isOut 3 (some .boolean) 0 0 K 0 [some (.int v), some (.int l), some (.int h)] [] (m) (fun r1 m1 => r1 = (some (.int (bI (outI v l h)))) ∧ m1 = m)
  refine x_iload_n (q := 1) dX4_isOut_0 rfl rfl ?_
  refine x_iload_n (q := 2) dX4_isOut_1 rfl rfl ?_
  refine x_icmp_lt (q := 5) (t := 10) dX4_isOut_2 rfl (by decide) (fun h2 => ?_) (fun h2 => ?_)
  · refine x_iconst (q := 11) (v := 1) dX4_isOut_10 rfl (by decide) ?_
    refine x_goto (q := 15) dX4_isOut_11 (by decide) ?_
    refine x_ireturn dX4_isOut_15 rfl (by decide) ?_
    exact ⟨by simp [outI, bI, *], rfl⟩
  refine x_iload_n (q := 6) dX4_isOut_5 rfl rfl ?_
  refine x_iload_n (q := 7) dX4_isOut_6 rfl rfl ?_
  refine x_icmp_le (q := 10) (t := 14) dX4_isOut_7 rfl (by decide) (fun h7 => ?_) (fun h7 => ?_)
  · refine x_iconst (q := 15) (v := 0) dX4_isOut_14 rfl (by decide) ?_
    refine x_ireturn dX4_isOut_15 rfl (by decide) ?_
    exact ⟨by simp [outI, bI, *], rfl⟩
  refine x_iconst (q := 11) (v := 1) dX4_isOut_10 rfl (by decide) ?_
  refine x_goto (q := 15) dX4_isOut_11 (by decide) ?_
  refine x_ireturn dX4_isOut_15 rfl (by decide) ?_
  exact ⟨by simp [outI, bI, *], rfl⟩
theorem dX4_isNoSheet_0 : decode cX4_isNoSheet 0 = .ok (.iload_n 0, 1) := by decide +kernel
theorem dX4_isNoSheet_1 : decode cX4_isNoSheet 1 = .ok (.iconst 0, 1) := by decide +kernel
theorem dX4_isNoSheet_2 : decode cX4_isNoSheet 2 = .ok (.iconst 3, 1) := by decide +kernel
theorem dX4_isNoSheet_3 : decode cX4_isNoSheet 3 = .ok (.invokestatic 44, 3) := by decide +kernel
theorem dX4_isNoSheet_6 : decode cX4_isNoSheet 6 = .ok (.ireturn, 1) := by decide +kernel
set_option maxRecDepth 20000 in
set_option maxHeartbeats 4000000 in
theorem c_X4_isNoSheet {K : Cx} {v : Int32} {m : TM} : CT yX4_isNoSheet cX4_isNoSheet 1 (some .boolean) 1 22 K [.int v] (m) (some (.int (bI (outI v 0 3)))) (m) := by
  refine ct_ofd (n := 0) (by decide +kernel) rfl rfl ?_
  show XX RX4 cX4_isNoSheet 1 (some .boolean) 1 22 K 0 [some (.int v)] [] (m) (fun r1 m1 => r1 = (some (.int (bI (outI v 0 3)))) ∧ m1 = m)
  refine x_iload_n (q := 1) dX4_isNoSheet_0 rfl rfl ?_
  refine x_iconst (q := 2) (v := 0) dX4_isNoSheet_1 rfl (by decide) ?_
  refine x_iconst (q := 3) (v := 3) dX4_isNoSheet_2 rfl (by decide) ?_
  refine x_callS3v (q := 6) dX4_isNoSheet_3 rfl ml_X4_44 ms_X4_isOut c_X4_isOut (Nat.le_of_ble_eq_true rfl) ⟨by decide, by decide⟩ ?_
  refine x_ireturn dX4_isNoSheet_6 rfl (bI_narrow _) ?_
  exact ⟨rfl, rfl⟩
theorem dX4_isNoParcel_0 : decode cX4_isNoParcel 0 = .ok (.iload_n 1, 1) := by decide +kernel
theorem dX4_isNoParcel_1 : decode cX4_isNoParcel 1 = .ok (.iconst 0, 1) := by decide +kernel
theorem dX4_isNoParcel_2 : decode cX4_isNoParcel 2 = .ok (.aload_n 0, 1) := by decide +kernel
theorem dX4_isNoParcel_3 : decode cX4_isNoParcel 3 = .ok (.getfield 12, 3) := by decide +kernel
theorem dX4_isNoParcel_6 : decode cX4_isNoParcel 6 = .ok (.getfield 73, 3) := by decide +kernel
theorem dX4_isNoParcel_9 : decode cX4_isNoParcel 9 = .ok (.iconst 1, 1) := by decide +kernel
theorem dX4_isNoParcel_10 : decode cX4_isNoParcel 10 = .ok (.isub, 1) := by decide +kernel
theorem dX4_isNoParcel_11 : decode cX4_isNoParcel 11 = .ok (.invokestatic 44, 3) := by decide +kernel
theorem dX4_isNoParcel_14 : decode cX4_isNoParcel 14 = .ok (.ireturn, 1) := by decide +kernel
set_option maxRecDepth 20000 in
set_option maxHeartbeats 4000000 in
theorem c_X4_isNoParcel {K : Cx} {v : Int32} {m : TM} : CT yX4_isNoParcel cX4_isNoParcel 2 (some .boolean) 1 22 K [.ref 0, .int v] (m) (some (.int (bI (outI v 0 (m.1 1 1 - 1))))) (m) := by
  refine ct_ofd (n := 0) (by decide +kernel) rfl rfl ?_
  show XX RX4 cX4_isNoParcel 2 (some .boolean) 1 22 K 0 [some (.ref 0), some (.int v)] [] (m) (fun r1 m1 => r1 = (some (.int (bI (outI v 0 (m.1 1 1 - 1))))) ∧ m1 = m)
  refine x_iload_n (q := 1) dX4_isNoParcel_0 rfl rfl ?_
  refine x_iconst (q := 2) (v := 0) dX4_isNoParcel_1 rfl (by decide) ?_
  refine x_aload_n (q := 3) dX4_isNoParcel_2 rfl rfl ?_
  refine x_getR (q := 6) dX4_isNoParcel_3 rfl fl_X4_12 (or4_coast) ?_
  refine x_getI (q := 9) dX4_isNoParcel_6 rfl fl_X4_73 (ob0_laid isC_1) ?_
  refine x_iconst (q := 10) (v := 1) dX4_isNoParcel_9 rfl (by decide) ?_
  refine x_isub (q := 11) dX4_isNoParcel_10 rfl ?_
  refine x_callS3v (q := 14) dX4_isNoParcel_11 rfl ml_X4_44 ms_X4_isOut c_X4_isOut (Nat.le_of_ble_eq_true rfl) ⟨by decide, by decide⟩ ?_
  refine x_ireturn dX4_isNoParcel_14 rfl (bI_narrow _) ?_
  exact ⟨rfl, rfl⟩
