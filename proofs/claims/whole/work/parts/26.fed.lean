/-! the tape is fed; odds -/
def apM (m : TM) (L : Nat) (b : Int32) : TM := st1 (st1 m 38 L (vp_nar .byte b)) 37 1 (nI (L + 1))
def fdC (x : Int32) : Nat → Nat → TM → TM
  | 0, _, m => m
  | j + 1, L, m => fdC x j (L + 1) (apM m L ((x >>> ((8 * nI j) &&& 31)).toInt8.toInt32))
def aqM (m : TM) (L : Nat) (b : Int32) : TM := st1 (st1 m 54 L b) 49 6 (nI (L + 1))
def fdM (x : Int32) : Nat → Nat → TM → TM
  | 0, _, m => m
  | j + 1, L, m => fdM x j (L + 1) (aqM m L ((x >>> ((8 * nI j) &&& 31)) &&& 255))
theorem fd_lt {j : Nat} (h : j ≤ 4) : nI j - 1 < 0 ↔ j = 0 := by
  have : j = 0 ∨ j = 1 ∨ j = 2 ∨ j = 3 ∨ j = 4 := by omega
  rcases this with h | h | h | h | h <;> subst h <;> decide
theorem nI_p1 {j : Nat} : nI (j + 1) - 1 = nI j := by rw [← jnI_s j]; exact Int32.add_sub_cancel ..
theorem apM_L {m : TM} {L : Nat} {b : Int32} : (apM m L b).1 37 1 = nI (L + 1) := by simp [apM, st1]
theorem aqM_L {m : TM} {L : Nat} {b : Int32} : (aqM m L b).1 49 6 = nI (L + 1) := by simp [aqM, st1]
theorem nI_a1 {L : Nat} : nI L + 1 = nI (L + 1) := jnI_s L
theorem dX3_append_0 : decode cX3_append 0 = .ok (.aload_n 0, 1) := by decide +kernel
theorem dX3_append_1 : decode cX3_append 1 = .ok (.getfield 15, 3) := by decide +kernel
theorem dX3_append_4 : decode cX3_append 4 = .ok (.aload_n 0, 1) := by decide +kernel
theorem dX3_append_5 : decode cX3_append 5 = .ok (.getfield 9, 3) := by decide +kernel
theorem dX3_append_8 : decode cX3_append 8 = .ok (.arraylength, 1) := by decide +kernel
theorem dX3_append_9 : decode cX3_append 9 = .ok (.if_icmp .ge 23, 3) := by decide +kernel
theorem dX3_append_12 : decode cX3_append 12 = .ok (.aload_n 0, 1) := by decide +kernel
theorem dX3_append_13 : decode cX3_append 13 = .ok (.getfield 9, 3) := by decide +kernel
theorem dX3_append_16 : decode cX3_append 16 = .ok (.aload_n 0, 1) := by decide +kernel
theorem dX3_append_17 : decode cX3_append 17 = .ok (.getfield 15, 3) := by decide +kernel
theorem dX3_append_20 : decode cX3_append 20 = .ok (.iload_n 1, 1) := by decide +kernel
theorem dX3_append_21 : decode cX3_append 21 = .ok (.bastore, 1) := by decide +kernel
theorem dX3_append_22 : decode cX3_append 22 = .ok (.aload_n 0, 1) := by decide +kernel
theorem dX3_append_23 : decode cX3_append 23 = .ok (.dup, 1) := by decide +kernel
theorem dX3_append_24 : decode cX3_append 24 = .ok (.getfield 15, 3) := by decide +kernel
theorem dX3_append_27 : decode cX3_append 27 = .ok (.iconst 1, 1) := by decide +kernel
theorem dX3_append_28 : decode cX3_append 28 = .ok (.iadd, 1) := by decide +kernel
theorem dX3_append_29 : decode cX3_append 29 = .ok (.putfield 15, 3) := by decide +kernel
theorem dX3_append_32 : decode cX3_append 32 = .ok (.return_, 1) := by decide +kernel
set_option maxRecDepth 20000 in
set_option maxHeartbeats 4000000 in
theorem c_X3_append {K : Cx} {L : Nat} {b : Int32} {m : TM} (hL : m.1 37 1 = nI L) (h : L < 120) : CT yX3_append cX3_append 2 none 0 0 K [.ref 37, .int b] (m) none (apM m L b) := by
  refine ct_ofd (n := 0) (by decide +kernel) rfl rfl ?_
  show XX RX3 cX3_append 2 none 0 0 K 0 [some (.ref 37), some (.int b)] [] (m) (fun r1 m1 => r1 = none ∧ m1 = apM m L b)
  refine x_aload_n (q := 1) dX3_append_0 rfl rfl ?_
  refine x_getI (q := 4) dX3_append_1 rfl fl_X3_15 (ob3_length) ?_
  refine x_aload_n (q := 5) dX3_append_4 rfl rfl ?_
  refine x_getR (q := 8) dX3_append_5 rfl fl_X3_9 (or3_bytes) ?_
  refine x_alen (q := 9) (v := 120) dX3_append_8 rfl (ra_38) (by decide) (by decide) ?_
  rw [hL]
  refine x_icmp_ge (q := 12) (t := 32) dX3_append_9 rfl (by decide) (fun h9 => ?_) (fun h9 => ?_)
  · refine x_return dX3_append_32 rfl ?_
    exact absurd (lp_stop (n := 120) rfl (by omega) (by omega) h9) (by omega)
  
  refine x_aload_n (q := 13) dX3_append_12 rfl rfl ?_
  refine x_getR (q := 16) dX3_append_13 rfl fl_X3_9 (or3_bytes) ?_
  refine x_aload_n (q := 17) dX3_append_16 rfl rfl ?_
  refine x_getI (q := 20) dX3_append_17 rfl fl_X3_15 (ob3_length) ?_
  rw [hL]
  refine x_iload_n (q := 21) dX3_append_20 rfl rfl ?_
  refine x_bast (q := 22) dX3_append_21 rfl (ar_38) (ix_nI h (by decide)) (Nat.zero_add _) rfl ?_
  refine x_aload_n (q := 23) dX3_append_22 rfl rfl ?_
  refine x_dup (q := 24) dX3_append_23 rfl rfl ?_
  refine x_getI (q := 27) dX3_append_24 rfl fl_X3_15 (ob3_length) ?_
  rw [show (st1 m 38 L (vp_nar .byte b)).1 37 1 = nI L from by simp [st1, hL]]
  refine x_iconst (q := 28) (v := 1) dX3_append_27 rfl (by decide) ?_
  refine x_iadd (q := 29) dX3_append_28 rfl ?_
  rw [nI_a1]
  refine x_putI (q := 32) dX3_append_29 rfl fl_X3_15 (ob3_length) rfl rfl rfl rfl ?_
  refine x_return dX3_append_32 rfl ?_
  exact ⟨rfl, rfl⟩
theorem dX4_feed_0 : decode cX4_feed 0 = .ok (.iload_n 2, 1) := by decide +kernel
theorem dX4_feed_1 : decode cX4_feed 1 = .ok (.iconst 1, 1) := by decide +kernel
theorem dX4_feed_2 : decode cX4_feed 2 = .ok (.iconst 4, 1) := by decide +kernel
theorem dX4_feed_3 : decode cX4_feed 3 = .ok (.invokestatic 44, 3) := by decide +kernel
theorem dX4_feed_6 : decode cX4_feed 6 = .ok (.ifCond .eq 10, 3) := by decide +kernel
theorem dX4_feed_9 : decode cX4_feed 9 = .ok (.aload_n 0, 1) := by decide +kernel
theorem dX4_feed_10 : decode cX4_feed 10 = .ok (.ldc 48, 2) := by decide +kernel
theorem dX4_feed_12 : decode cX4_feed 12 = .ok (.invokevirtual 49, 3) := by decide +kernel
theorem dX4_feed_15 : decode cX4_feed 15 = .ok (.ireturn, 1) := by decide +kernel
theorem dX4_feed_16 : decode cX4_feed 16 = .ok (.aload_n 0, 1) := by decide +kernel
theorem dX4_feed_17 : decode cX4_feed 17 = .ok (.getfield 29, 3) := by decide +kernel
theorem dX4_feed_20 : decode cX4_feed 20 = .ok (.getfield 166, 3) := by decide +kernel
theorem dX4_feed_23 : decode cX4_feed 23 = .ok (.iload_n 2, 1) := by decide +kernel
theorem dX4_feed_24 : decode cX4_feed 24 = .ok (.iadd, 1) := by decide +kernel
theorem dX4_feed_25 : decode cX4_feed 25 = .ok (.bipush 120, 2) := by decide +kernel
theorem dX4_feed_27 : decode cX4_feed 27 = .ok (.if_icmp .le 10, 3) := by decide +kernel
theorem dX4_feed_30 : decode cX4_feed 30 = .ok (.aload_n 0, 1) := by decide +kernel
theorem dX4_feed_31 : decode cX4_feed 31 = .ok (.ldc 67, 2) := by decide +kernel
theorem dX4_feed_33 : decode cX4_feed 33 = .ok (.invokevirtual 49, 3) := by decide +kernel
theorem dX4_feed_36 : decode cX4_feed 36 = .ok (.ireturn, 1) := by decide +kernel
theorem dX4_feed_37 : decode cX4_feed 37 = .ok (.iload_n 2, 1) := by decide +kernel
theorem dX4_feed_38 : decode cX4_feed 38 = .ok (.iconst 1, 1) := by decide +kernel
theorem dX4_feed_39 : decode cX4_feed 39 = .ok (.isub, 1) := by decide +kernel
theorem dX4_feed_40 : decode cX4_feed 40 = .ok (.istore_n 3, 1) := by decide +kernel
theorem dX4_feed_41 : decode cX4_feed 41 = .ok (.iload_n 3, 1) := by decide +kernel
theorem dX4_feed_42 : decode cX4_feed 42 = .ok (.ifCond .lt 23, 3) := by decide +kernel
theorem dX4_feed_45 : decode cX4_feed 45 = .ok (.aload_n 0, 1) := by decide +kernel
theorem dX4_feed_46 : decode cX4_feed 46 = .ok (.getfield 29, 3) := by decide +kernel
theorem dX4_feed_49 : decode cX4_feed 49 = .ok (.iload_n 1, 1) := by decide +kernel
theorem dX4_feed_50 : decode cX4_feed 50 = .ok (.bipush 8, 2) := by decide +kernel
theorem dX4_feed_52 : decode cX4_feed 52 = .ok (.iload_n 3, 1) := by decide +kernel
theorem dX4_feed_53 : decode cX4_feed 53 = .ok (.imul, 1) := by decide +kernel
theorem dX4_feed_54 : decode cX4_feed 54 = .ok (.ishr, 1) := by decide +kernel
theorem dX4_feed_55 : decode cX4_feed 55 = .ok (.i2b, 1) := by decide +kernel
theorem dX4_feed_56 : decode cX4_feed 56 = .ok (.invokevirtual 169, 3) := by decide +kernel
theorem dX4_feed_59 : decode cX4_feed 59 = .ok (.iinc 3 (-1), 3) := by decide +kernel
theorem dX4_feed_62 : decode cX4_feed 62 = .ok (.goto (-21), 3) := by decide +kernel
theorem dX4_feed_65 : decode cX4_feed 65 = .ok (.aload_n 0, 1) := by decide +kernel
theorem dX4_feed_66 : decode cX4_feed 66 = .ok (.getfield 29, 3) := by decide +kernel
theorem dX4_feed_69 : decode cX4_feed 69 = .ok (.getfield 166, 3) := by decide +kernel
theorem dX4_feed_72 : decode cX4_feed 72 = .ok (.ireturn, 1) := by decide +kernel
set_option maxRecDepth 20000 in
set_option maxHeartbeats 4000000 in
theorem l_X4_feed {K : Cx} {x n0 : Int32} : ∀ (n : Nat) (j L : Nat) (m : TM), j < n → j ≤ 4 → L + j ≤ 120 → m.1 37 1 = nI L → XX RX4 cX4_feed 4 (some .int) 2 44 K 41 [some (.ref 0), some (.int x), some (.int n0), some (.int (nI j - 1))] [] (m) (fun r1 m1 => r1 = (some (.int (nI (L + j)))) ∧ m1 = fdC x j L m) := by
  intro n
  induction n with
  | zero => intro j L m hlt; exact absurd hlt (Nat.not_lt_zero _)
  | succ n ih =>
    intro j L m hlt hj hLj hL
    refine x_iload_n (q := 42) dX4_feed_41 rfl rfl ?_
    refine x_if_lt (q := 45) (t := 65) dX4_feed_42 rfl (by decide) (fun h42 => ?_) (fun h42 => ?_)
    · obtain rfl := (fd_lt hj).mp h42
      refine x_aload_n (q := 66) dX4_feed_65 rfl rfl ?_
      refine x_getR (q := 69) dX4_feed_66 rfl fl_X4_29 (or4_tape) ?_
      refine x_getI (q := 72) dX4_feed_69 rfl fl_X4_166 (ob3_length) ?_
      refine x_ireturn dX4_feed_72 rfl rfl ?_
      exact ⟨by rw [hL]; rfl, rfl⟩
    obtain ⟨i, rfl⟩ : ∃ i, j = i + 1 := ⟨j - 1, by have := mt (fd_lt hj).mpr h42; omega⟩
    rw [nI_p1]
    refine x_aload_n (q := 46) dX4_feed_45 rfl rfl ?_
    refine x_getR (q := 49) dX4_feed_46 rfl fl_X4_29 (or4_tape) ?_
    refine x_iload_n (q := 50) dX4_feed_49 rfl rfl ?_
    refine x_bipush (q := 52) (v := 8) dX4_feed_50 rfl (by decide) ?_
    refine x_iload_n (q := 53) dX4_feed_52 rfl rfl ?_
    refine x_imul (q := 54) dX4_feed_53 rfl ?_
    refine x_ishr (q := 55) dX4_feed_54 rfl ?_
    refine x_i2b (q := 56) dX4_feed_55 rfl ?_
    refine x_callV1n (q := 59) dX4_feed_56 rfl ml_X4_169 mv_X3_append rv3 rfl (c_X3_append hL (by omega)) (Nat.le_of_ble_eq_true rfl) ⟨by decide, by decide⟩ ?_
    refine x_iinc (q := 62) (v := nI i - 1) dX4_feed_59 rfl rfl (by rw [Int32.sub_eq_add_neg]; rfl) (by decide) rfl rfl ?_
    refine x_goto (q := 41) dX4_feed_62 (by decide) ?_
    have h := ih i (L + 1) _ (by omega) (by omega) (by omega) (apM_L (m := m) (L := L) (b := (x >>> ((8 * nI i) &&& 31)).toInt8.toInt32))
    rw [show L + 1 + i = L + (i + 1) by omega] at h
    exact h
theorem fd_n {n : Int32} (h : outI n 1 4 = false) : ∃ j, j ≤ 4 ∧ n = nI j := by
  unfold outI at h
  have h1 : ¬ n < 1 := fun q => by simp [q] at h
  have h2 : ¬ 4 < n := fun q => by simp [q] at h
  have h0 : ¬ n < 0 := fun q => h1 (Int32.lt_trans q (by decide))
  have e := jnI_of h0
  have h3 := Int32.not_lt.mp h2
  rw [e, show (4 : Int32) = nI 4 from rfl] at h3
  have h4 : cl n < 2147483648 := by
    have := Int32.toNatClampNeg_lt n
    exact Nat.lt_of_lt_of_le this (by decide)
  exact ⟨cl n, (jnI_le' h4 (by decide)).mp h3, e⟩
theorem fd_s {L j : Nat} (hL : L ≤ 120) (hj : j ≤ 4) (h : nI L + nI j ≤ 120) : L + j ≤ 120 := by
  rw [nI_add, show (120 : Int32) = nI 120 from rfl] at h
  exact (jnI_le' (by omega) (by decide)).mp h
set_option maxRecDepth 20000 in
set_option maxHeartbeats 4000000 in
theorem c_X4_feed {K : Cx} {L : Nat} {x n : Int32} {m : TM} (hL : m.1 37 1 = nI L) (hL2 : L ≤ 120) : CT yX4_feed cX4_feed 4 (some .int) 2 44 K [.ref 0, .int x, .int n] (m) (some (.int ((if (outI n 1 4) = true then -1000001 else (if nI L + n ≤ 120 then nI (L + cl n) else -1000002))))) ((if (outI n 1 4) = true then fnd m 0 else (if nI L + n ≤ 120 then fdC x (cl n) L m else fnd m 1))) := by
  refine ct_ofd (n := 1) (by decide +kernel) rfl rfl ?_
  show XX RX4 cX4_feed 4 (some .int) 2 44 K 0 [some (.ref 0), some (.int x), some (.int n), none] [] (m) (fun r1 m1 => r1 = (some (.int ((if (outI n 1 4) = true then -1000001 else (if nI L + n ≤ 120 then nI (L + cl n) else -1000002))))) ∧ m1 = (if (outI n 1 4) = true then fnd m 0 else (if nI L + n ≤ 120 then fdC x (cl n) L m else fnd m 1)))
  refine x_iload_n (q := 1) dX4_feed_0 rfl rfl ?_
  refine x_iconst (q := 2) (v := 1) dX4_feed_1 rfl (by decide) ?_
  refine x_iconst (q := 3) (v := 4) dX4_feed_2 rfl (by decide) ?_
  refine x_callS3v (q := 6) dX4_feed_3 rfl ml_X4_44 ms_X4_isOut c_X4_isOut (Nat.le_of_ble_eq_true rfl) ⟨by decide, by decide⟩ ?_
  refine x_ifB_eq (q := 9) (t := 16) dX4_feed_6 rfl (by decide) (fun h6 => ?_) (fun h6 => ?_)
  · refine x_aload_n (q := 17) dX4_feed_16 rfl rfl ?_
    refine x_getR (q := 20) dX4_feed_17 rfl fl_X4_29 (or4_tape) ?_
    refine x_getI (q := 23) dX4_feed_20 rfl fl_X4_166 (ob3_length) ?_
    rw [hL]
    refine x_iload_n (q := 24) dX4_feed_23 rfl rfl ?_
    refine x_iadd (q := 25) dX4_feed_24 rfl ?_
    refine x_bipush (q := 27) (v := 120) dX4_feed_25 rfl (by decide) ?_
    refine x_icmp_le (q := 30) (t := 37) dX4_feed_27 rfl (by decide) (fun h27 => ?_) (fun h27 => ?_)
    · refine x_iload_n (q := 38) dX4_feed_37 rfl rfl ?_
      refine x_iconst (q := 39) (v := 1) dX4_feed_38 rfl (by decide) ?_
      refine x_isub (q := 40) dX4_feed_39 rfl ?_
      refine x_istore_n (q := 41) dX4_feed_40 rfl (by decide) rfl rfl ?_
      obtain ⟨j, hj, rfl⟩ := fd_n h6
      have ej : cl (nI j) = j := jnI_clamp (by omega)
      simp only [h6, Bool.false_eq_true, if_false]
      rw [if_pos h27, if_pos h27, ej]
      exact l_X4_feed j.succ j L m (by omega) hj (fd_s hL2 hj h27) hL
    refine x_aload_n (q := 31) dX4_feed_30 rfl rfl ?_
    refine x_ldc (q := 33) dX4_feed_31 rfl kc_X4_67 ?_
    refine x_callV1v (q := 36) dX4_feed_33 rfl ml_X4_49 mv_X4_finding rv4 rfl (c_X4_finding (w := 1) (by decide) (by decide)) (Nat.le_of_ble_eq_true rfl) ⟨by decide, by decide⟩ ?_
    refine x_ireturn dX4_feed_36 rfl rfl ?_
    exact ⟨by simp only [h6, Bool.false_eq_true, if_false]; rw [if_neg h27], by simp only [h6, Bool.false_eq_true, if_false]; rw [if_neg h27]⟩
  refine x_aload_n (q := 10) dX4_feed_9 rfl rfl ?_
  refine x_ldc (q := 12) dX4_feed_10 rfl kc_X4_48 ?_
  refine x_callV1v (q := 15) dX4_feed_12 rfl ml_X4_49 mv_X4_finding rv4 rfl (c_X4_finding (w := 0) (by decide) (by decide)) (Nat.le_of_ble_eq_true rfl) ⟨by decide, by decide⟩ ?_
  refine x_ireturn dX4_feed_15 rfl rfl ?_
  exact ⟨by simp [h6], by simp [h6]⟩
theorem dX5_feed_0 : decode cX5_feed 0 = .ok (.iload_n 2, 1) := by decide +kernel
theorem dX5_feed_1 : decode cX5_feed 1 = .ok (.iconst 1, 1) := by decide +kernel
theorem dX5_feed_2 : decode cX5_feed 2 = .ok (.iconst 4, 1) := by decide +kernel
theorem dX5_feed_3 : decode cX5_feed 3 = .ok (.invokestatic 48, 3) := by decide +kernel
theorem dX5_feed_6 : decode cX5_feed 6 = .ok (.ifCond .ne 9, 3) := by decide +kernel
theorem dX5_feed_9 : decode cX5_feed 9 = .ok (.aload_n 0, 1) := by decide +kernel
theorem dX5_feed_10 : decode cX5_feed 10 = .ok (.iconst 0, 1) := by decide +kernel
theorem dX5_feed_11 : decode cX5_feed 11 = .ok (.invokevirtual 103, 3) := by decide +kernel
theorem dX5_feed_14 : decode cX5_feed 14 = .ok (.ireturn, 1) := by decide +kernel
theorem dX5_feed_15 : decode cX5_feed 15 = .ok (.aload_n 0, 1) := by decide +kernel
theorem dX5_feed_16 : decode cX5_feed 16 = .ok (.getfield 177, 3) := by decide +kernel
theorem dX5_feed_19 : decode cX5_feed 19 = .ok (.iload_n 2, 1) := by decide +kernel
theorem dX5_feed_20 : decode cX5_feed 20 = .ok (.iadd, 1) := by decide +kernel
theorem dX5_feed_21 : decode cX5_feed 21 = .ok (.bipush 120, 2) := by decide +kernel
theorem dX5_feed_23 : decode cX5_feed 23 = .ok (.if_icmp .le 9, 3) := by decide +kernel
theorem dX5_feed_26 : decode cX5_feed 26 = .ok (.aload_n 0, 1) := by decide +kernel
theorem dX5_feed_27 : decode cX5_feed 27 = .ok (.iconst 1, 1) := by decide +kernel
theorem dX5_feed_28 : decode cX5_feed 28 = .ok (.invokevirtual 103, 3) := by decide +kernel
theorem dX5_feed_31 : decode cX5_feed 31 = .ok (.ireturn, 1) := by decide +kernel
theorem dX5_feed_32 : decode cX5_feed 32 = .ok (.iload_n 2, 1) := by decide +kernel
theorem dX5_feed_33 : decode cX5_feed 33 = .ok (.iconst 1, 1) := by decide +kernel
theorem dX5_feed_34 : decode cX5_feed 34 = .ok (.isub, 1) := by decide +kernel
theorem dX5_feed_35 : decode cX5_feed 35 = .ok (.istore_n 3, 1) := by decide +kernel
theorem dX5_feed_36 : decode cX5_feed 36 = .ok (.iload_n 3, 1) := by decide +kernel
theorem dX5_feed_37 : decode cX5_feed 37 = .ok (.ifCond .lt 38, 3) := by decide +kernel
theorem dX5_feed_40 : decode cX5_feed 40 = .ok (.aload_n 0, 1) := by decide +kernel
theorem dX5_feed_41 : decode cX5_feed 41 = .ok (.getfield 22, 3) := by decide +kernel
theorem dX5_feed_44 : decode cX5_feed 44 = .ok (.aload_n 0, 1) := by decide +kernel
theorem dX5_feed_45 : decode cX5_feed 45 = .ok (.getfield 177, 3) := by decide +kernel
theorem dX5_feed_48 : decode cX5_feed 48 = .ok (.iload_n 1, 1) := by decide +kernel
theorem dX5_feed_49 : decode cX5_feed 49 = .ok (.bipush 8, 2) := by decide +kernel
theorem dX5_feed_51 : decode cX5_feed 51 = .ok (.iload_n 3, 1) := by decide +kernel
theorem dX5_feed_52 : decode cX5_feed 52 = .ok (.imul, 1) := by decide +kernel
theorem dX5_feed_53 : decode cX5_feed 53 = .ok (.ishr, 1) := by decide +kernel
theorem dX5_feed_54 : decode cX5_feed 54 = .ok (.sipush 255, 3) := by decide +kernel
theorem dX5_feed_57 : decode cX5_feed 57 = .ok (.iand, 1) := by decide +kernel
theorem dX5_feed_58 : decode cX5_feed 58 = .ok (.iastore, 1) := by decide +kernel
theorem dX5_feed_59 : decode cX5_feed 59 = .ok (.aload_n 0, 1) := by decide +kernel
theorem dX5_feed_60 : decode cX5_feed 60 = .ok (.dup, 1) := by decide +kernel
theorem dX5_feed_61 : decode cX5_feed 61 = .ok (.getfield 177, 3) := by decide +kernel
theorem dX5_feed_64 : decode cX5_feed 64 = .ok (.iconst 1, 1) := by decide +kernel
theorem dX5_feed_65 : decode cX5_feed 65 = .ok (.iadd, 1) := by decide +kernel
theorem dX5_feed_66 : decode cX5_feed 66 = .ok (.putfield 177, 3) := by decide +kernel
theorem dX5_feed_69 : decode cX5_feed 69 = .ok (.iinc 3 (-1), 3) := by decide +kernel
theorem dX5_feed_72 : decode cX5_feed 72 = .ok (.goto (-36), 3) := by decide +kernel
theorem dX5_feed_75 : decode cX5_feed 75 = .ok (.aload_n 0, 1) := by decide +kernel
theorem dX5_feed_76 : decode cX5_feed 76 = .ok (.getfield 177, 3) := by decide +kernel
theorem dX5_feed_79 : decode cX5_feed 79 = .ok (.ireturn, 1) := by decide +kernel
set_option maxRecDepth 20000 in
set_option maxHeartbeats 4000000 in
theorem l_X5_feed {K : Cx} {x n0 : Int32} : ∀ (n : Nat) (j L : Nat) (m : TM), j < n → j ≤ 4 → L + j ≤ 120 → m.1 49 6 = nI L → XX RX5 cX5_feed 4 (some .int) 1 22 K 36 [some (.ref 49), some (.int x), some (.int n0), some (.int (nI j - 1))] [] (m) (fun r1 m1 => r1 = (some (.int (nI (L + j)))) ∧ m1 = fdM x j L m) := by
  intro n
  induction n with
  | zero => intro j L m hlt; exact absurd hlt (Nat.not_lt_zero _)
  | succ n ih =>
    intro j L m hlt hj hLj hL
    refine x_iload_n (q := 37) dX5_feed_36 rfl rfl ?_
    refine x_if_lt (q := 40) (t := 75) dX5_feed_37 rfl (by decide) (fun h37 => ?_) (fun h37 => ?_)
    · obtain rfl := (fd_lt hj).mp h37
      refine x_aload_n (q := 76) dX5_feed_75 rfl rfl ?_
      refine x_getI (q := 79) dX5_feed_76 rfl fl_X5_177 (ob5_taped) ?_
      refine x_ireturn dX5_feed_79 rfl rfl ?_
      exact ⟨by rw [hL]; rfl, rfl⟩
    obtain ⟨i, rfl⟩ : ∃ i, j = i + 1 := ⟨j - 1, by have := mt (fd_lt hj).mpr h37; omega⟩
    rw [nI_p1]
    refine x_aload_n (q := 41) dX5_feed_40 rfl rfl ?_
    refine x_getR (q := 44) dX5_feed_41 rfl fl_X5_22 (or5_tape) ?_
    refine x_aload_n (q := 45) dX5_feed_44 rfl rfl ?_
    refine x_getI (q := 48) dX5_feed_45 rfl fl_X5_177 (ob5_taped) ?_
    rw [hL]
    refine x_iload_n (q := 49) dX5_feed_48 rfl rfl ?_
    refine x_bipush (q := 51) (v := 8) dX5_feed_49 rfl (by decide) ?_
    refine x_iload_n (q := 52) dX5_feed_51 rfl rfl ?_
    refine x_imul (q := 53) dX5_feed_52 rfl ?_
    refine x_ishr (q := 54) dX5_feed_53 rfl ?_
    refine x_sipush (q := 57) (v := 255) dX5_feed_54 rfl (by decide) ?_
    refine x_iand (q := 58) dX5_feed_57 rfl ?_
    refine x_iast (q := 59) dX5_feed_58 rfl (ar_54) (ix_nI (n := 120) (k := L) (by omega) (by decide)) (Nat.zero_add _) rfl ?_
    refine x_aload_n (q := 60) dX5_feed_59 rfl rfl ?_
    refine x_dup (q := 61) dX5_feed_60 rfl rfl ?_
    refine x_getI (q := 64) dX5_feed_61 rfl fl_X5_177 (ob5_taped) ?_
    rw [show (st1 m 54 L ((x >>> ((8 * nI i) &&& 31)) &&& 255)).1 49 6 = nI L from by simp [st1, hL]]
    refine x_iconst (q := 65) (v := 1) dX5_feed_64 rfl (by decide) ?_
    refine x_iadd (q := 66) dX5_feed_65 rfl ?_
    rw [nI_a1]
    refine x_putI (q := 69) dX5_feed_66 rfl fl_X5_177 (ob5_taped) rfl rfl rfl rfl ?_
    refine x_iinc (q := 72) (v := nI i - 1) dX5_feed_69 rfl rfl (by rw [Int32.sub_eq_add_neg]; rfl) (by decide) rfl rfl ?_
    refine x_goto (q := 36) dX5_feed_72 (by decide) ?_
    have h := ih i (L + 1) _ (by omega) (by omega) (by omega) (aqM_L (m := m) (L := L) (b := (x >>> ((8 * nI i) &&& 31)) &&& 255))
    rw [show L + 1 + i = L + (i + 1) by omega] at h
    exact h
set_option maxRecDepth 20000 in
set_option maxHeartbeats 4000000 in
theorem c_X5_feed {K : Cx} {L : Nat} {x n : Int32} {m : TM} (hL : m.1 49 6 = nI L) (hL2 : L ≤ 120) : CT yX5_feed cX5_feed 4 (some .int) 1 22 K [.ref 49, .int x, .int n] (m) (some (.int ((if (outI n 1 4) = true then -1000001 else (if nI L + n ≤ 120 then nI (L + cl n) else -1000002))))) ((if (outI n 1 4) = true then fnm m 0 else (if nI L + n ≤ 120 then fdM x (cl n) L m else fnm m 1))) := by
  refine ct_ofd (n := 1) (by decide +kernel) rfl rfl ?_
  show XX RX5 cX5_feed 4 (some .int) 1 22 K 0 [some (.ref 49), some (.int x), some (.int n), none] [] (m) (fun r1 m1 => r1 = (some (.int ((if (outI n 1 4) = true then -1000001 else (if nI L + n ≤ 120 then nI (L + cl n) else -1000002))))) ∧ m1 = (if (outI n 1 4) = true then fnm m 0 else (if nI L + n ≤ 120 then fdM x (cl n) L m else fnm m 1)))
  refine x_iload_n (q := 1) dX5_feed_0 rfl rfl ?_
  refine x_iconst (q := 2) (v := 1) dX5_feed_1 rfl (by decide) ?_
  refine x_iconst (q := 3) (v := 4) dX5_feed_2 rfl (by decide) ?_
  refine x_callS3v (q := 6) dX5_feed_3 rfl ml_X5_48 ms_X5_in1 c_X5_in1 (Nat.le_of_ble_eq_true rfl) ⟨by decide, by decide⟩ ?_
  refine x_ifB_ne (q := 9) (t := 15) dX5_feed_6 rfl (by decide) (fun h6 => ?_) (fun h6 => ?_)
  · replace h6 := in_t h6
    refine x_aload_n (q := 16) dX5_feed_15 rfl rfl ?_
    refine x_getI (q := 19) dX5_feed_16 rfl fl_X5_177 (ob5_taped) ?_
    rw [hL]
    refine x_iload_n (q := 20) dX5_feed_19 rfl rfl ?_
    refine x_iadd (q := 21) dX5_feed_20 rfl ?_
    refine x_bipush (q := 23) (v := 120) dX5_feed_21 rfl (by decide) ?_
    refine x_icmp_le (q := 26) (t := 32) dX5_feed_23 rfl (by decide) (fun h23 => ?_) (fun h23 => ?_)
    · refine x_iload_n (q := 33) dX5_feed_32 rfl rfl ?_
      refine x_iconst (q := 34) (v := 1) dX5_feed_33 rfl (by decide) ?_
      refine x_isub (q := 35) dX5_feed_34 rfl ?_
      refine x_istore_n (q := 36) dX5_feed_35 rfl (by decide) rfl rfl ?_
      obtain ⟨j, hj, rfl⟩ := fd_n h6
      have ej : cl (nI j) = j := jnI_clamp (by omega)
      simp only [h6, Bool.false_eq_true, if_false]
      rw [if_pos h23, if_pos h23, ej]
      exact l_X5_feed j.succ j L m (by omega) hj (fd_s hL2 hj h23) hL
    refine x_aload_n (q := 27) dX5_feed_26 rfl rfl ?_
    refine x_iconst (q := 28) (v := 1) dX5_feed_27 rfl (by decide) ?_
    refine x_callV1v (q := 31) dX5_feed_28 rfl ml_X5_103 mv_X5_no rv5 rfl (c_X5_nox (w := 1) (x := -1000002) (by decide) (by decide)) (Nat.le_of_ble_eq_true rfl) ⟨by decide, by decide⟩ ?_
    refine x_ireturn dX5_feed_31 rfl rfl ?_
    exact ⟨by simp only [h6, Bool.false_eq_true, if_false]; rw [if_neg h23], by simp only [h6, Bool.false_eq_true, if_false]; rw [if_neg h23]⟩
  replace h6 := in_f h6
  refine x_aload_n (q := 10) dX5_feed_9 rfl rfl ?_
  refine x_iconst (q := 11) (v := 0) dX5_feed_10 rfl (by decide) ?_
  refine x_callV1v (q := 14) dX5_feed_11 rfl ml_X5_103 mv_X5_no rv5 rfl (c_X5_nox (w := 0) (x := -1000001) (by decide) (by decide)) (Nat.le_of_ble_eq_true rfl) ⟨by decide, by decide⟩ ?_
  refine x_ireturn dX5_feed_14 rfl rfl ?_
  exact ⟨by simp [h6], by simp [h6]⟩
