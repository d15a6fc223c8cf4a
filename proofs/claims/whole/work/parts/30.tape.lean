/-! the tape of the class: bytes and tokens -/
def sob (b : Int32) : Int32 := if b < 97 ∨ 122 < b then (if b < 48 ∨ 57 < b then (if b = 59 then 3 else 4) else 2) else 1
def soF (L : Nat) (w : Nat → Int32) (j : Nat) : Int32 := if j < L then sob (w j) else 0
theorem dX3_sortAt_0 : decode cX3_sortAt 0 = .ok (.iload_n 1, 1) := by decide +kernel
theorem dX3_sortAt_1 : decode cX3_sortAt 1 = .ok (.aload_n 0, 1) := by decide +kernel
theorem dX3_sortAt_2 : decode cX3_sortAt 2 = .ok (.getfield 15, 3) := by decide +kernel
theorem dX3_sortAt_5 : decode cX3_sortAt 5 = .ok (.if_icmp .ge 12, 3) := by decide +kernel
theorem dX3_sortAt_8 : decode cX3_sortAt 8 = .ok (.iload_n 1, 1) := by decide +kernel
theorem dX3_sortAt_9 : decode cX3_sortAt 9 = .ok (.aload_n 0, 1) := by decide +kernel
theorem dX3_sortAt_10 : decode cX3_sortAt 10 = .ok (.getfield 9, 3) := by decide +kernel
theorem dX3_sortAt_13 : decode cX3_sortAt 13 = .ok (.arraylength, 1) := by decide +kernel
theorem dX3_sortAt_14 : decode cX3_sortAt 14 = .ok (.if_icmp .lt 5, 3) := by decide +kernel
theorem dX3_sortAt_17 : decode cX3_sortAt 17 = .ok (.iconst 0, 1) := by decide +kernel
theorem dX3_sortAt_18 : decode cX3_sortAt 18 = .ok (.ireturn, 1) := by decide +kernel
theorem dX3_sortAt_19 : decode cX3_sortAt 19 = .ok (.aload_n 0, 1) := by decide +kernel
theorem dX3_sortAt_20 : decode cX3_sortAt 20 = .ok (.getfield 9, 3) := by decide +kernel
theorem dX3_sortAt_23 : decode cX3_sortAt 23 = .ok (.iload_n 1, 1) := by decide +kernel
theorem dX3_sortAt_24 : decode cX3_sortAt 24 = .ok (.baload, 1) := by decide +kernel
theorem dX3_sortAt_25 : decode cX3_sortAt 25 = .ok (.istore_n 2, 1) := by decide +kernel
theorem dX3_sortAt_26 : decode cX3_sortAt 26 = .ok (.iload_n 2, 1) := by decide +kernel
theorem dX3_sortAt_27 : decode cX3_sortAt 27 = .ok (.bipush 97, 2) := by decide +kernel
theorem dX3_sortAt_29 : decode cX3_sortAt 29 = .ok (.if_icmp .lt 11, 3) := by decide +kernel
theorem dX3_sortAt_32 : decode cX3_sortAt 32 = .ok (.iload_n 2, 1) := by decide +kernel
theorem dX3_sortAt_33 : decode cX3_sortAt 33 = .ok (.bipush 122, 2) := by decide +kernel
theorem dX3_sortAt_35 : decode cX3_sortAt 35 = .ok (.if_icmp .gt 5, 3) := by decide +kernel
theorem dX3_sortAt_38 : decode cX3_sortAt 38 = .ok (.iconst 1, 1) := by decide +kernel
theorem dX3_sortAt_39 : decode cX3_sortAt 39 = .ok (.ireturn, 1) := by decide +kernel
theorem dX3_sortAt_40 : decode cX3_sortAt 40 = .ok (.iload_n 2, 1) := by decide +kernel
theorem dX3_sortAt_41 : decode cX3_sortAt 41 = .ok (.bipush 48, 2) := by decide +kernel
theorem dX3_sortAt_43 : decode cX3_sortAt 43 = .ok (.if_icmp .lt 11, 3) := by decide +kernel
theorem dX3_sortAt_46 : decode cX3_sortAt 46 = .ok (.iload_n 2, 1) := by decide +kernel
theorem dX3_sortAt_47 : decode cX3_sortAt 47 = .ok (.bipush 57, 2) := by decide +kernel
theorem dX3_sortAt_49 : decode cX3_sortAt 49 = .ok (.if_icmp .gt 5, 3) := by decide +kernel
theorem dX3_sortAt_52 : decode cX3_sortAt 52 = .ok (.iconst 2, 1) := by decide +kernel
theorem dX3_sortAt_53 : decode cX3_sortAt 53 = .ok (.ireturn, 1) := by decide +kernel
theorem dX3_sortAt_54 : decode cX3_sortAt 54 = .ok (.iload_n 2, 1) := by decide +kernel
theorem dX3_sortAt_55 : decode cX3_sortAt 55 = .ok (.bipush 59, 2) := by decide +kernel
theorem dX3_sortAt_57 : decode cX3_sortAt 57 = .ok (.if_icmp .ne 7, 3) := by decide +kernel
theorem dX3_sortAt_60 : decode cX3_sortAt 60 = .ok (.iconst 3, 1) := by decide +kernel
theorem dX3_sortAt_61 : decode cX3_sortAt 61 = .ok (.goto 4, 3) := by decide +kernel
theorem dX3_sortAt_64 : decode cX3_sortAt 64 = .ok (.iconst 4, 1) := by decide +kernel
theorem dX3_sortAt_65 : decode cX3_sortAt 65 = .ok (.ireturn, 1) := by decide +kernel
set_option maxRecDepth 20000 in
set_option maxHeartbeats 4000000 in
theorem c_X3_sortAt {K : Cx} {L j : Nat} {m : TM} (hL : m.1 37 1 = nI L) (hL2 : L ≤ 120) (hj : j ≤ 1000) : CT yX3_sortAt cX3_sortAt 3 (some .int) 0 0 K [.ref 37, .int (nI j)] (m) (some (.int (soF L (m.1 38) j))) (m) := by
  refine ct_ofd (n := 1) (by decide +kernel) rfl rfl ?_
  show XX RX3 cX3_sortAt 3 (some .int) 0 0 K 0 [some (.ref 37), some (.int (nI j)), none] [] (m) (fun r1 m1 => r1 = (some (.int (soF L (m.1 38) j))) ∧ m1 = m)
  refine x_iload_n (q := 1) dX3_sortAt_0 rfl rfl ?_
  refine x_aload_n (q := 2) dX3_sortAt_1 rfl rfl ?_
  refine x_getI (q := 5) dX3_sortAt_2 rfl fl_X3_15 (ob3_length) ?_
  refine x_icmp_ge (q := 8) (t := 17) dX3_sortAt_5 rfl (by decide) (fun h5 => ?_) (fun h5 => ?_)
  · refine x_iconst (q := 18) (v := 0) dX3_sortAt_17 rfl (by decide) ?_
    refine x_ireturn dX3_sortAt_18 rfl rfl ?_
    have e : ¬ j < L := by
      have := lp_stop hL (by omega) (by omega) h5
      omega
    exact ⟨by unfold soF; rw [if_neg e], rfl⟩
  refine x_iload_n (q := 9) dX3_sortAt_8 rfl rfl ?_
  refine x_aload_n (q := 10) dX3_sortAt_9 rfl rfl ?_
  refine x_getR (q := 13) dX3_sortAt_10 rfl fl_X3_9 (or3_bytes) ?_
  refine x_alen (q := 14) (v := 120) dX3_sortAt_13 rfl (ra_38) (by decide) (by decide) ?_
  refine x_icmp_lt (q := 17) (t := 19) dX3_sortAt_14 rfl (by decide) (fun h14 => ?_) (fun h14 => ?_)
  · have hj2 : j < L := lp_go hL (by omega) (by omega) h5
    refine x_aload_n (q := 20) dX3_sortAt_19 rfl rfl ?_
    refine x_getR (q := 23) dX3_sortAt_20 rfl fl_X3_9 (or3_bytes) ?_
    refine x_iload_n (q := 24) dX3_sortAt_23 rfl rfl ?_
    refine x_bald (q := 25) dX3_sortAt_24 rfl (ar_38) (ix_nI (n := 120) (k := j) (by omega) (by decide)) (Nat.zero_add _) ?_
    refine x_istore_n (q := 26) dX3_sortAt_25 rfl (by decide) rfl rfl ?_
    refine x_iload_n (q := 27) dX3_sortAt_26 rfl rfl ?_
    refine x_bipush (q := 29) (v := 97) dX3_sortAt_27 rfl (by decide) ?_
    refine x_icmp_lt (q := 32) (t := 40) dX3_sortAt_29 rfl (by decide) (fun h29 => ?_) (fun h29 => ?_)
    · refine x_iload_n (q := 41) dX3_sortAt_40 rfl rfl ?_
      refine x_bipush (q := 43) (v := 48) dX3_sortAt_41 rfl (by decide) ?_
      refine x_icmp_lt (q := 46) (t := 54) dX3_sortAt_43 rfl (by decide) (fun h43 => ?_) (fun h43 => ?_)
      · refine x_iload_n (q := 55) dX3_sortAt_54 rfl rfl ?_
        refine x_bipush (q := 57) (v := 59) dX3_sortAt_55 rfl (by decide) ?_
        refine x_icmp_ne (q := 60) (t := 64) dX3_sortAt_57 rfl (by decide) (fun h57 => ?_) (fun h57 => ?_)
        · refine x_iconst (q := 65) (v := 4) dX3_sortAt_64 rfl (by decide) ?_
          refine x_ireturn dX3_sortAt_65 rfl rfl ?_
          exact ⟨by unfold soF sob; rw [if_pos hj2, if_pos (Or.inl h29), if_pos (Or.inl h43), if_neg h57], rfl⟩
        refine x_iconst (q := 61) (v := 3) dX3_sortAt_60 rfl (by decide) ?_
        refine x_goto (q := 65) dX3_sortAt_61 (by decide) ?_
        refine x_ireturn dX3_sortAt_65 rfl rfl ?_
        exact ⟨by unfold soF sob; rw [if_pos hj2, if_pos (Or.inl h29), if_pos (Or.inl h43), if_pos h57], rfl⟩
      refine x_iload_n (q := 47) dX3_sortAt_46 rfl rfl ?_
      refine x_bipush (q := 49) (v := 57) dX3_sortAt_47 rfl (by decide) ?_
      refine x_icmp_gt (q := 52) (t := 54) dX3_sortAt_49 rfl (by decide) (fun h49 => ?_) (fun h49 => ?_)
      · refine x_iload_n (q := 55) dX3_sortAt_54 rfl rfl ?_
        refine x_bipush (q := 57) (v := 59) dX3_sortAt_55 rfl (by decide) ?_
        refine x_icmp_ne (q := 60) (t := 64) dX3_sortAt_57 rfl (by decide) (fun h57 => ?_) (fun h57 => ?_)
        · refine x_iconst (q := 65) (v := 4) dX3_sortAt_64 rfl (by decide) ?_
          refine x_ireturn dX3_sortAt_65 rfl rfl ?_
          exact ⟨by unfold soF sob; rw [if_pos hj2, if_pos (Or.inl h29), if_pos (Or.inr h49), if_neg h57], rfl⟩
        refine x_iconst (q := 61) (v := 3) dX3_sortAt_60 rfl (by decide) ?_
        refine x_goto (q := 65) dX3_sortAt_61 (by decide) ?_
        refine x_ireturn dX3_sortAt_65 rfl rfl ?_
        exact ⟨by unfold soF sob; rw [if_pos hj2, if_pos (Or.inl h29), if_pos (Or.inr h49), if_pos h57], rfl⟩
      refine x_iconst (q := 53) (v := 2) dX3_sortAt_52 rfl (by decide) ?_
      refine x_ireturn dX3_sortAt_53 rfl rfl ?_
      exact ⟨by unfold soF sob; rw [if_pos hj2, if_pos (Or.inl h29), if_neg (fun q => q.elim h43 h49)], rfl⟩
    refine x_iload_n (q := 33) dX3_sortAt_32 rfl rfl ?_
    refine x_bipush (q := 35) (v := 122) dX3_sortAt_33 rfl (by decide) ?_
    refine x_icmp_gt (q := 38) (t := 40) dX3_sortAt_35 rfl (by decide) (fun h35 => ?_) (fun h35 => ?_)
    · refine x_iload_n (q := 41) dX3_sortAt_40 rfl rfl ?_
      refine x_bipush (q := 43) (v := 48) dX3_sortAt_41 rfl (by decide) ?_
      refine x_icmp_lt (q := 46) (t := 54) dX3_sortAt_43 rfl (by decide) (fun h43 => ?_) (fun h43 => ?_)
      · refine x_iload_n (q := 55) dX3_sortAt_54 rfl rfl ?_
        refine x_bipush (q := 57) (v := 59) dX3_sortAt_55 rfl (by decide) ?_
        refine x_icmp_ne (q := 60) (t := 64) dX3_sortAt_57 rfl (by decide) (fun h57 => ?_) (fun h57 => ?_)
        · refine x_iconst (q := 65) (v := 4) dX3_sortAt_64 rfl (by decide) ?_
          refine x_ireturn dX3_sortAt_65 rfl rfl ?_
          exact ⟨by unfold soF sob; rw [if_pos hj2, if_pos (Or.inr h35), if_pos (Or.inl h43), if_neg h57], rfl⟩
        refine x_iconst (q := 61) (v := 3) dX3_sortAt_60 rfl (by decide) ?_
        refine x_goto (q := 65) dX3_sortAt_61 (by decide) ?_
        refine x_ireturn dX3_sortAt_65 rfl rfl ?_
        exact ⟨by unfold soF sob; rw [if_pos hj2, if_pos (Or.inr h35), if_pos (Or.inl h43), if_pos h57], rfl⟩
      refine x_iload_n (q := 47) dX3_sortAt_46 rfl rfl ?_
      refine x_bipush (q := 49) (v := 57) dX3_sortAt_47 rfl (by decide) ?_
      refine x_icmp_gt (q := 52) (t := 54) dX3_sortAt_49 rfl (by decide) (fun h49 => ?_) (fun h49 => ?_)
      · refine x_iload_n (q := 55) dX3_sortAt_54 rfl rfl ?_
        refine x_bipush (q := 57) (v := 59) dX3_sortAt_55 rfl (by decide) ?_
        refine x_icmp_ne (q := 60) (t := 64) dX3_sortAt_57 rfl (by decide) (fun h57 => ?_) (fun h57 => ?_)
        · refine x_iconst (q := 65) (v := 4) dX3_sortAt_64 rfl (by decide) ?_
          refine x_ireturn dX3_sortAt_65 rfl rfl ?_
          exact ⟨by unfold soF sob; rw [if_pos hj2, if_pos (Or.inr h35), if_pos (Or.inr h49), if_neg h57], rfl⟩
        refine x_iconst (q := 61) (v := 3) dX3_sortAt_60 rfl (by decide) ?_
        refine x_goto (q := 65) dX3_sortAt_61 (by decide) ?_
        refine x_ireturn dX3_sortAt_65 rfl rfl ?_
        exact ⟨by unfold soF sob; rw [if_pos hj2, if_pos (Or.inr h35), if_pos (Or.inr h49), if_pos h57], rfl⟩
      refine x_iconst (q := 53) (v := 2) dX3_sortAt_52 rfl (by decide) ?_
      refine x_ireturn dX3_sortAt_53 rfl rfl ?_
      exact ⟨by unfold soF sob; rw [if_pos hj2, if_pos (Or.inr h35), if_neg (fun q => q.elim h43 h49)], rfl⟩
    refine x_iconst (q := 39) (v := 1) dX3_sortAt_38 rfl (by decide) ?_
    refine x_ireturn dX3_sortAt_39 rfl rfl ?_
    exact ⟨by unfold soF sob; rw [if_pos hj2, if_neg (fun q => q.elim h29 h35)], rfl⟩
  refine x_iconst (q := 18) (v := 0) dX3_sortAt_17 rfl (by decide) ?_
  refine x_ireturn dX3_sortAt_18 rfl rfl ?_
  exact absurd (lp_go (n := L) (j := j) hL (by omega) (by omega) h5) (fun q => h14 ((jnI_lt (a := j) (b := 120) (by omega) (by decide)).mpr (by omega)))
theorem dX3_isNumber_0 : decode cX3_isNumber 0 = .ok (.aload_n 0, 1) := by decide +kernel
theorem dX3_isNumber_1 : decode cX3_isNumber 1 = .ok (.getfield 19, 3) := by decide +kernel
theorem dX3_isNumber_4 : decode cX3_isNumber 4 = .ok (.iconst 2, 1) := by decide +kernel
theorem dX3_isNumber_5 : decode cX3_isNumber 5 = .ok (.if_icmp .ne 23, 3) := by decide +kernel
theorem dX3_isNumber_8 : decode cX3_isNumber 8 = .ok (.aload_n 0, 1) := by decide +kernel
theorem dX3_isNumber_9 : decode cX3_isNumber 9 = .ok (.getfield 28, 3) := by decide +kernel
theorem dX3_isNumber_12 : decode cX3_isNumber 12 = .ok (.iload_n 1, 1) := by decide +kernel
theorem dX3_isNumber_13 : decode cX3_isNumber 13 = .ok (.if_icmp .lt 15, 3) := by decide +kernel
theorem dX3_isNumber_16 : decode cX3_isNumber 16 = .ok (.aload_n 0, 1) := by decide +kernel
theorem dX3_isNumber_17 : decode cX3_isNumber 17 = .ok (.getfield 28, 3) := by decide +kernel
theorem dX3_isNumber_20 : decode cX3_isNumber 20 = .ok (.iload_n 2, 1) := by decide +kernel
theorem dX3_isNumber_21 : decode cX3_isNumber 21 = .ok (.if_icmp .gt 7, 3) := by decide +kernel
theorem dX3_isNumber_24 : decode cX3_isNumber 24 = .ok (.iconst 1, 1) := by decide +kernel
theorem dX3_isNumber_25 : decode cX3_isNumber 25 = .ok (.goto 4, 3) := by decide +kernel
theorem dX3_isNumber_28 : decode cX3_isNumber 28 = .ok (.iconst 0, 1) := by decide +kernel
theorem dX3_isNumber_29 : decode cX3_isNumber 29 = .ok (.ireturn, 1) := by decide +kernel
set_option maxRecDepth 20000 in
set_option maxHeartbeats 4000000 in
theorem c_X3_isNumber {K : Cx} {a b : Int32} {m : TM} : CT yX3_isNumber cX3_isNumber 3 (some .boolean) 0 0 K [.ref 37, .int a, .int b] (m) (some (.int (bI (decide (m.1 37 2 = 2) && !decide (m.1 37 5 < a) && !decide (b < m.1 37 5))))) (m) := by
  refine ct_ofd (n := 0) (by decide +kernel) rfl rfl ?_
  show XX RX3 cX3_isNumber 3 (some .boolean) 0 0 K 0 [some (.ref 37), some (.int a), some (.int b)] [] (m) (fun r1 m1 => r1 = (some (.int (bI (decide (m.1 37 2 = 2) && !decide (m.1 37 5 < a) && !decide (b < m.1 37 5))))) ∧ m1 = m)
  refine x_aload_n (q := 1) dX3_isNumber_0 rfl rfl ?_
  refine x_getI (q := 4) dX3_isNumber_1 rfl fl_X3_19 (ob3_sort) ?_
  refine x_iconst (q := 5) (v := 2) dX3_isNumber_4 rfl (by decide) ?_
  refine x_icmp_ne (q := 8) (t := 28) dX3_isNumber_5 rfl (by decide) (fun h5 => ?_) (fun h5 => ?_)
  · refine x_iconst (q := 29) (v := 0) dX3_isNumber_28 rfl (by decide) ?_
    refine x_ireturn dX3_isNumber_29 rfl (by decide) ?_
    exact ⟨by simp [bI, h5], rfl⟩
  refine x_aload_n (q := 9) dX3_isNumber_8 rfl rfl ?_
  refine x_getI (q := 12) dX3_isNumber_9 rfl fl_X3_28 (ob3_value) ?_
  refine x_iload_n (q := 13) dX3_isNumber_12 rfl rfl ?_
  refine x_icmp_lt (q := 16) (t := 28) dX3_isNumber_13 rfl (by decide) (fun h13 => ?_) (fun h13 => ?_)
  · refine x_iconst (q := 29) (v := 0) dX3_isNumber_28 rfl (by decide) ?_
    refine x_ireturn dX3_isNumber_29 rfl (by decide) ?_
    exact ⟨by simp [bI, h5, h13], rfl⟩
  refine x_aload_n (q := 17) dX3_isNumber_16 rfl rfl ?_
  refine x_getI (q := 20) dX3_isNumber_17 rfl fl_X3_28 (ob3_value) ?_
  refine x_iload_n (q := 21) dX3_isNumber_20 rfl rfl ?_
  refine x_icmp_gt (q := 24) (t := 28) dX3_isNumber_21 rfl (by decide) (fun h21 => ?_) (fun h21 => ?_)
  · refine x_iconst (q := 29) (v := 0) dX3_isNumber_28 rfl (by decide) ?_
    refine x_ireturn dX3_isNumber_29 rfl (by decide) ?_
    exact ⟨by rw [decide_eq_true h5, decide_eq_false h13, decide_eq_true h21]; rfl, rfl⟩
  refine x_iconst (q := 25) (v := 1) dX3_isNumber_24 rfl (by decide) ?_
  refine x_goto (q := 29) dX3_isNumber_25 (by decide) ?_
  refine x_ireturn dX3_isNumber_29 rfl (by decide) ?_
  exact ⟨by rw [decide_eq_true h5, decide_eq_false h13, decide_eq_false h21]; rfl, rfl⟩
theorem dX3_wordOf_0 : decode cX3_wordOf 0 = .ok (.iload_n 0, 1) := by decide +kernel
theorem dX3_wordOf_1 : decode cX3_wordOf 1 = .ok (.tableswitch 57 1 6 #[39, 42, 45, 48, 51, 54], 39) := by decide +kernel
theorem dX3_wordOf_40 : decode cX3_wordOf 40 = .ok (.ldc 103, 2) := by decide +kernel
theorem dX3_wordOf_42 : decode cX3_wordOf 42 = .ok (.areturn, 1) := by decide +kernel
theorem dX3_wordOf_43 : decode cX3_wordOf 43 = .ok (.ldc 105, 2) := by decide +kernel
theorem dX3_wordOf_45 : decode cX3_wordOf 45 = .ok (.areturn, 1) := by decide +kernel
theorem dX3_wordOf_46 : decode cX3_wordOf 46 = .ok (.ldc 107, 2) := by decide +kernel
theorem dX3_wordOf_48 : decode cX3_wordOf 48 = .ok (.areturn, 1) := by decide +kernel
theorem dX3_wordOf_49 : decode cX3_wordOf 49 = .ok (.ldc 109, 2) := by decide +kernel
theorem dX3_wordOf_51 : decode cX3_wordOf 51 = .ok (.areturn, 1) := by decide +kernel
theorem dX3_wordOf_52 : decode cX3_wordOf 52 = .ok (.ldc 111, 2) := by decide +kernel
theorem dX3_wordOf_54 : decode cX3_wordOf 54 = .ok (.areturn, 1) := by decide +kernel
theorem dX3_wordOf_55 : decode cX3_wordOf 55 = .ok (.ldc 113, 2) := by decide +kernel
theorem dX3_wordOf_57 : decode cX3_wordOf 57 = .ok (.areturn, 1) := by decide +kernel
theorem dX3_wordOf_58 : decode cX3_wordOf 58 = .ok (.ldc 115, 2) := by decide +kernel
theorem dX3_wordOf_60 : decode cX3_wordOf 60 = .ok (.areturn, 1) := by decide +kernel
def wdN (c : Int32) : Nat := if c = 1 then 2 else if c = 2 then 3 else if c = 3 then 4 else if c = 4 then 5 else if c = 5 then 6 else if c = 6 then 7 else 8
set_option maxRecDepth 20000 in
set_option maxHeartbeats 4000000 in
theorem c_X3_wordOf {K : Cx} {x : Int32} {m : TM} : CT yX3_wordOf cX3_wordOf 1 (some (.object "java/lang/String")) 0 0 K [.int x] (m) (some (.ref (100 + wdN x))) (m) := by
  refine ct_ofd (n := 0) (by decide +kernel) rfl rfl ?_
  show XX RX3 cX3_wordOf 1 (some (.object "java/lang/String")) 0 0 K 0 [some (.int x)] [] (m) (fun r1 m1 => r1 = (some (.ref (100 + wdN x))) ∧ m1 = m)
  refine x_iload_n (q := 1) dX3_wordOf_0 rfl rfl ?_
  by_cases h1_1 : x = 1
  · refine x_tswC (q := 40) (k := 1) dX3_wordOf_1 h1_1 (by decide) (by decide) rfl (by decide) ?_
    refine x_ldcS (q := 42) (k := 2) dX3_wordOf_40 rfl (by decide) rfl rfl ?_
    refine x_areturn dX3_wordOf_42 rfl (Or.inr ⟨_, rfl⟩) ?_
    exact ⟨by simp [wdN, h1_1], rfl⟩
  by_cases h1_2 : x = 2
  · refine x_tswC (q := 43) (k := 2) dX3_wordOf_1 h1_2 (by decide) (by decide) rfl (by decide) ?_
    refine x_ldcS (q := 45) (k := 3) dX3_wordOf_43 rfl (by decide) rfl rfl ?_
    refine x_areturn dX3_wordOf_45 rfl (Or.inr ⟨_, rfl⟩) ?_
    exact ⟨by simp [wdN, h1_1, h1_2], rfl⟩
  by_cases h1_3 : x = 3
  · refine x_tswC (q := 46) (k := 3) dX3_wordOf_1 h1_3 (by decide) (by decide) rfl (by decide) ?_
    refine x_ldcS (q := 48) (k := 4) dX3_wordOf_46 rfl (by decide) rfl rfl ?_
    refine x_areturn dX3_wordOf_48 rfl (Or.inr ⟨_, rfl⟩) ?_
    exact ⟨by simp [wdN, h1_1, h1_2, h1_3], rfl⟩
  by_cases h1_4 : x = 4
  · refine x_tswC (q := 49) (k := 4) dX3_wordOf_1 h1_4 (by decide) (by decide) rfl (by decide) ?_
    refine x_ldcS (q := 51) (k := 5) dX3_wordOf_49 rfl (by decide) rfl rfl ?_
    refine x_areturn dX3_wordOf_51 rfl (Or.inr ⟨_, rfl⟩) ?_
    exact ⟨by simp [wdN, h1_1, h1_2, h1_3, h1_4], rfl⟩
  by_cases h1_5 : x = 5
  · refine x_tswC (q := 52) (k := 5) dX3_wordOf_1 h1_5 (by decide) (by decide) rfl (by decide) ?_
    refine x_ldcS (q := 54) (k := 6) dX3_wordOf_52 rfl (by decide) rfl rfl ?_
    refine x_areturn dX3_wordOf_54 rfl (Or.inr ⟨_, rfl⟩) ?_
    exact ⟨by simp [wdN, h1_1, h1_2, h1_3, h1_4, h1_5], rfl⟩
  by_cases h1_6 : x = 6
  · refine x_tswC (q := 55) (k := 6) dX3_wordOf_1 h1_6 (by decide) (by decide) rfl (by decide) ?_
    refine x_ldcS (q := 57) (k := 7) dX3_wordOf_55 rfl (by decide) rfl rfl ?_
    refine x_areturn dX3_wordOf_57 rfl (Or.inr ⟨_, rfl⟩) ?_
    exact ⟨by simp [wdN, h1_1, h1_2, h1_3, h1_4, h1_5, h1_6], rfl⟩
  refine x_tswD (q := 58) dX3_wordOf_1 (by have n1 := lv_neT h1_1 (a := 1) (by decide); have n2 := lv_neT h1_2 (a := 2) (by decide); have n3 := lv_neT h1_3 (a := 3) (by decide); have n4 := lv_neT h1_4 (a := 4) (by decide); have n5 := lv_neT h1_5 (a := 5) (by decide); have n6 := lv_neT h1_6 (a := 6) (by decide); omega) (by decide) ?_
  refine x_ldcS (q := 60) (k := 8) dX3_wordOf_58 rfl (by decide) rfl rfl ?_
  refine x_areturn dX3_wordOf_60 rfl (Or.inr ⟨_, rfl⟩) ?_
  exact ⟨by simp [wdN, h1_1, h1_2, h1_3, h1_4, h1_5, h1_6], rfl⟩
