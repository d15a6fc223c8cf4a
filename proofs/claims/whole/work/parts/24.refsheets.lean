/-! sheets, of the reference -/
theorem cel_ix (s j : Nat) : (40 : Int32) * nI s + nI j = nI (40 * s + j) := by rw [show (40 : Int32) = nI 40 from rfl, jnI_mul, nI_add]
theorem ix_cel {s j : Nat} (hs : s < 4) (hj : j < 40) : IX ((40 : Int32) * nI s + nI j) (40 * s + j) 160 := by
  rw [cel_ix]
  exact ix_nI (by omega) (by decide)
theorem dX5_told_0 : decode cX5_told 0 = .ok (.aload_n 0, 1) := by decide +kernel
theorem dX5_told_1 : decode cX5_told 1 = .ok (.getfield 41, 3) := by decide +kernel
theorem dX5_told_4 : decode cX5_told 4 = .ok (.bipush 40, 2) := by decide +kernel
theorem dX5_told_6 : decode cX5_told 6 = .ok (.iload_n 1, 1) := by decide +kernel
theorem dX5_told_7 : decode cX5_told 7 = .ok (.imul, 1) := by decide +kernel
theorem dX5_told_8 : decode cX5_told 8 = .ok (.iload_n 2, 1) := by decide +kernel
theorem dX5_told_9 : decode cX5_told 9 = .ok (.iadd, 1) := by decide +kernel
theorem dX5_told_10 : decode cX5_told 10 = .ok (.iaload, 1) := by decide +kernel
theorem dX5_told_11 : decode cX5_told 11 = .ok (.ireturn, 1) := by decide +kernel
set_option maxRecDepth 20000 in
set_option maxHeartbeats 4000000 in
theorem c_X5_told {K : Cx} {s j : Nat} {m : TM} (hs : s < 4) (hj : j < 40) : CT yX5_told cX5_told 3 (some .int) 0 0 K [.ref 49, .int (nI s), .int (nI j)] (m) (some (.int (m.1 60 (40 * s + j)))) (m) := by
  refine ct_ofd (n := 0) (by decide +kernel) rfl rfl ?_
  show XX RX5 cX5_told 3 (some .int) 0 0 K 0 [some (.ref 49), some (.int (nI s)), some (.int (nI j))] [] (m) (fun r1 m1 => r1 = (some (.int (m.1 60 (40 * s + j)))) ∧ m1 = m)
  refine x_aload_n (q := 1) dX5_told_0 rfl rfl ?_
  refine x_getR (q := 4) dX5_told_1 rfl fl_X5_41 (or5_cells) ?_
  refine x_bipush (q := 6) (v := 40) dX5_told_4 rfl (by decide) ?_
  refine x_iload_n (q := 7) dX5_told_6 rfl rfl ?_
  refine x_imul (q := 8) dX5_told_7 rfl ?_
  refine x_iload_n (q := 9) dX5_told_8 rfl rfl ?_
  refine x_iadd (q := 10) dX5_told_9 rfl ?_
  refine x_iald (q := 11) dX5_told_10 rfl (ar_60) (ix_cel hs hj) (Nat.zero_add _) ?_
  refine x_ireturn dX5_told_11 rfl rfl ?_
  exact ⟨rfl, rfl⟩
theorem dX5_wrongSheet_0 : decode cX5_wrongSheet 0 = .ok (.iload_n 1, 1) := by decide +kernel
theorem dX5_wrongSheet_1 : decode cX5_wrongSheet 1 = .ok (.invokestatic 155, 3) := by decide +kernel
theorem dX5_wrongSheet_4 : decode cX5_wrongSheet 4 = .ok (.ifCond .ne 7, 3) := by decide +kernel
theorem dX5_wrongSheet_7 : decode cX5_wrongSheet 7 = .ok (.iconst 0, 1) := by decide +kernel
theorem dX5_wrongSheet_8 : decode cX5_wrongSheet 8 = .ok (.goto 17, 3) := by decide +kernel
theorem dX5_wrongSheet_11 : decode cX5_wrongSheet 11 = .ok (.aload_n 0, 1) := by decide +kernel
theorem dX5_wrongSheet_12 : decode cX5_wrongSheet 12 = .ok (.getfield 35, 3) := by decide +kernel
theorem dX5_wrongSheet_15 : decode cX5_wrongSheet 15 = .ok (.iload_n 1, 1) := by decide +kernel
theorem dX5_wrongSheet_16 : decode cX5_wrongSheet 16 = .ok (.iaload, 1) := by decide +kernel
theorem dX5_wrongSheet_17 : decode cX5_wrongSheet 17 = .ok (.ifCond .ne 7, 3) := by decide +kernel
theorem dX5_wrongSheet_20 : decode cX5_wrongSheet 20 = .ok (.iconst 5, 1) := by decide +kernel
theorem dX5_wrongSheet_21 : decode cX5_wrongSheet 21 = .ok (.goto 4, 3) := by decide +kernel
theorem dX5_wrongSheet_24 : decode cX5_wrongSheet 24 = .ok (.iconst (-1), 1) := by decide +kernel
theorem dX5_wrongSheet_25 : decode cX5_wrongSheet 25 = .ok (.ireturn, 1) := by decide +kernel
set_option maxRecDepth 20000 in
set_option maxHeartbeats 4000000 in
theorem c_X5_wsA {K : Cx} {x : Int32} {m : TM} (hb : outI x 0 3 = true) : CT yX5_wrongSheet cX5_wrongSheet 2 (some .int) 2 42 K [.ref 49, .int x] (m) (some (.int (0))) (m) := by
  refine ct_ofd (n := 0) (by decide +kernel) rfl rfl ?_
  show XX RX5 cX5_wrongSheet 2 (some .int) 2 42 K 0 [some (.ref 49), some (.int x)] [] (m) (fun r1 m1 => r1 = (some (.int (0))) ∧ m1 = m)
  refine x_iload_n (q := 1) dX5_wrongSheet_0 rfl rfl ?_
  refine x_callS1v (q := 4) dX5_wrongSheet_1 rfl ml_X5_155 ms_X5_isSheet c_X5_isSheet (Nat.le_of_ble_eq_true rfl) ⟨by decide, by decide⟩ ?_
  refine x_ifB_ne (q := 7) (t := 11) dX5_wrongSheet_4 rfl (by decide) (fun h4 => ?_) (fun h4 => ?_)
  · replace h4 := in_t h4
    exact absurd hb (by rw [h4]; decide)
  replace h4 := in_f h4
  refine x_iconst (q := 8) (v := 0) dX5_wrongSheet_7 rfl (by decide) ?_
  refine x_goto (q := 25) dX5_wrongSheet_8 (by decide) ?_
  refine x_ireturn dX5_wrongSheet_25 rfl rfl ?_
  exact ⟨rfl, rfl⟩
set_option maxRecDepth 20000 in
set_option maxHeartbeats 4000000 in
theorem c_X5_wsB {K : Cx} {s : Nat} {m : TM} (hs : s < 4) (hb : m.1 58 s = 0) : CT yX5_wrongSheet cX5_wrongSheet 2 (some .int) 2 42 K [.ref 49, .int (nI s)] (m) (some (.int (5))) (m) := by
  refine ct_ofd (n := 0) (by decide +kernel) rfl rfl ?_
  show XX RX5 cX5_wrongSheet 2 (some .int) 2 42 K 0 [some (.ref 49), some (.int (nI s))] [] (m) (fun r1 m1 => r1 = (some (.int (5))) ∧ m1 = m)
  refine x_iload_n (q := 1) dX5_wrongSheet_0 rfl rfl ?_
  refine x_callS1v (q := 4) dX5_wrongSheet_1 rfl ml_X5_155 ms_X5_isSheet c_X5_isSheet (Nat.le_of_ble_eq_true rfl) ⟨by decide, by decide⟩ ?_
  refine x_ifB_ne (q := 7) (t := 11) dX5_wrongSheet_4 rfl (by decide) (fun h4 => ?_) (fun h4 => ?_)
  · replace h4 := in_t h4
    refine x_aload_n (q := 12) dX5_wrongSheet_11 rfl rfl ?_
    refine x_getR (q := 15) dX5_wrongSheet_12 rfl fl_X5_35 (or5_widths) ?_
    refine x_iload_n (q := 16) dX5_wrongSheet_15 rfl rfl ?_
    refine x_iald (q := 17) dX5_wrongSheet_16 rfl (ar_58) (ix_nI hs (by decide)) (Nat.zero_add _) ?_
    refine x_if_ne (q := 20) (t := 24) dX5_wrongSheet_17 rfl (by decide) (fun h17 => ?_) (fun h17 => ?_)
    · exact absurd hb h17
    refine x_iconst (q := 21) (v := 5) dX5_wrongSheet_20 rfl (by decide) ?_
    refine x_goto (q := 25) dX5_wrongSheet_21 (by decide) ?_
    refine x_ireturn dX5_wrongSheet_25 rfl rfl ?_
    exact ⟨rfl, rfl⟩
  replace h4 := in_f h4
  exact absurd (by show outI (nI s) 0 3 = false; exact rng_in (a := 0) (b := 3) (Nat.zero_le s) (by omega) (by decide)) (by rw [h4]; decide)
set_option maxRecDepth 20000 in
set_option maxHeartbeats 4000000 in
theorem c_X5_wsC {K : Cx} {s : Nat} {m : TM} (hs : s < 4) (hb : ¬ m.1 58 s = 0) : CT yX5_wrongSheet cX5_wrongSheet 2 (some .int) 2 42 K [.ref 49, .int (nI s)] (m) (some (.int (-1))) (m) := by
  refine ct_ofd (n := 0) (by decide +kernel) rfl rfl ?_
  show XX RX5 cX5_wrongSheet 2 (some .int) 2 42 K 0 [some (.ref 49), some (.int (nI s))] [] (m) (fun r1 m1 => r1 = (some (.int (-1))) ∧ m1 = m)
  refine x_iload_n (q := 1) dX5_wrongSheet_0 rfl rfl ?_
  refine x_callS1v (q := 4) dX5_wrongSheet_1 rfl ml_X5_155 ms_X5_isSheet c_X5_isSheet (Nat.le_of_ble_eq_true rfl) ⟨by decide, by decide⟩ ?_
  refine x_ifB_ne (q := 7) (t := 11) dX5_wrongSheet_4 rfl (by decide) (fun h4 => ?_) (fun h4 => ?_)
  · replace h4 := in_t h4
    refine x_aload_n (q := 12) dX5_wrongSheet_11 rfl rfl ?_
    refine x_getR (q := 15) dX5_wrongSheet_12 rfl fl_X5_35 (or5_widths) ?_
    refine x_iload_n (q := 16) dX5_wrongSheet_15 rfl rfl ?_
    refine x_iald (q := 17) dX5_wrongSheet_16 rfl (ar_58) (ix_nI hs (by decide)) (Nat.zero_add _) ?_
    refine x_if_ne (q := 20) (t := 24) dX5_wrongSheet_17 rfl (by decide) (fun h17 => ?_) (fun h17 => ?_)
    · refine x_iconst (q := 25) (v := (-1)) dX5_wrongSheet_24 rfl (by decide) ?_
      refine x_ireturn dX5_wrongSheet_25 rfl rfl ?_
      exact ⟨rfl, rfl⟩
    exact absurd h17 hb
  replace h4 := in_f h4
  exact absurd (by show outI (nI s) 0 3 = false; exact rng_in (a := 0) (b := 3) (Nat.zero_le s) (by omega) (by decide)) (by rw [h4]; decide)
theorem dX5_sheet_0 : decode cX5_sheet 0 = .ok (.iload_n 1, 1) := by decide +kernel
theorem dX5_sheet_1 : decode cX5_sheet 1 = .ok (.invokestatic 155, 3) := by decide +kernel
theorem dX5_sheet_4 : decode cX5_sheet 4 = .ok (.ifCond .eq 25, 3) := by decide +kernel
theorem dX5_sheet_7 : decode cX5_sheet 7 = .ok (.iload_n 2, 1) := by decide +kernel
theorem dX5_sheet_8 : decode cX5_sheet 8 = .ok (.ifCond .eq 27, 3) := by decide +kernel
theorem dX5_sheet_11 : decode cX5_sheet 11 = .ok (.iload_n 2, 1) := by decide +kernel
theorem dX5_sheet_12 : decode cX5_sheet 12 = .ok (.bipush 8, 2) := by decide +kernel
theorem dX5_sheet_14 : decode cX5_sheet 14 = .ok (.if_icmp .eq 21, 3) := by decide +kernel
theorem dX5_sheet_17 : decode cX5_sheet 17 = .ok (.iload_n 2, 1) := by decide +kernel
theorem dX5_sheet_18 : decode cX5_sheet 18 = .ok (.bipush 16, 2) := by decide +kernel
theorem dX5_sheet_20 : decode cX5_sheet 20 = .ok (.if_icmp .eq 15, 3) := by decide +kernel
theorem dX5_sheet_23 : decode cX5_sheet 23 = .ok (.iload_n 2, 1) := by decide +kernel
theorem dX5_sheet_24 : decode cX5_sheet 24 = .ok (.bipush 32, 2) := by decide +kernel
theorem dX5_sheet_26 : decode cX5_sheet 26 = .ok (.if_icmp .eq 9, 3) := by decide +kernel
theorem dX5_sheet_29 : decode cX5_sheet 29 = .ok (.aload_n 0, 1) := by decide +kernel
theorem dX5_sheet_30 : decode cX5_sheet 30 = .ok (.iconst 0, 1) := by decide +kernel
theorem dX5_sheet_31 : decode cX5_sheet 31 = .ok (.invokevirtual 103, 3) := by decide +kernel
theorem dX5_sheet_34 : decode cX5_sheet 34 = .ok (.ireturn, 1) := by decide +kernel
theorem dX5_sheet_35 : decode cX5_sheet 35 = .ok (.iload_n 3, 1) := by decide +kernel
theorem dX5_sheet_36 : decode cX5_sheet 36 = .ok (.ifCond .ge 10, 3) := by decide +kernel
theorem dX5_sheet_39 : decode cX5_sheet 39 = .ok (.aload_n 0, 1) := by decide +kernel
theorem dX5_sheet_40 : decode cX5_sheet 40 = .ok (.bipush 6, 2) := by decide +kernel
theorem dX5_sheet_42 : decode cX5_sheet 42 = .ok (.invokevirtual 103, 3) := by decide +kernel
theorem dX5_sheet_45 : decode cX5_sheet 45 = .ok (.ireturn, 1) := by decide +kernel
theorem dX5_sheet_46 : decode cX5_sheet 46 = .ok (.iload_n 3, 1) := by decide +kernel
theorem dX5_sheet_47 : decode cX5_sheet 47 = .ok (.bipush 40, 2) := by decide +kernel
theorem dX5_sheet_49 : decode cX5_sheet 49 = .ok (.if_icmp .le 9, 3) := by decide +kernel
theorem dX5_sheet_52 : decode cX5_sheet 52 = .ok (.aload_n 0, 1) := by decide +kernel
theorem dX5_sheet_53 : decode cX5_sheet 53 = .ok (.iconst 0, 1) := by decide +kernel
theorem dX5_sheet_54 : decode cX5_sheet 54 = .ok (.invokevirtual 103, 3) := by decide +kernel
theorem dX5_sheet_57 : decode cX5_sheet 57 = .ok (.ireturn, 1) := by decide +kernel
theorem dX5_sheet_58 : decode cX5_sheet 58 = .ok (.aload_n 0, 1) := by decide +kernel
theorem dX5_sheet_59 : decode cX5_sheet 59 = .ok (.getfield 35, 3) := by decide +kernel
theorem dX5_sheet_62 : decode cX5_sheet 62 = .ok (.iload_n 1, 1) := by decide +kernel
theorem dX5_sheet_63 : decode cX5_sheet 63 = .ok (.iload_n 2, 1) := by decide +kernel
theorem dX5_sheet_64 : decode cX5_sheet 64 = .ok (.iastore, 1) := by decide +kernel
theorem dX5_sheet_65 : decode cX5_sheet 65 = .ok (.aload_n 0, 1) := by decide +kernel
theorem dX5_sheet_66 : decode cX5_sheet 66 = .ok (.getfield 38, 3) := by decide +kernel
theorem dX5_sheet_69 : decode cX5_sheet 69 = .ok (.iload_n 1, 1) := by decide +kernel
theorem dX5_sheet_70 : decode cX5_sheet 70 = .ok (.iload_n 2, 1) := by decide +kernel
theorem dX5_sheet_71 : decode cX5_sheet 71 = .ok (.ifCond .ne 7, 3) := by decide +kernel
theorem dX5_sheet_74 : decode cX5_sheet 74 = .ok (.iconst 0, 1) := by decide +kernel
theorem dX5_sheet_75 : decode cX5_sheet 75 = .ok (.goto 4, 3) := by decide +kernel
theorem dX5_sheet_78 : decode cX5_sheet 78 = .ok (.iload_n 3, 1) := by decide +kernel
theorem dX5_sheet_79 : decode cX5_sheet 79 = .ok (.iastore, 1) := by decide +kernel
theorem dX5_sheet_80 : decode cX5_sheet 80 = .ok (.iconst 0, 1) := by decide +kernel
theorem dX5_sheet_81 : decode cX5_sheet 81 = .ok (.istore 4, 2) := by decide +kernel
theorem dX5_sheet_83 : decode cX5_sheet 83 = .ok (.iload 4, 2) := by decide +kernel
theorem dX5_sheet_85 : decode cX5_sheet 85 = .ok (.bipush 40, 2) := by decide +kernel
theorem dX5_sheet_87 : decode cX5_sheet 87 = .ok (.if_icmp .ge 22, 3) := by decide +kernel
theorem dX5_sheet_90 : decode cX5_sheet 90 = .ok (.aload_n 0, 1) := by decide +kernel
theorem dX5_sheet_91 : decode cX5_sheet 91 = .ok (.getfield 41, 3) := by decide +kernel
theorem dX5_sheet_94 : decode cX5_sheet 94 = .ok (.bipush 40, 2) := by decide +kernel
theorem dX5_sheet_96 : decode cX5_sheet 96 = .ok (.iload_n 1, 1) := by decide +kernel
theorem dX5_sheet_97 : decode cX5_sheet 97 = .ok (.imul, 1) := by decide +kernel
theorem dX5_sheet_98 : decode cX5_sheet 98 = .ok (.iload 4, 2) := by decide +kernel
theorem dX5_sheet_100 : decode cX5_sheet 100 = .ok (.iadd, 1) := by decide +kernel
theorem dX5_sheet_101 : decode cX5_sheet 101 = .ok (.iconst 0, 1) := by decide +kernel
theorem dX5_sheet_102 : decode cX5_sheet 102 = .ok (.iastore, 1) := by decide +kernel
theorem dX5_sheet_103 : decode cX5_sheet 103 = .ok (.iinc 4 1, 3) := by decide +kernel
theorem dX5_sheet_106 : decode cX5_sheet 106 = .ok (.goto (-23), 3) := by decide +kernel
theorem dX5_sheet_109 : decode cX5_sheet 109 = .ok (.aload_n 0, 1) := by decide +kernel
theorem dX5_sheet_110 : decode cX5_sheet 110 = .ok (.getfield 38, 3) := by decide +kernel
theorem dX5_sheet_113 : decode cX5_sheet 113 = .ok (.iload_n 1, 1) := by decide +kernel
theorem dX5_sheet_114 : decode cX5_sheet 114 = .ok (.iaload, 1) := by decide +kernel
theorem dX5_sheet_115 : decode cX5_sheet 115 = .ok (.ireturn, 1) := by decide +kernel
set_option maxRecDepth 20000 in
set_option maxHeartbeats 4000000 in
theorem l_X5_sheet {K : Cx} {s : Nat} {b n0 : Int32} {M : TM} {f : Nat → Int32} (hs : s < 4) : ∀ (n : Nat) (j : Nat), 40 - j < n → j ≤ 40 → XX RX5 cX5_sheet 5 (some .int) 2 42 K 83 [some (.ref 49), some (.int (nI s)), some (.int b), some (.int n0), some (.int (nI j))] [] (sr M 60 (zr f (40 * s) j)) (fun r1 m1 => r1 = (some (.int (M.1 59 s))) ∧ m1 = sr M 60 (zr f (40 * s) 40)) := by
  intro n
  induction n with
  | zero => intro j hlt; exact absurd hlt (Nat.not_lt_zero _)
  | succ n ih =>
    intro j hlt hj
    refine x_iload (q := 85) dX5_sheet_83 rfl rfl ?_
    refine x_bipush (q := 87) (v := 40) dX5_sheet_85 rfl (by decide) ?_
    refine x_icmp_ge (q := 90) (t := 109) dX5_sheet_87 rfl (by decide) (fun h87 => ?_) (fun h87 => ?_)
    · refine x_aload_n (q := 110) dX5_sheet_109 rfl rfl ?_
      refine x_getR (q := 113) dX5_sheet_110 rfl fl_X5_38 (or5_sizes) ?_
      refine x_iload_n (q := 114) dX5_sheet_113 rfl rfl ?_
      refine x_iald (q := 115) dX5_sheet_114 rfl (ar_59) (ix_nI hs (by decide)) (Nat.zero_add _) ?_
      refine x_ireturn dX5_sheet_115 rfl rfl ?_
      have e : j = 40 := Nat.le_antisymm hj (lp_stop (n := 40) rfl (by omega) (by omega) h87)
      subst e
      exact ⟨by rw [sr_ne (by decide)], rfl⟩
    have hjn : j < 40 := lp_go (n := 40) rfl (by omega) (by omega) h87
    refine x_aload_n (q := 91) dX5_sheet_90 rfl rfl ?_
    refine x_getR (q := 94) dX5_sheet_91 rfl fl_X5_41 (or5_cells) ?_
    refine x_bipush (q := 96) (v := 40) dX5_sheet_94 rfl (by decide) ?_
    refine x_iload_n (q := 97) dX5_sheet_96 rfl rfl ?_
    refine x_imul (q := 98) dX5_sheet_97 rfl ?_
    refine x_iload (q := 100) dX5_sheet_98 rfl rfl ?_
    refine x_iadd (q := 101) dX5_sheet_100 rfl ?_
    refine x_iconst (q := 102) (v := 0) dX5_sheet_101 rfl (by decide) ?_
    refine x_iastr (q := 103) dX5_sheet_102 rfl (ar_60) (ix_cel hs hjn) (Nat.zero_add _)  ?_
    refine x_iinc (q := 106) (v := nI (j + 1)) dX5_sheet_103 rfl rfl (jnI_s j) (by decide) rfl rfl ?_
    refine x_goto (q := 83) dX5_sheet_106 (by decide) ?_
    rw [zr_s]
    exact ih (j + 1) (by omega) (by omega)
set_option maxRecDepth 20000 in
set_option maxHeartbeats 4000000 in
theorem c_X5_sheet {K : Cx} {x b n : Int32} {m : TM} : CT yX5_sheet cX5_sheet 5 (some .int) 2 42 K [.ref 49, .int x, .int b, .int n] (m) (some (.int ((if (outI x 0 3 || !bok b) = true then -1000001 else (if n < 0 then -1000007 else (if 40 < n then -1000001 else if b = 0 then 0 else n)))))) ((if (outI x 0 3 || !bok b) = true then fnm m 0 else (if n < 0 then fnm m 6 else (if 40 < n then fnm m 0 else sr (shM m (cl x) b n) 60 (zr ((shM m (cl x) b n).1 60) (40 * cl x) 40))))) := by
  refine ct_ofd (n := 1) (by decide +kernel) rfl rfl ?_
  show XX RX5 cX5_sheet 5 (some .int) 2 42 K 0 [some (.ref 49), some (.int x), some (.int b), some (.int n), none] [] (m) (fun r1 m1 => r1 = (some (.int ((if (outI x 0 3 || !bok b) = true then -1000001 else (if n < 0 then -1000007 else (if 40 < n then -1000001 else if b = 0 then 0 else n)))))) ∧ m1 = (if (outI x 0 3 || !bok b) = true then fnm m 0 else (if n < 0 then fnm m 6 else (if 40 < n then fnm m 0 else sr (shM m (cl x) b n) 60 (zr ((shM m (cl x) b n).1 60) (40 * cl x) 40)))))
  refine x_iload_n (q := 1) dX5_sheet_0 rfl rfl ?_
  refine x_callS1v (q := 4) dX5_sheet_1 rfl ml_X5_155 ms_X5_isSheet c_X5_isSheet (Nat.le_of_ble_eq_true rfl) ⟨by decide, by decide⟩ ?_
  refine x_ifB_eq (q := 7) (t := 29) dX5_sheet_4 rfl (by decide) (fun h4 => ?_) (fun h4 => ?_)
  · replace h4 := in_f h4
    refine x_aload_n (q := 30) dX5_sheet_29 rfl rfl ?_
    refine x_iconst (q := 31) (v := 0) dX5_sheet_30 rfl (by decide) ?_
    refine x_callV1v (q := 34) dX5_sheet_31 rfl ml_X5_103 mv_X5_no rv5 rfl (c_X5_nox (w := 0) (x := -1000001) (by decide) (by decide)) (Nat.le_of_ble_eq_true rfl) ⟨by decide, by decide⟩ ?_
    refine x_ireturn dX5_sheet_34 rfl rfl ?_
    exact ⟨by simp [h4], by simp [h4]⟩
  replace h4 := in_t h4
  refine x_iload_n (q := 8) dX5_sheet_7 rfl rfl ?_
  refine x_if_eq (q := 11) (t := 35) dX5_sheet_8 rfl (by decide) (fun h8 => ?_) (fun h8 => ?_)
  · refine x_iload_n (q := 36) dX5_sheet_35 rfl rfl ?_
    refine x_if_ge (q := 39) (t := 46) dX5_sheet_36 rfl (by decide) (fun h36 => ?_) (fun h36 => ?_)
    · refine x_iload_n (q := 47) dX5_sheet_46 rfl rfl ?_
      refine x_bipush (q := 49) (v := 40) dX5_sheet_47 rfl (by decide) ?_
      refine x_icmp_le (q := 52) (t := 58) dX5_sheet_49 rfl (by decide) (fun h49 => ?_) (fun h49 => ?_)
      · obtain ⟨s, hs, rfl⟩ : ∃ s, s < 4 ∧ x = nI s := ⟨cl x, (ix_out h4 (n := 4) (by decide)).2.2, jnI_of (ix_out h4 (n := 4) (by decide)).1⟩
        have es : cl (nI s) = s := jnI_clamp (by omega)
        refine x_aload_n (q := 59) dX5_sheet_58 rfl rfl ?_
        refine x_getR (q := 62) dX5_sheet_59 rfl fl_X5_35 (or5_widths) ?_
        refine x_iload_n (q := 63) dX5_sheet_62 rfl rfl ?_
        refine x_iload_n (q := 64) dX5_sheet_63 rfl rfl ?_
        refine x_iast (q := 65) dX5_sheet_64 rfl (ar_58) (ix_nI hs (by decide)) (Nat.zero_add _) rfl ?_
        refine x_aload_n (q := 66) dX5_sheet_65 rfl rfl ?_
        refine x_getR (q := 69) dX5_sheet_66 rfl fl_X5_38 (or5_sizes) ?_
        refine x_iload_n (q := 70) dX5_sheet_69 rfl rfl ?_
        refine x_iload_n (q := 71) dX5_sheet_70 rfl rfl ?_
        refine x_if_ne (q := 74) (t := 78) dX5_sheet_71 rfl (by decide) (fun h71 => ?_) (fun h71 => ?_)
        · refine x_iload_n (q := 79) dX5_sheet_78 rfl rfl ?_
          refine x_iast (q := 80) dX5_sheet_79 rfl (ar_59) (ix_nI hs (by decide)) (Nat.zero_add _) rfl ?_
          refine x_iconst (q := 81) (v := 0) dX5_sheet_80 rfl (by decide) ?_
          refine x_istore (q := 83) dX5_sheet_81 rfl (by decide) rfl rfl ?_
          have h38 : ¬ n < 0 := Int32.not_lt.mpr h36
          have h51 : ¬ 40 < n := Int32.not_lt.mpr h49
          have hb : bok b = true := by simp [bok, h8]
          have hm : shM m s b n = st1 (st1 m 58 s b) 59 s n := by unfold shM; rw [if_neg h71]
          simp only [h4, hb, h38, h51, es, Bool.not_true, Bool.or_self, Bool.false_eq_true, if_false]
          have h := l_X5_sheet (K := K) (b := b) (n0 := n) (M := shM m s b n) (f := (shM m s b n).1 60) hs 41 0 (by omega) (by omega)
          rw [zr_0, sr_self] at h
          have e1 : (shM m s b n).1 59 s = if b = 0 then 0 else n := by simp [shM, st1]
          rw [e1, hm] at h
          rw [hm]
          exact h
        refine x_iconst (q := 75) (v := 0) dX5_sheet_74 rfl (by decide) ?_
        refine x_goto (q := 79) dX5_sheet_75 (by decide) ?_
        refine x_iast (q := 80) dX5_sheet_79 rfl (ar_59) (ix_nI hs (by decide)) (Nat.zero_add _) rfl ?_
        refine x_iconst (q := 81) (v := 0) dX5_sheet_80 rfl (by decide) ?_
        refine x_istore (q := 83) dX5_sheet_81 rfl (by decide) rfl rfl ?_
        have h38 : ¬ n < 0 := Int32.not_lt.mpr h36
        have h51 : ¬ 40 < n := Int32.not_lt.mpr h49
        have hb : bok b = true := by simp [bok, h8]
        have hm : shM m s b n = st1 (st1 m 58 s b) 59 s 0 := by unfold shM; rw [if_pos h71]
        simp only [h4, hb, h38, h51, es, Bool.not_true, Bool.or_self, Bool.false_eq_true, if_false]
        have h := l_X5_sheet (K := K) (b := b) (n0 := n) (M := shM m s b n) (f := (shM m s b n).1 60) hs 41 0 (by omega) (by omega)
        rw [zr_0, sr_self] at h
        have e1 : (shM m s b n).1 59 s = if b = 0 then 0 else n := by simp [shM, st1]
        rw [e1, hm] at h
        rw [hm]
        exact h
      refine x_aload_n (q := 53) dX5_sheet_52 rfl rfl ?_
      refine x_iconst (q := 54) (v := 0) dX5_sheet_53 rfl (by decide) ?_
      refine x_callV1v (q := 57) dX5_sheet_54 rfl ml_X5_103 mv_X5_no rv5 rfl (c_X5_nox (w := 0) (x := -1000001) (by decide) (by decide)) (Nat.le_of_ble_eq_true rfl) ⟨by decide, by decide⟩ ?_
      refine x_ireturn dX5_sheet_57 rfl rfl ?_
      have hb : bok b = true := by simp [bok, h8]
      have h38 : ¬ n < 0 := Int32.not_lt.mpr h36
      have h51 : 40 < n := Int32.not_le.mp h49
      exact ⟨by simp [h4, hb, h38, h51], by simp [h4, hb, h38, h51]⟩
    refine x_aload_n (q := 40) dX5_sheet_39 rfl rfl ?_
    refine x_bipush (q := 42) (v := 6) dX5_sheet_40 rfl (by decide) ?_
    refine x_callV1v (q := 45) dX5_sheet_42 rfl ml_X5_103 mv_X5_no rv5 rfl (c_X5_nox (w := 6) (x := -1000007) (by decide) (by decide)) (Nat.le_of_ble_eq_true rfl) ⟨by decide, by decide⟩ ?_
    refine x_ireturn dX5_sheet_45 rfl rfl ?_
    have hb : bok b = true := by simp [bok, h8]
    have h38 : n < 0 := Int32.not_le.mp h36
    exact ⟨by simp [h4, hb, h38], by simp [h4, hb, h38]⟩
  refine x_iload_n (q := 12) dX5_sheet_11 rfl rfl ?_
  refine x_bipush (q := 14) (v := 8) dX5_sheet_12 rfl (by decide) ?_
  refine x_icmp_eq (q := 17) (t := 35) dX5_sheet_14 rfl (by decide) (fun h14 => ?_) (fun h14 => ?_)
  · refine x_iload_n (q := 36) dX5_sheet_35 rfl rfl ?_
    refine x_if_ge (q := 39) (t := 46) dX5_sheet_36 rfl (by decide) (fun h36 => ?_) (fun h36 => ?_)
    · refine x_iload_n (q := 47) dX5_sheet_46 rfl rfl ?_
      refine x_bipush (q := 49) (v := 40) dX5_sheet_47 rfl (by decide) ?_
      refine x_icmp_le (q := 52) (t := 58) dX5_sheet_49 rfl (by decide) (fun h49 => ?_) (fun h49 => ?_)
      · obtain ⟨s, hs, rfl⟩ : ∃ s, s < 4 ∧ x = nI s := ⟨cl x, (ix_out h4 (n := 4) (by decide)).2.2, jnI_of (ix_out h4 (n := 4) (by decide)).1⟩
        have es : cl (nI s) = s := jnI_clamp (by omega)
        refine x_aload_n (q := 59) dX5_sheet_58 rfl rfl ?_
        refine x_getR (q := 62) dX5_sheet_59 rfl fl_X5_35 (or5_widths) ?_
        refine x_iload_n (q := 63) dX5_sheet_62 rfl rfl ?_
        refine x_iload_n (q := 64) dX5_sheet_63 rfl rfl ?_
        refine x_iast (q := 65) dX5_sheet_64 rfl (ar_58) (ix_nI hs (by decide)) (Nat.zero_add _) rfl ?_
        refine x_aload_n (q := 66) dX5_sheet_65 rfl rfl ?_
        refine x_getR (q := 69) dX5_sheet_66 rfl fl_X5_38 (or5_sizes) ?_
        refine x_iload_n (q := 70) dX5_sheet_69 rfl rfl ?_
        refine x_iload_n (q := 71) dX5_sheet_70 rfl rfl ?_
        refine x_if_ne (q := 74) (t := 78) dX5_sheet_71 rfl (by decide) (fun h71 => ?_) (fun h71 => ?_)
        · refine x_iload_n (q := 79) dX5_sheet_78 rfl rfl ?_
          refine x_iast (q := 80) dX5_sheet_79 rfl (ar_59) (ix_nI hs (by decide)) (Nat.zero_add _) rfl ?_
          refine x_iconst (q := 81) (v := 0) dX5_sheet_80 rfl (by decide) ?_
          refine x_istore (q := 83) dX5_sheet_81 rfl (by decide) rfl rfl ?_
          have h38 : ¬ n < 0 := Int32.not_lt.mpr h36
          have h51 : ¬ 40 < n := Int32.not_lt.mpr h49
          have hb : bok b = true := by simp [bok, h8, h14]
          have hm : shM m s b n = st1 (st1 m 58 s b) 59 s n := by unfold shM; rw [if_neg h71]
          simp only [h4, hb, h38, h51, es, Bool.not_true, Bool.or_self, Bool.false_eq_true, if_false]
          have h := l_X5_sheet (K := K) (b := b) (n0 := n) (M := shM m s b n) (f := (shM m s b n).1 60) hs 41 0 (by omega) (by omega)
          rw [zr_0, sr_self] at h
          have e1 : (shM m s b n).1 59 s = if b = 0 then 0 else n := by simp [shM, st1]
          rw [e1, hm] at h
          rw [hm]
          exact h
        refine x_iconst (q := 75) (v := 0) dX5_sheet_74 rfl (by decide) ?_
        refine x_goto (q := 79) dX5_sheet_75 (by decide) ?_
        refine x_iast (q := 80) dX5_sheet_79 rfl (ar_59) (ix_nI hs (by decide)) (Nat.zero_add _) rfl ?_
        refine x_iconst (q := 81) (v := 0) dX5_sheet_80 rfl (by decide) ?_
        refine x_istore (q := 83) dX5_sheet_81 rfl (by decide) rfl rfl ?_
        have h38 : ¬ n < 0 := Int32.not_lt.mpr h36
        have h51 : ¬ 40 < n := Int32.not_lt.mpr h49
        have hb : bok b = true := by simp [bok, h8, h14]
        have hm : shM m s b n = st1 (st1 m 58 s b) 59 s 0 := by unfold shM; rw [if_pos h71]
        simp only [h4, hb, h38, h51, es, Bool.not_true, Bool.or_self, Bool.false_eq_true, if_false]
        have h := l_X5_sheet (K := K) (b := b) (n0 := n) (M := shM m s b n) (f := (shM m s b n).1 60) hs 41 0 (by omega) (by omega)
        rw [zr_0, sr_self] at h
        have e1 : (shM m s b n).1 59 s = if b = 0 then 0 else n := by simp [shM, st1]
        rw [e1, hm] at h
        rw [hm]
        exact h
      refine x_aload_n (q := 53) dX5_sheet_52 rfl rfl ?_
      refine x_iconst (q := 54) (v := 0) dX5_sheet_53 rfl (by decide) ?_
      refine x_callV1v (q := 57) dX5_sheet_54 rfl ml_X5_103 mv_X5_no rv5 rfl (c_X5_nox (w := 0) (x := -1000001) (by decide) (by decide)) (Nat.le_of_ble_eq_true rfl) ⟨by decide, by decide⟩ ?_
      refine x_ireturn dX5_sheet_57 rfl rfl ?_
      have hb : bok b = true := by simp [bok, h8, h14]
      have h38 : ¬ n < 0 := Int32.not_lt.mpr h36
      have h51 : 40 < n := Int32.not_le.mp h49
      exact ⟨by simp [h4, hb, h38, h51], by simp [h4, hb, h38, h51]⟩
    refine x_aload_n (q := 40) dX5_sheet_39 rfl rfl ?_
    refine x_bipush (q := 42) (v := 6) dX5_sheet_40 rfl (by decide) ?_
    refine x_callV1v (q := 45) dX5_sheet_42 rfl ml_X5_103 mv_X5_no rv5 rfl (c_X5_nox (w := 6) (x := -1000007) (by decide) (by decide)) (Nat.le_of_ble_eq_true rfl) ⟨by decide, by decide⟩ ?_
    refine x_ireturn dX5_sheet_45 rfl rfl ?_
    have hb : bok b = true := by simp [bok, h8, h14]
    have h38 : n < 0 := Int32.not_le.mp h36
    exact ⟨by simp [h4, hb, h38], by simp [h4, hb, h38]⟩
  refine x_iload_n (q := 18) dX5_sheet_17 rfl rfl ?_
  refine x_bipush (q := 20) (v := 16) dX5_sheet_18 rfl (by decide) ?_
  refine x_icmp_eq (q := 23) (t := 35) dX5_sheet_20 rfl (by decide) (fun h20 => ?_) (fun h20 => ?_)
  · refine x_iload_n (q := 36) dX5_sheet_35 rfl rfl ?_
    refine x_if_ge (q := 39) (t := 46) dX5_sheet_36 rfl (by decide) (fun h36 => ?_) (fun h36 => ?_)
    · refine x_iload_n (q := 47) dX5_sheet_46 rfl rfl ?_
      refine x_bipush (q := 49) (v := 40) dX5_sheet_47 rfl (by decide) ?_
      refine x_icmp_le (q := 52) (t := 58) dX5_sheet_49 rfl (by decide) (fun h49 => ?_) (fun h49 => ?_)
      · obtain ⟨s, hs, rfl⟩ : ∃ s, s < 4 ∧ x = nI s := ⟨cl x, (ix_out h4 (n := 4) (by decide)).2.2, jnI_of (ix_out h4 (n := 4) (by decide)).1⟩
        have es : cl (nI s) = s := jnI_clamp (by omega)
        refine x_aload_n (q := 59) dX5_sheet_58 rfl rfl ?_
        refine x_getR (q := 62) dX5_sheet_59 rfl fl_X5_35 (or5_widths) ?_
        refine x_iload_n (q := 63) dX5_sheet_62 rfl rfl ?_
        refine x_iload_n (q := 64) dX5_sheet_63 rfl rfl ?_
        refine x_iast (q := 65) dX5_sheet_64 rfl (ar_58) (ix_nI hs (by decide)) (Nat.zero_add _) rfl ?_
        refine x_aload_n (q := 66) dX5_sheet_65 rfl rfl ?_
        refine x_getR (q := 69) dX5_sheet_66 rfl fl_X5_38 (or5_sizes) ?_
        refine x_iload_n (q := 70) dX5_sheet_69 rfl rfl ?_
        refine x_iload_n (q := 71) dX5_sheet_70 rfl rfl ?_
        refine x_if_ne (q := 74) (t := 78) dX5_sheet_71 rfl (by decide) (fun h71 => ?_) (fun h71 => ?_)
        · refine x_iload_n (q := 79) dX5_sheet_78 rfl rfl ?_
          refine x_iast (q := 80) dX5_sheet_79 rfl (ar_59) (ix_nI hs (by decide)) (Nat.zero_add _) rfl ?_
          refine x_iconst (q := 81) (v := 0) dX5_sheet_80 rfl (by decide) ?_
          refine x_istore (q := 83) dX5_sheet_81 rfl (by decide) rfl rfl ?_
          have h38 : ¬ n < 0 := Int32.not_lt.mpr h36
          have h51 : ¬ 40 < n := Int32.not_lt.mpr h49
          have hb : bok b = true := by simp [bok, h8, h14, h20]
          have hm : shM m s b n = st1 (st1 m 58 s b) 59 s n := by unfold shM; rw [if_neg h71]
          simp only [h4, hb, h38, h51, es, Bool.not_true, Bool.or_self, Bool.false_eq_true, if_false]
          have h := l_X5_sheet (K := K) (b := b) (n0 := n) (M := shM m s b n) (f := (shM m s b n).1 60) hs 41 0 (by omega) (by omega)
          rw [zr_0, sr_self] at h
          have e1 : (shM m s b n).1 59 s = if b = 0 then 0 else n := by simp [shM, st1]
          rw [e1, hm] at h
          rw [hm]
          exact h
        refine x_iconst (q := 75) (v := 0) dX5_sheet_74 rfl (by decide) ?_
        refine x_goto (q := 79) dX5_sheet_75 (by decide) ?_
        refine x_iast (q := 80) dX5_sheet_79 rfl (ar_59) (ix_nI hs (by decide)) (Nat.zero_add _) rfl ?_
        refine x_iconst (q := 81) (v := 0) dX5_sheet_80 rfl (by decide) ?_
        refine x_istore (q := 83) dX5_sheet_81 rfl (by decide) rfl rfl ?_
        have h38 : ¬ n < 0 := Int32.not_lt.mpr h36
        have h51 : ¬ 40 < n := Int32.not_lt.mpr h49
        have hb : bok b = true := by simp [bok, h8, h14, h20]
        have hm : shM m s b n = st1 (st1 m 58 s b) 59 s 0 := by unfold shM; rw [if_pos h71]
        simp only [h4, hb, h38, h51, es, Bool.not_true, Bool.or_self, Bool.false_eq_true, if_false]
        have h := l_X5_sheet (K := K) (b := b) (n0 := n) (M := shM m s b n) (f := (shM m s b n).1 60) hs 41 0 (by omega) (by omega)
        rw [zr_0, sr_self] at h
        have e1 : (shM m s b n).1 59 s = if b = 0 then 0 else n := by simp [shM, st1]
        rw [e1, hm] at h
        rw [hm]
        exact h
      refine x_aload_n (q := 53) dX5_sheet_52 rfl rfl ?_
      refine x_iconst (q := 54) (v := 0) dX5_sheet_53 rfl (by decide) ?_
      refine x_callV1v (q := 57) dX5_sheet_54 rfl ml_X5_103 mv_X5_no rv5 rfl (c_X5_nox (w := 0) (x := -1000001) (by decide) (by decide)) (Nat.le_of_ble_eq_true rfl) ⟨by decide, by decide⟩ ?_
      refine x_ireturn dX5_sheet_57 rfl rfl ?_
      have hb : bok b = true := by simp [bok, h8, h14, h20]
      have h38 : ¬ n < 0 := Int32.not_lt.mpr h36
      have h51 : 40 < n := Int32.not_le.mp h49
      exact ⟨by simp [h4, hb, h38, h51], by simp [h4, hb, h38, h51]⟩
    refine x_aload_n (q := 40) dX5_sheet_39 rfl rfl ?_
    refine x_bipush (q := 42) (v := 6) dX5_sheet_40 rfl (by decide) ?_
    refine x_callV1v (q := 45) dX5_sheet_42 rfl ml_X5_103 mv_X5_no rv5 rfl (c_X5_nox (w := 6) (x := -1000007) (by decide) (by decide)) (Nat.le_of_ble_eq_true rfl) ⟨by decide, by decide⟩ ?_
    refine x_ireturn dX5_sheet_45 rfl rfl ?_
    have hb : bok b = true := by simp [bok, h8, h14, h20]
    have h38 : n < 0 := Int32.not_le.mp h36
    exact ⟨by simp [h4, hb, h38], by simp [h4, hb, h38]⟩
  refine x_iload_n (q := 24) dX5_sheet_23 rfl rfl ?_
  refine x_bipush (q := 26) (v := 32) dX5_sheet_24 rfl (by decide) ?_
  refine x_icmp_eq (q := 29) (t := 35) dX5_sheet_26 rfl (by decide) (fun h26 => ?_) (fun h26 => ?_)
  · refine x_iload_n (q := 36) dX5_sheet_35 rfl rfl ?_
    refine x_if_ge (q := 39) (t := 46) dX5_sheet_36 rfl (by decide) (fun h36 => ?_) (fun h36 => ?_)
    · refine x_iload_n (q := 47) dX5_sheet_46 rfl rfl ?_
      refine x_bipush (q := 49) (v := 40) dX5_sheet_47 rfl (by decide) ?_
      refine x_icmp_le (q := 52) (t := 58) dX5_sheet_49 rfl (by decide) (fun h49 => ?_) (fun h49 => ?_)
      · obtain ⟨s, hs, rfl⟩ : ∃ s, s < 4 ∧ x = nI s := ⟨cl x, (ix_out h4 (n := 4) (by decide)).2.2, jnI_of (ix_out h4 (n := 4) (by decide)).1⟩
        have es : cl (nI s) = s := jnI_clamp (by omega)
        refine x_aload_n (q := 59) dX5_sheet_58 rfl rfl ?_
        refine x_getR (q := 62) dX5_sheet_59 rfl fl_X5_35 (or5_widths) ?_
        refine x_iload_n (q := 63) dX5_sheet_62 rfl rfl ?_
        refine x_iload_n (q := 64) dX5_sheet_63 rfl rfl ?_
        refine x_iast (q := 65) dX5_sheet_64 rfl (ar_58) (ix_nI hs (by decide)) (Nat.zero_add _) rfl ?_
        refine x_aload_n (q := 66) dX5_sheet_65 rfl rfl ?_
        refine x_getR (q := 69) dX5_sheet_66 rfl fl_X5_38 (or5_sizes) ?_
        refine x_iload_n (q := 70) dX5_sheet_69 rfl rfl ?_
        refine x_iload_n (q := 71) dX5_sheet_70 rfl rfl ?_
        refine x_if_ne (q := 74) (t := 78) dX5_sheet_71 rfl (by decide) (fun h71 => ?_) (fun h71 => ?_)
        · refine x_iload_n (q := 79) dX5_sheet_78 rfl rfl ?_
          refine x_iast (q := 80) dX5_sheet_79 rfl (ar_59) (ix_nI hs (by decide)) (Nat.zero_add _) rfl ?_
          refine x_iconst (q := 81) (v := 0) dX5_sheet_80 rfl (by decide) ?_
          refine x_istore (q := 83) dX5_sheet_81 rfl (by decide) rfl rfl ?_
          have h38 : ¬ n < 0 := Int32.not_lt.mpr h36
          have h51 : ¬ 40 < n := Int32.not_lt.mpr h49
          have hb : bok b = true := by simp [bok, h8, h14, h20, h26]
          have hm : shM m s b n = st1 (st1 m 58 s b) 59 s n := by unfold shM; rw [if_neg h71]
          simp only [h4, hb, h38, h51, es, Bool.not_true, Bool.or_self, Bool.false_eq_true, if_false]
          have h := l_X5_sheet (K := K) (b := b) (n0 := n) (M := shM m s b n) (f := (shM m s b n).1 60) hs 41 0 (by omega) (by omega)
          rw [zr_0, sr_self] at h
          have e1 : (shM m s b n).1 59 s = if b = 0 then 0 else n := by simp [shM, st1]
          rw [e1, hm] at h
          rw [hm]
          exact h
        refine x_iconst (q := 75) (v := 0) dX5_sheet_74 rfl (by decide) ?_
        refine x_goto (q := 79) dX5_sheet_75 (by decide) ?_
        refine x_iast (q := 80) dX5_sheet_79 rfl (ar_59) (ix_nI hs (by decide)) (Nat.zero_add _) rfl ?_
        refine x_iconst (q := 81) (v := 0) dX5_sheet_80 rfl (by decide) ?_
        refine x_istore (q := 83) dX5_sheet_81 rfl (by decide) rfl rfl ?_
        have h38 : ¬ n < 0 := Int32.not_lt.mpr h36
        have h51 : ¬ 40 < n := Int32.not_lt.mpr h49
        have hb : bok b = true := by simp [bok, h8, h14, h20, h26]
        have hm : shM m s b n = st1 (st1 m 58 s b) 59 s 0 := by unfold shM; rw [if_pos h71]
        simp only [h4, hb, h38, h51, es, Bool.not_true, Bool.or_self, Bool.false_eq_true, if_false]
        have h := l_X5_sheet (K := K) (b := b) (n0 := n) (M := shM m s b n) (f := (shM m s b n).1 60) hs 41 0 (by omega) (by omega)
        rw [zr_0, sr_self] at h
        have e1 : (shM m s b n).1 59 s = if b = 0 then 0 else n := by simp [shM, st1]
        rw [e1, hm] at h
        rw [hm]
        exact h
      refine x_aload_n (q := 53) dX5_sheet_52 rfl rfl ?_
      refine x_iconst (q := 54) (v := 0) dX5_sheet_53 rfl (by decide) ?_
      refine x_callV1v (q := 57) dX5_sheet_54 rfl ml_X5_103 mv_X5_no rv5 rfl (c_X5_nox (w := 0) (x := -1000001) (by decide) (by decide)) (Nat.le_of_ble_eq_true rfl) ⟨by decide, by decide⟩ ?_
      refine x_ireturn dX5_sheet_57 rfl rfl ?_
      have hb : bok b = true := by simp [bok, h8, h14, h20, h26]
      have h38 : ¬ n < 0 := Int32.not_lt.mpr h36
      have h51 : 40 < n := Int32.not_le.mp h49
      exact ⟨by simp [h4, hb, h38, h51], by simp [h4, hb, h38, h51]⟩
    refine x_aload_n (q := 40) dX5_sheet_39 rfl rfl ?_
    refine x_bipush (q := 42) (v := 6) dX5_sheet_40 rfl (by decide) ?_
    refine x_callV1v (q := 45) dX5_sheet_42 rfl ml_X5_103 mv_X5_no rv5 rfl (c_X5_nox (w := 6) (x := -1000007) (by decide) (by decide)) (Nat.le_of_ble_eq_true rfl) ⟨by decide, by decide⟩ ?_
    refine x_ireturn dX5_sheet_45 rfl rfl ?_
    have hb : bok b = true := by simp [bok, h8, h14, h20, h26]
    have h38 : n < 0 := Int32.not_le.mp h36
    exact ⟨by simp [h4, hb, h38], by simp [h4, hb, h38]⟩
  refine x_aload_n (q := 30) dX5_sheet_29 rfl rfl ?_
  refine x_iconst (q := 31) (v := 0) dX5_sheet_30 rfl (by decide) ?_
  refine x_callV1v (q := 34) dX5_sheet_31 rfl ml_X5_103 mv_X5_no rv5 rfl (c_X5_nox (w := 0) (x := -1000001) (by decide) (by decide)) (Nat.le_of_ble_eq_true rfl) ⟨by decide, by decide⟩ ?_
  refine x_ireturn dX5_sheet_34 rfl rfl ?_
  have hb : bok b = false := by simp [bok, h8, h14, h20, h26]
  exact ⟨by simp [h4, hb], by simp [h4, hb]⟩
theorem dX5_write_0 : decode cX5_write 0 = .ok (.aload_n 0, 1) := by decide +kernel
theorem dX5_write_1 : decode cX5_write 1 = .ok (.iload_n 1, 1) := by decide +kernel
theorem dX5_write_2 : decode cX5_write 2 = .ok (.invokevirtual 158, 3) := by decide +kernel
theorem dX5_write_5 : decode cX5_write 5 = .ok (.istore 4, 2) := by decide +kernel
theorem dX5_write_7 : decode cX5_write 7 = .ok (.iload 4, 2) := by decide +kernel
theorem dX5_write_9 : decode cX5_write 9 = .ok (.ifCond .ge 22, 3) := by decide +kernel
theorem dX5_write_12 : decode cX5_write 12 = .ok (.iload_n 2, 1) := by decide +kernel
theorem dX5_write_13 : decode cX5_write 13 = .ok (.iconst 0, 1) := by decide +kernel
theorem dX5_write_14 : decode cX5_write 14 = .ok (.aload_n 0, 1) := by decide +kernel
theorem dX5_write_15 : decode cX5_write 15 = .ok (.getfield 38, 3) := by decide +kernel
theorem dX5_write_18 : decode cX5_write 18 = .ok (.iload_n 1, 1) := by decide +kernel
theorem dX5_write_19 : decode cX5_write 19 = .ok (.iaload, 1) := by decide +kernel
theorem dX5_write_20 : decode cX5_write 20 = .ok (.iconst 1, 1) := by decide +kernel
theorem dX5_write_21 : decode cX5_write 21 = .ok (.isub, 1) := by decide +kernel
theorem dX5_write_22 : decode cX5_write 22 = .ok (.invokestatic 48, 3) := by decide +kernel
theorem dX5_write_25 : decode cX5_write 25 = .ok (.ifCond .ne 6, 3) := by decide +kernel
theorem dX5_write_28 : decode cX5_write 28 = .ok (.iconst 0, 1) := by decide +kernel
theorem dX5_write_29 : decode cX5_write 29 = .ok (.istore 4, 2) := by decide +kernel
theorem dX5_write_31 : decode cX5_write 31 = .ok (.iload 4, 2) := by decide +kernel
theorem dX5_write_33 : decode cX5_write 33 = .ok (.ifCond .lt 10, 3) := by decide +kernel
theorem dX5_write_36 : decode cX5_write 36 = .ok (.aload_n 0, 1) := by decide +kernel
theorem dX5_write_37 : decode cX5_write 37 = .ok (.iload 4, 2) := by decide +kernel
theorem dX5_write_39 : decode cX5_write 39 = .ok (.invokevirtual 103, 3) := by decide +kernel
theorem dX5_write_42 : decode cX5_write 42 = .ok (.ireturn, 1) := by decide +kernel
theorem dX5_write_43 : decode cX5_write 43 = .ok (.aload_n 0, 1) := by decide +kernel
theorem dX5_write_44 : decode cX5_write 44 = .ok (.getfield 41, 3) := by decide +kernel
theorem dX5_write_47 : decode cX5_write 47 = .ok (.bipush 40, 2) := by decide +kernel
theorem dX5_write_49 : decode cX5_write 49 = .ok (.iload_n 1, 1) := by decide +kernel
theorem dX5_write_50 : decode cX5_write 50 = .ok (.imul, 1) := by decide +kernel
theorem dX5_write_51 : decode cX5_write 51 = .ok (.iload_n 2, 1) := by decide +kernel
theorem dX5_write_52 : decode cX5_write 52 = .ok (.iadd, 1) := by decide +kernel
theorem dX5_write_53 : decode cX5_write 53 = .ok (.aload_n 0, 1) := by decide +kernel
theorem dX5_write_54 : decode cX5_write 54 = .ok (.getfield 35, 3) := by decide +kernel
theorem dX5_write_57 : decode cX5_write 57 = .ok (.iload_n 1, 1) := by decide +kernel
theorem dX5_write_58 : decode cX5_write 58 = .ok (.iaload, 1) := by decide +kernel
theorem dX5_write_59 : decode cX5_write 59 = .ok (.bipush 8, 2) := by decide +kernel
theorem dX5_write_61 : decode cX5_write 61 = .ok (.if_icmp .ne 8, 3) := by decide +kernel
theorem dX5_write_64 : decode cX5_write 64 = .ok (.iload_n 3, 1) := by decide +kernel
theorem dX5_write_65 : decode cX5_write 65 = .ok (.i2b, 1) := by decide +kernel
theorem dX5_write_66 : decode cX5_write 66 = .ok (.goto 20, 3) := by decide +kernel
theorem dX5_write_69 : decode cX5_write 69 = .ok (.aload_n 0, 1) := by decide +kernel
theorem dX5_write_70 : decode cX5_write 70 = .ok (.getfield 35, 3) := by decide +kernel
theorem dX5_write_73 : decode cX5_write 73 = .ok (.iload_n 1, 1) := by decide +kernel
theorem dX5_write_74 : decode cX5_write 74 = .ok (.iaload, 1) := by decide +kernel
theorem dX5_write_75 : decode cX5_write 75 = .ok (.bipush 16, 2) := by decide +kernel
theorem dX5_write_77 : decode cX5_write 77 = .ok (.if_icmp .ne 8, 3) := by decide +kernel
theorem dX5_write_80 : decode cX5_write 80 = .ok (.iload_n 3, 1) := by decide +kernel
theorem dX5_write_81 : decode cX5_write 81 = .ok (.i2s, 1) := by decide +kernel
theorem dX5_write_82 : decode cX5_write 82 = .ok (.goto 4, 3) := by decide +kernel
theorem dX5_write_85 : decode cX5_write 85 = .ok (.iload_n 3, 1) := by decide +kernel
theorem dX5_write_86 : decode cX5_write 86 = .ok (.iastore, 1) := by decide +kernel
theorem dX5_write_87 : decode cX5_write 87 = .ok (.iconst 1, 1) := by decide +kernel
theorem dX5_write_88 : decode cX5_write 88 = .ok (.ireturn, 1) := by decide +kernel
set_option maxRecDepth 20000 in
set_option maxHeartbeats 4000000 in
theorem c_X5_writeA {K : Cx} {x : Int32} {y : Int32} {v : Int32} {m : TM} (hb : outI x 0 3 = true) : CT yX5_write cX5_write 5 (some .int) 3 63 K [.ref 49, .int x, .int y, .int v] (m) (some (.int (-1000001))) (fnm m 0) := by
  refine ct_ofd (n := 1) (by decide +kernel) rfl rfl ?_
  show XX RX5 cX5_write 5 (some .int) 3 63 K 0 [some (.ref 49), some (.int x), some (.int y), some (.int v), none] [] (m) (fun r1 m1 => r1 = (some (.int (-1000001))) ∧ m1 = fnm m 0)
  refine x_aload_n (q := 1) dX5_write_0 rfl rfl ?_
  refine x_iload_n (q := 2) dX5_write_1 rfl rfl ?_
  refine x_callV1v (q := 5) dX5_write_2 rfl ml_X5_158 mv_X5_wrongSheet rv5 rfl (c_X5_wsA hb) (Nat.le_of_ble_eq_true rfl) ⟨by decide, by decide⟩ ?_
  refine x_istore (q := 7) dX5_write_5 rfl (by decide) rfl rfl ?_
  refine x_iload (q := 9) dX5_write_7 rfl rfl ?_
  refine x_if_ge (q := 12) (t := 31) dX5_write_9 rfl (by decide) (fun _ => ?_) (fun h => absurd (by decide) h)
  refine x_iload (q := 33) dX5_write_31 rfl rfl ?_
  refine x_if_lt (q := 36) (t := 43) dX5_write_33 rfl (by decide) (fun h => absurd h (by decide)) (fun _ => ?_)
  refine x_aload_n (q := 37) dX5_write_36 rfl rfl ?_
  refine x_iload (q := 39) dX5_write_37 rfl rfl ?_
  refine x_callV1v (q := 42) dX5_write_39 rfl ml_X5_103 mv_X5_no rv5 rfl (c_X5_nox (w := 0) (x := -1000001) (by decide) (by decide)) (Nat.le_of_ble_eq_true rfl) ⟨by decide, by decide⟩ ?_
  refine x_ireturn dX5_write_42 rfl rfl ?_
  exact ⟨rfl, rfl⟩
set_option maxRecDepth 20000 in
set_option maxHeartbeats 4000000 in
theorem c_X5_writeB {K : Cx} {s : Nat} {y : Int32} {v : Int32} {m : TM} (hs : s < 4) (hb : m.1 58 s = 0) : CT yX5_write cX5_write 5 (some .int) 3 63 K [.ref 49, .int (nI s), .int y, .int v] (m) (some (.int (-1000006))) (fnm m 5) := by
  refine ct_ofd (n := 1) (by decide +kernel) rfl rfl ?_
  show XX RX5 cX5_write 5 (some .int) 3 63 K 0 [some (.ref 49), some (.int (nI s)), some (.int y), some (.int v), none] [] (m) (fun r1 m1 => r1 = (some (.int (-1000006))) ∧ m1 = fnm m 5)
  refine x_aload_n (q := 1) dX5_write_0 rfl rfl ?_
  refine x_iload_n (q := 2) dX5_write_1 rfl rfl ?_
  refine x_callV1v (q := 5) dX5_write_2 rfl ml_X5_158 mv_X5_wrongSheet rv5 rfl (c_X5_wsB hs hb) (Nat.le_of_ble_eq_true rfl) ⟨by decide, by decide⟩ ?_
  refine x_istore (q := 7) dX5_write_5 rfl (by decide) rfl rfl ?_
  refine x_iload (q := 9) dX5_write_7 rfl rfl ?_
  refine x_if_ge (q := 12) (t := 31) dX5_write_9 rfl (by decide) (fun _ => ?_) (fun h => absurd (by decide) h)
  refine x_iload (q := 33) dX5_write_31 rfl rfl ?_
  refine x_if_lt (q := 36) (t := 43) dX5_write_33 rfl (by decide) (fun h => absurd h (by decide)) (fun _ => ?_)
  refine x_aload_n (q := 37) dX5_write_36 rfl rfl ?_
  refine x_iload (q := 39) dX5_write_37 rfl rfl ?_
  refine x_callV1v (q := 42) dX5_write_39 rfl ml_X5_103 mv_X5_no rv5 rfl (c_X5_nox (w := 5) (x := -1000006) (by decide) (by decide)) (Nat.le_of_ble_eq_true rfl) ⟨by decide, by decide⟩ ?_
  refine x_ireturn dX5_write_42 rfl rfl ?_
  exact ⟨rfl, rfl⟩
set_option maxRecDepth 20000 in
set_option maxHeartbeats 4000000 in
theorem c_X5_write {K : Cx} {s z : Nat} {y v : Int32} {m : TM} (hb : ¬ m.1 58 s = 0) (hs : s < 4) (hz : m.1 59 s = nI z) (hz40 : z ≤ 40) : CT yX5_write cX5_write 5 (some .int) 3 63 K [.ref 49, .int (nI s), .int y, .int v] (m) (some (.int ((if (outI y 0 (nI z - 1)) = true then -1000001 else 1)))) ((if (outI y 0 (nI z - 1)) = true then fnm m 0 else st1 m 60 (40 * s + cl y) (nrw (m.1 58 s) v))) := by
  refine ct_ofd (n := 1) (by decide +kernel) rfl rfl ?_
  show XX RX5 cX5_write 5 (some .int) 3 63 K 0 [some (.ref 49), some (.int (nI s)), some (.int y), some (.int v), none] [] (m) (fun r1 m1 => r1 = (some (.int ((if (outI y 0 (nI z - 1)) = true then -1000001 else 1)))) ∧ m1 = (if (outI y 0 (nI z - 1)) = true then fnm m 0 else st1 m 60 (40 * s + cl y) (nrw (m.1 58 s) v)))
  refine x_aload_n (q := 1) dX5_write_0 rfl rfl ?_
  refine x_iload_n (q := 2) dX5_write_1 rfl rfl ?_
  refine x_callV1v (q := 5) dX5_write_2 rfl ml_X5_158 mv_X5_wrongSheet rv5 rfl (c_X5_wsC hs hb) (Nat.le_of_ble_eq_true rfl) ⟨by decide, by decide⟩ ?_
  refine x_istore (q := 7) dX5_write_5 rfl (by decide) rfl rfl ?_
  refine x_iload (q := 9) dX5_write_7 rfl rfl ?_
  refine x_if_ge (q := 12) (t := 31) dX5_write_9 rfl (by decide) (fun h => absurd h (by decide)) (fun _ => ?_)
  refine x_iload_n (q := 13) dX5_write_12 rfl rfl ?_
  refine x_iconst (q := 14) (v := 0) dX5_write_13 rfl (by decide) ?_
  refine x_aload_n (q := 15) dX5_write_14 rfl rfl ?_
  refine x_getR (q := 18) dX5_write_15 rfl fl_X5_38 (or5_sizes) ?_
  refine x_iload_n (q := 19) dX5_write_18 rfl rfl ?_
  refine x_iald (q := 20) dX5_write_19 rfl (ar_59) (ix_nI hs (by decide)) (Nat.zero_add _) ?_
  rw [hz]
  refine x_iconst (q := 21) (v := 1) dX5_write_20 rfl (by decide) ?_
  refine x_isub (q := 22) dX5_write_21 rfl ?_
  refine x_callS3v (q := 25) dX5_write_22 rfl ml_X5_48 ms_X5_in1 c_X5_in1 (Nat.le_of_ble_eq_true rfl) ⟨by decide, by decide⟩ ?_
  refine x_ifB_ne (q := 28) (t := 31) dX5_write_25 rfl (by decide) (fun h25 => ?_) (fun h25 => ?_)
  · replace h25 := in_t h25
    refine x_iload (q := 33) dX5_write_31 rfl rfl ?_
    refine x_if_lt (q := 36) (t := 43) dX5_write_33 rfl (by decide) (fun _ => ?_) (fun h => absurd (by decide) h)
    refine x_aload_n (q := 44) dX5_write_43 rfl rfl ?_
    refine x_getR (q := 47) dX5_write_44 rfl fl_X5_41 (or5_cells) ?_
    refine x_bipush (q := 49) (v := 40) dX5_write_47 rfl (by decide) ?_
    refine x_iload_n (q := 50) dX5_write_49 rfl rfl ?_
    refine x_imul (q := 51) dX5_write_50 rfl ?_
    refine x_iload_n (q := 52) dX5_write_51 rfl rfl ?_
    refine x_iadd (q := 53) dX5_write_52 rfl ?_
    refine x_aload_n (q := 54) dX5_write_53 rfl rfl ?_
    refine x_getR (q := 57) dX5_write_54 rfl fl_X5_35 (or5_widths) ?_
    refine x_iload_n (q := 58) dX5_write_57 rfl rfl ?_
    refine x_iald (q := 59) dX5_write_58 rfl (ar_58) (ix_nI hs (by decide)) (Nat.zero_add _) ?_
    refine x_bipush (q := 61) (v := 8) dX5_write_59 rfl (by decide) ?_
    refine x_icmp_ne (q := 64) (t := 69) dX5_write_61 rfl (by decide) (fun h61 => ?_) (fun h61 => ?_)
    · refine x_aload_n (q := 70) dX5_write_69 rfl rfl ?_
      refine x_getR (q := 73) dX5_write_70 rfl fl_X5_35 (or5_widths) ?_
      refine x_iload_n (q := 74) dX5_write_73 rfl rfl ?_
      refine x_iald (q := 75) dX5_write_74 rfl (ar_58) (ix_nI hs (by decide)) (Nat.zero_add _) ?_
      refine x_bipush (q := 77) (v := 16) dX5_write_75 rfl (by decide) ?_
      refine x_icmp_ne (q := 80) (t := 85) dX5_write_77 rfl (by decide) (fun h77 => ?_) (fun h77 => ?_)
      · refine x_iload_n (q := 86) dX5_write_85 rfl rfl ?_
        refine x_iast (q := 87) dX5_write_86 rfl (ar_60) (by rw [jnI_of (ix_len h25 hz40).1.1]; exact ix_cel hs (ix_len h25 hz40).1.2.2) (Nat.zero_add _) rfl ?_
        refine x_iconst (q := 88) (v := 1) dX5_write_87 rfl (by decide) ?_
        refine x_ireturn dX5_write_88 rfl rfl ?_
        exact ⟨by simp [h25], by simp [h25, nrw, cl, h61, h77]⟩
      refine x_iload_n (q := 81) dX5_write_80 rfl rfl ?_
      refine x_i2s (q := 82) dX5_write_81 rfl ?_
      refine x_goto (q := 86) dX5_write_82 (by decide) ?_
      refine x_iast (q := 87) dX5_write_86 rfl (ar_60) (by rw [jnI_of (ix_len h25 hz40).1.1]; exact ix_cel hs (ix_len h25 hz40).1.2.2) (Nat.zero_add _) rfl ?_
      refine x_iconst (q := 88) (v := 1) dX5_write_87 rfl (by decide) ?_
      refine x_ireturn dX5_write_88 rfl rfl ?_
      exact ⟨by simp [h25], by simp [h25, nrw, cl, h61, h77]⟩
    refine x_iload_n (q := 65) dX5_write_64 rfl rfl ?_
    refine x_i2b (q := 66) dX5_write_65 rfl ?_
    refine x_goto (q := 86) dX5_write_66 (by decide) ?_
    refine x_iast (q := 87) dX5_write_86 rfl (ar_60) (by rw [jnI_of (ix_len h25 hz40).1.1]; exact ix_cel hs (ix_len h25 hz40).1.2.2) (Nat.zero_add _) rfl ?_
    refine x_iconst (q := 88) (v := 1) dX5_write_87 rfl (by decide) ?_
    refine x_ireturn dX5_write_88 rfl rfl ?_
    exact ⟨by simp [h25], by simp [h25, nrw, cl, h61]⟩
  replace h25 := in_f h25
  refine x_iconst (q := 29) (v := 0) dX5_write_28 rfl (by decide) ?_
  refine x_istore (q := 31) dX5_write_29 rfl (by decide) rfl rfl ?_
  refine x_iload (q := 33) dX5_write_31 rfl rfl ?_
  refine x_if_lt (q := 36) (t := 43) dX5_write_33 rfl (by decide) (fun h => absurd h (by decide)) (fun _ => ?_)
  refine x_aload_n (q := 37) dX5_write_36 rfl rfl ?_
  refine x_iload (q := 39) dX5_write_37 rfl rfl ?_
  refine x_callV1v (q := 42) dX5_write_39 rfl ml_X5_103 mv_X5_no rv5 rfl (c_X5_nox (w := 0) (x := -1000001) (by decide) (by decide)) (Nat.le_of_ble_eq_true rfl) ⟨by decide, by decide⟩ ?_
  refine x_ireturn dX5_write_42 rfl rfl ?_
  exact ⟨by simp [h25], by simp [h25]⟩
theorem dX5_copy_0 : decode cX5_copy 0 = .ok (.iload_n 1, 1) := by decide +kernel
theorem dX5_copy_1 : decode cX5_copy 1 = .ok (.invokestatic 155, 3) := by decide +kernel
theorem dX5_copy_4 : decode cX5_copy 4 = .ok (.ifCond .eq 10, 3) := by decide +kernel
theorem dX5_copy_7 : decode cX5_copy 7 = .ok (.iload_n 3, 1) := by decide +kernel
theorem dX5_copy_8 : decode cX5_copy 8 = .ok (.invokestatic 155, 3) := by decide +kernel
theorem dX5_copy_11 : decode cX5_copy 11 = .ok (.ifCond .ne 9, 3) := by decide +kernel
theorem dX5_copy_14 : decode cX5_copy 14 = .ok (.aload_n 0, 1) := by decide +kernel
theorem dX5_copy_15 : decode cX5_copy 15 = .ok (.iconst 0, 1) := by decide +kernel
theorem dX5_copy_16 : decode cX5_copy 16 = .ok (.invokevirtual 103, 3) := by decide +kernel
theorem dX5_copy_19 : decode cX5_copy 19 = .ok (.ireturn, 1) := by decide +kernel
theorem dX5_copy_20 : decode cX5_copy 20 = .ok (.aload_n 0, 1) := by decide +kernel
theorem dX5_copy_21 : decode cX5_copy 21 = .ok (.getfield 35, 3) := by decide +kernel
theorem dX5_copy_24 : decode cX5_copy 24 = .ok (.iload_n 1, 1) := by decide +kernel
theorem dX5_copy_25 : decode cX5_copy 25 = .ok (.iaload, 1) := by decide +kernel
theorem dX5_copy_26 : decode cX5_copy 26 = .ok (.ifCond .eq 12, 3) := by decide +kernel
theorem dX5_copy_29 : decode cX5_copy 29 = .ok (.aload_n 0, 1) := by decide +kernel
theorem dX5_copy_30 : decode cX5_copy 30 = .ok (.getfield 35, 3) := by decide +kernel
theorem dX5_copy_33 : decode cX5_copy 33 = .ok (.iload_n 3, 1) := by decide +kernel
theorem dX5_copy_34 : decode cX5_copy 34 = .ok (.iaload, 1) := by decide +kernel
theorem dX5_copy_35 : decode cX5_copy 35 = .ok (.ifCond .ne 9, 3) := by decide +kernel
theorem dX5_copy_38 : decode cX5_copy 38 = .ok (.aload_n 0, 1) := by decide +kernel
theorem dX5_copy_39 : decode cX5_copy 39 = .ok (.iconst 5, 1) := by decide +kernel
theorem dX5_copy_40 : decode cX5_copy 40 = .ok (.invokevirtual 103, 3) := by decide +kernel
theorem dX5_copy_43 : decode cX5_copy 43 = .ok (.ireturn, 1) := by decide +kernel
theorem dX5_copy_44 : decode cX5_copy 44 = .ok (.aload_n 0, 1) := by decide +kernel
theorem dX5_copy_45 : decode cX5_copy 45 = .ok (.getfield 35, 3) := by decide +kernel
theorem dX5_copy_48 : decode cX5_copy 48 = .ok (.iload_n 1, 1) := by decide +kernel
theorem dX5_copy_49 : decode cX5_copy 49 = .ok (.iaload, 1) := by decide +kernel
theorem dX5_copy_50 : decode cX5_copy 50 = .ok (.aload_n 0, 1) := by decide +kernel
theorem dX5_copy_51 : decode cX5_copy 51 = .ok (.getfield 35, 3) := by decide +kernel
theorem dX5_copy_54 : decode cX5_copy 54 = .ok (.iload_n 3, 1) := by decide +kernel
theorem dX5_copy_55 : decode cX5_copy 55 = .ok (.iaload, 1) := by decide +kernel
theorem dX5_copy_56 : decode cX5_copy 56 = .ok (.if_icmp .eq 9, 3) := by decide +kernel
theorem dX5_copy_59 : decode cX5_copy 59 = .ok (.aload_n 0, 1) := by decide +kernel
theorem dX5_copy_60 : decode cX5_copy 60 = .ok (.iconst 2, 1) := by decide +kernel
theorem dX5_copy_61 : decode cX5_copy 61 = .ok (.invokevirtual 103, 3) := by decide +kernel
theorem dX5_copy_64 : decode cX5_copy 64 = .ok (.ireturn, 1) := by decide +kernel
theorem dX5_copy_65 : decode cX5_copy 65 = .ok (.iload 5, 2) := by decide +kernel
theorem dX5_copy_67 : decode cX5_copy 67 = .ok (.ifCond .lt 39, 3) := by decide +kernel
theorem dX5_copy_70 : decode cX5_copy 70 = .ok (.iload_n 2, 1) := by decide +kernel
theorem dX5_copy_71 : decode cX5_copy 71 = .ok (.ifCond .lt 35, 3) := by decide +kernel
theorem dX5_copy_74 : decode cX5_copy 74 = .ok (.iload 4, 2) := by decide +kernel
theorem dX5_copy_76 : decode cX5_copy 76 = .ok (.ifCond .lt 30, 3) := by decide +kernel
theorem dX5_copy_79 : decode cX5_copy 79 = .ok (.iload_n 2, 1) := by decide +kernel
theorem dX5_copy_80 : decode cX5_copy 80 = .ok (.aload_n 0, 1) := by decide +kernel
theorem dX5_copy_81 : decode cX5_copy 81 = .ok (.getfield 38, 3) := by decide +kernel
theorem dX5_copy_84 : decode cX5_copy 84 = .ok (.iload_n 1, 1) := by decide +kernel
theorem dX5_copy_85 : decode cX5_copy 85 = .ok (.iaload, 1) := by decide +kernel
theorem dX5_copy_86 : decode cX5_copy 86 = .ok (.iload 5, 2) := by decide +kernel
theorem dX5_copy_88 : decode cX5_copy 88 = .ok (.isub, 1) := by decide +kernel
theorem dX5_copy_89 : decode cX5_copy 89 = .ok (.if_icmp .gt 17, 3) := by decide +kernel
theorem dX5_copy_92 : decode cX5_copy 92 = .ok (.iload 4, 2) := by decide +kernel
theorem dX5_copy_94 : decode cX5_copy 94 = .ok (.aload_n 0, 1) := by decide +kernel
theorem dX5_copy_95 : decode cX5_copy 95 = .ok (.getfield 38, 3) := by decide +kernel
theorem dX5_copy_98 : decode cX5_copy 98 = .ok (.iload_n 3, 1) := by decide +kernel
theorem dX5_copy_99 : decode cX5_copy 99 = .ok (.iaload, 1) := by decide +kernel
theorem dX5_copy_100 : decode cX5_copy 100 = .ok (.iload 5, 2) := by decide +kernel
theorem dX5_copy_102 : decode cX5_copy 102 = .ok (.isub, 1) := by decide +kernel
theorem dX5_copy_103 : decode cX5_copy 103 = .ok (.if_icmp .le 9, 3) := by decide +kernel
theorem dX5_copy_106 : decode cX5_copy 106 = .ok (.aload_n 0, 1) := by decide +kernel
theorem dX5_copy_107 : decode cX5_copy 107 = .ok (.iconst 0, 1) := by decide +kernel
theorem dX5_copy_108 : decode cX5_copy 108 = .ok (.invokevirtual 103, 3) := by decide +kernel
theorem dX5_copy_111 : decode cX5_copy 111 = .ok (.ireturn, 1) := by decide +kernel
theorem dX5_copy_112 : decode cX5_copy 112 = .ok (.iconst 0, 1) := by decide +kernel
theorem dX5_copy_113 : decode cX5_copy 113 = .ok (.istore 6, 2) := by decide +kernel
theorem dX5_copy_115 : decode cX5_copy 115 = .ok (.iload 6, 2) := by decide +kernel
theorem dX5_copy_117 : decode cX5_copy 117 = .ok (.iload 5, 2) := by decide +kernel
theorem dX5_copy_119 : decode cX5_copy 119 = .ok (.if_icmp .ge 30, 3) := by decide +kernel
theorem dX5_copy_122 : decode cX5_copy 122 = .ok (.aload_n 0, 1) := by decide +kernel
theorem dX5_copy_123 : decode cX5_copy 123 = .ok (.getfield 44, 3) := by decide +kernel
theorem dX5_copy_126 : decode cX5_copy 126 = .ok (.iload 6, 2) := by decide +kernel
theorem dX5_copy_128 : decode cX5_copy 128 = .ok (.aload_n 0, 1) := by decide +kernel
theorem dX5_copy_129 : decode cX5_copy 129 = .ok (.getfield 41, 3) := by decide +kernel
theorem dX5_copy_132 : decode cX5_copy 132 = .ok (.bipush 40, 2) := by decide +kernel
theorem dX5_copy_134 : decode cX5_copy 134 = .ok (.iload_n 1, 1) := by decide +kernel
theorem dX5_copy_135 : decode cX5_copy 135 = .ok (.imul, 1) := by decide +kernel
theorem dX5_copy_136 : decode cX5_copy 136 = .ok (.iload_n 2, 1) := by decide +kernel
theorem dX5_copy_137 : decode cX5_copy 137 = .ok (.iadd, 1) := by decide +kernel
theorem dX5_copy_138 : decode cX5_copy 138 = .ok (.iload 6, 2) := by decide +kernel
theorem dX5_copy_140 : decode cX5_copy 140 = .ok (.iadd, 1) := by decide +kernel
theorem dX5_copy_141 : decode cX5_copy 141 = .ok (.iaload, 1) := by decide +kernel
theorem dX5_copy_142 : decode cX5_copy 142 = .ok (.iastore, 1) := by decide +kernel
theorem dX5_copy_143 : decode cX5_copy 143 = .ok (.iinc 6 1, 3) := by decide +kernel
theorem dX5_copy_146 : decode cX5_copy 146 = .ok (.goto (-31), 3) := by decide +kernel
theorem dX5_copy_149 : decode cX5_copy 149 = .ok (.iconst 0, 1) := by decide +kernel
theorem dX5_copy_150 : decode cX5_copy 150 = .ok (.istore 6, 2) := by decide +kernel
theorem dX5_copy_152 : decode cX5_copy 152 = .ok (.iload 6, 2) := by decide +kernel
theorem dX5_copy_154 : decode cX5_copy 154 = .ok (.iload 5, 2) := by decide +kernel
theorem dX5_copy_156 : decode cX5_copy 156 = .ok (.if_icmp .ge 31, 3) := by decide +kernel
theorem dX5_copy_159 : decode cX5_copy 159 = .ok (.aload_n 0, 1) := by decide +kernel
theorem dX5_copy_160 : decode cX5_copy 160 = .ok (.getfield 41, 3) := by decide +kernel
theorem dX5_copy_163 : decode cX5_copy 163 = .ok (.bipush 40, 2) := by decide +kernel
theorem dX5_copy_165 : decode cX5_copy 165 = .ok (.iload_n 3, 1) := by decide +kernel
theorem dX5_copy_166 : decode cX5_copy 166 = .ok (.imul, 1) := by decide +kernel
theorem dX5_copy_167 : decode cX5_copy 167 = .ok (.iload 4, 2) := by decide +kernel
theorem dX5_copy_169 : decode cX5_copy 169 = .ok (.iadd, 1) := by decide +kernel
theorem dX5_copy_170 : decode cX5_copy 170 = .ok (.iload 6, 2) := by decide +kernel
theorem dX5_copy_172 : decode cX5_copy 172 = .ok (.iadd, 1) := by decide +kernel
theorem dX5_copy_173 : decode cX5_copy 173 = .ok (.aload_n 0, 1) := by decide +kernel
theorem dX5_copy_174 : decode cX5_copy 174 = .ok (.getfield 44, 3) := by decide +kernel
theorem dX5_copy_177 : decode cX5_copy 177 = .ok (.iload 6, 2) := by decide +kernel
theorem dX5_copy_179 : decode cX5_copy 179 = .ok (.iaload, 1) := by decide +kernel
theorem dX5_copy_180 : decode cX5_copy 180 = .ok (.iastore, 1) := by decide +kernel
theorem dX5_copy_181 : decode cX5_copy 181 = .ok (.iinc 6 1, 3) := by decide +kernel
theorem dX5_copy_184 : decode cX5_copy 184 = .ok (.goto (-32), 3) := by decide +kernel
theorem dX5_copy_187 : decode cX5_copy 187 = .ok (.iload 5, 2) := by decide +kernel
theorem dX5_copy_189 : decode cX5_copy 189 = .ok (.ireturn, 1) := by decide +kernel
theorem cpR_0 {s u : Nat → Int32} {a d : Nat} : cpR s u a d 0 = s := by funext i; unfold cpR; rw [if_neg (by omega)]
theorem cpR_s {s u : Nat → Int32} {a d j : Nat} : upd (cpR s u a d j) (d + j) (u (a + j)) = cpR s u a d (j + 1) := by
  funext i
  unfold upd cpR
  by_cases h : i = d + j
  · rw [if_pos h, if_pos (by omega)]
    exact congrArg u (by omega)
  · rw [if_neg h]
    by_cases h2 : d ≤ i ∧ i < d + j
    · rw [if_pos h2, if_pos (by omega)]
    · rw [if_neg h2, if_neg (by omega)]
theorem ix_cel3 {s f j : Nat} (hs : s < 4) (hj : f + j < 40) : IX ((40 : Int32) * nI s + nI f + nI j) (40 * s + f + j) 160 := by
  rw [cel_ix, nI_add]
  exact ix_nI (by omega) (by decide)
set_option maxRecDepth 20000 in
set_option maxHeartbeats 4000000 in
theorem l_X5_copy2 {K : Cx} {a b f g c : Nat} {m : TM} (ha : a < 4) (hb : b < 4) (hf : f + c ≤ 40) (hg : g + c ≤ 40) : ∀ (n : Nat) (j : Nat), c - j < n → j ≤ c → XX RX5 cX5_copy 7 (some .int) 2 42 K 152 [some (.ref 49), some (.int (nI a)), some (.int (nI f)), some (.int (nI b)), some (.int (nI g)), some (.int (nI c)), some (.int (nI j))] [] (sr (sr m 61 (cpR (m.1 61) (m.1 60) (40 * a + f) 0 c)) 60 (cpR (m.1 60) (m.1 60) (40 * a + f) (40 * b + g) j)) (fun r1 m1 => r1 = (some (.int (nI c))) ∧ m1 = sr (sr m 61 (cpR (m.1 61) (m.1 60) (40 * a + f) 0 c)) 60 (cpR (m.1 60) (m.1 60) (40 * a + f) (40 * b + g) c)) := by
  intro n
  induction n with
  | zero => intro j hlt; exact absurd hlt (Nat.not_lt_zero _)
  | succ n ih =>
    intro j hlt hj
    refine x_iload (q := 154) dX5_copy_152 rfl rfl ?_
    refine x_iload (q := 156) dX5_copy_154 rfl rfl ?_
    refine x_icmp_ge (q := 159) (t := 187) dX5_copy_156 rfl (by decide) (fun h156 => ?_) (fun h156 => ?_)
    · refine x_iload (q := 189) dX5_copy_187 rfl rfl ?_
      refine x_ireturn dX5_copy_189 rfl rfl ?_
      have e : j = c := Nat.le_antisymm hj (lp_stop rfl (by omega) (by omega) h156)
      subst e
      exact ⟨rfl, rfl⟩
    have hjn : j < c := lp_go rfl (by omega) (by omega) h156
    refine x_aload_n (q := 160) dX5_copy_159 rfl rfl ?_
    refine x_getR (q := 163) dX5_copy_160 rfl fl_X5_41 (or5_cells) ?_
    refine x_bipush (q := 165) (v := 40) dX5_copy_163 rfl (by decide) ?_
    refine x_iload_n (q := 166) dX5_copy_165 rfl rfl ?_
    refine x_imul (q := 167) dX5_copy_166 rfl ?_
    refine x_iload (q := 169) dX5_copy_167 rfl rfl ?_
    refine x_iadd (q := 170) dX5_copy_169 rfl ?_
    refine x_iload (q := 172) dX5_copy_170 rfl rfl ?_
    refine x_iadd (q := 173) dX5_copy_172 rfl ?_
    refine x_aload_n (q := 174) dX5_copy_173 rfl rfl ?_
    refine x_getR (q := 177) dX5_copy_174 rfl fl_X5_44 (or5_carried) ?_
    refine x_iload (q := 179) dX5_copy_177 rfl rfl ?_
    refine x_iald (q := 180) dX5_copy_179 rfl (ar_61) (ix_nI (n := 40) (by omega) (by decide)) (Nat.zero_add _) ?_
    refine x_iastr (q := 181) dX5_copy_180 rfl (ar_60) (ix_cel3 hb (by omega)) (Nat.zero_add _)  ?_
    refine x_iinc (q := 184) (v := nI (j + 1)) dX5_copy_181 rfl rfl (jnI_s j) (by decide) rfl rfl ?_
    refine x_goto (q := 152) dX5_copy_184 (by decide) ?_
    have e1 : (sr (sr m 61 (cpR (m.1 61) (m.1 60) (40 * a + f) 0 c)) 60 (cpR (m.1 60) (m.1 60) (40 * a + f) (40 * b + g) j)).1 61 j = m.1 60 (40 * a + f + j) := by
      rw [sr_ne (by decide), sr_at]
      unfold cpR
      rw [if_pos (by omega)]
      exact congrArg (m.1 60) (by omega)
    rw [e1, cpR_s]
    exact ih (j + 1) (by omega) (by omega)
set_option maxRecDepth 20000 in
set_option maxHeartbeats 4000000 in
theorem l_X5_copy1 {K : Cx} {a b f g c : Nat} {m : TM} (ha : a < 4) (hb : b < 4) (hf : f + c ≤ 40) (hg : g + c ≤ 40) : ∀ (n : Nat) (j : Nat), c - j < n → j ≤ c → XX RX5 cX5_copy 7 (some .int) 2 42 K 115 [some (.ref 49), some (.int (nI a)), some (.int (nI f)), some (.int (nI b)), some (.int (nI g)), some (.int (nI c)), some (.int (nI j))] [] (sr m 61 (cpR (m.1 61) (m.1 60) (40 * a + f) 0 j)) (fun r1 m1 => r1 = (some (.int (nI c))) ∧ m1 = sr (sr m 61 (cpR (m.1 61) (m.1 60) (40 * a + f) 0 c)) 60 (cpR (m.1 60) (m.1 60) (40 * a + f) (40 * b + g) c)) := by
  intro n
  induction n with
  | zero => intro j hlt; exact absurd hlt (Nat.not_lt_zero _)
  | succ n ih =>
    intro j hlt hj
    refine x_iload (q := 117) dX5_copy_115 rfl rfl ?_
    refine x_iload (q := 119) dX5_copy_117 rfl rfl ?_
    refine x_icmp_ge (q := 122) (t := 149) dX5_copy_119 rfl (by decide) (fun h119 => ?_) (fun h119 => ?_)
    · have e : j = c := Nat.le_antisymm hj (lp_stop rfl (by omega) (by omega) h119)
      subst e
      refine x_iconst (q := 150) (v := 0) dX5_copy_149 rfl (by decide) ?_
      refine x_istore (q := 152) dX5_copy_150 rfl (by decide) rfl rfl ?_
      have h := l_X5_copy2 (K := K) (m := m) ha hb hf hg (j + 1) 0 (by omega) (by omega)
      rw [cpR_0] at h
      have e2 : sr (sr m 61 (cpR (m.1 61) (m.1 60) (40 * a + f) 0 j)) 60 (m.1 60) = (sr m 61 (cpR (m.1 61) (m.1 60) (40 * a + f) 0 j)) := by
        have h2 := sr_self (m := (sr m 61 (cpR (m.1 61) (m.1 60) (40 * a + f) 0 j))) (r := 60)
        rwa [sr_ne (by decide)] at h2
      rw [e2] at h
      exact h
    have hjn : j < c := lp_go rfl (by omega) (by omega) h119
    refine x_aload_n (q := 123) dX5_copy_122 rfl rfl ?_
    refine x_getR (q := 126) dX5_copy_123 rfl fl_X5_44 (or5_carried) ?_
    refine x_iload (q := 128) dX5_copy_126 rfl rfl ?_
    refine x_aload_n (q := 129) dX5_copy_128 rfl rfl ?_
    refine x_getR (q := 132) dX5_copy_129 rfl fl_X5_41 (or5_cells) ?_
    refine x_bipush (q := 134) (v := 40) dX5_copy_132 rfl (by decide) ?_
    refine x_iload_n (q := 135) dX5_copy_134 rfl rfl ?_
    refine x_imul (q := 136) dX5_copy_135 rfl ?_
    refine x_iload_n (q := 137) dX5_copy_136 rfl rfl ?_
    refine x_iadd (q := 138) dX5_copy_137 rfl ?_
    refine x_iload (q := 140) dX5_copy_138 rfl rfl ?_
    refine x_iadd (q := 141) dX5_copy_140 rfl ?_
    refine x_iald (q := 142) dX5_copy_141 rfl (ar_60) (ix_cel3 ha (by omega)) (Nat.zero_add _) ?_
    refine x_iastr (q := 143) dX5_copy_142 rfl (ar_61) (ix_nI (n := 40) (by omega) (by decide)) (Nat.zero_add _)  ?_
    refine x_iinc (q := 146) (v := nI (j + 1)) dX5_copy_143 rfl rfl (jnI_s j) (by decide) rfl rfl ?_
    refine x_goto (q := 115) dX5_copy_146 (by decide) ?_
    have e1 : (sr m 61 (cpR (m.1 61) (m.1 60) (40 * a + f) 0 j)).1 60 (40 * a + f + j) = m.1 60 (40 * a + f + j) := by rw [sr_ne (by decide)]
    rw [e1]
    have e2 := cpR_s (s := m.1 61) (u := m.1 60) (a := 40 * a + f) (d := 0) (j := j)
    rw [Nat.zero_add] at e2
    rw [e2]
    exact ih (j + 1) (by omega) (by omega)
set_option maxRecDepth 20000 in
set_option maxHeartbeats 4000000 in
theorem c_X5_copy {K : Cx} {x f t g n : Int32} {m : TM} (hZ : ∀ s, s < 4 → ∃ z, z ≤ 40 ∧ m.1 59 s = nI z) : CT yX5_copy cX5_copy 7 (some .int) 2 42 K [.ref 49, .int x, .int f, .int t, .int g, .int n] (m) (some (.int (if (outI x 0 3 || outI t 0 3) = true then -1000001 else if (decide (m.1 58 (cl x) = 0) || decide (m.1 58 (cl t) = 0)) = true then -1000006 else if ¬ m.1 58 (cl x) = m.1 58 (cl t) then -1000003 else if (hnF (m.1 59 (cl x)) f n || hnF (m.1 59 (cl t)) g n) = true then -1000001 else n))) (if (outI x 0 3 || outI t 0 3) = true then fnm m 0 else if (decide (m.1 58 (cl x) = 0) || decide (m.1 58 (cl t) = 0)) = true then fnm m 5 else if ¬ m.1 58 (cl x) = m.1 58 (cl t) then fnm m 2 else if (hnF (m.1 59 (cl x)) f n || hnF (m.1 59 (cl t)) g n) = true then fnm m 0 else sr (sr m 61 (cpR (m.1 61) (m.1 60) (40 * cl x + cl f) 0 (cl n))) 60 (cpR (m.1 60) (m.1 60) (40 * cl x + cl f) (40 * cl t + cl g) (cl n))) := by
  refine ct_ofd (n := 1) (by decide +kernel) rfl rfl ?_
  show XX RX5 cX5_copy 7 (some .int) 2 42 K 0 [some (.ref 49), some (.int x), some (.int f), some (.int t), some (.int g), some (.int n), none] [] (m) (fun r1 m1 => r1 = (some (.int (if (outI x 0 3 || outI t 0 3) = true then -1000001 else if (decide (m.1 58 (cl x) = 0) || decide (m.1 58 (cl t) = 0)) = true then -1000006 else if ¬ m.1 58 (cl x) = m.1 58 (cl t) then -1000003 else if (hnF (m.1 59 (cl x)) f n || hnF (m.1 59 (cl t)) g n) = true then -1000001 else n))) ∧ m1 = if (outI x 0 3 || outI t 0 3) = true then fnm m 0 else if (decide (m.1 58 (cl x) = 0) || decide (m.1 58 (cl t) = 0)) = true then fnm m 5 else if ¬ m.1 58 (cl x) = m.1 58 (cl t) then fnm m 2 else if (hnF (m.1 59 (cl x)) f n || hnF (m.1 59 (cl t)) g n) = true then fnm m 0 else sr (sr m 61 (cpR (m.1 61) (m.1 60) (40 * cl x + cl f) 0 (cl n))) 60 (cpR (m.1 60) (m.1 60) (40 * cl x + cl f) (40 * cl t + cl g) (cl n)))
  refine x_iload_n (q := 1) dX5_copy_0 rfl rfl ?_
  refine x_callS1v (q := 4) dX5_copy_1 rfl ml_X5_155 ms_X5_isSheet c_X5_isSheet (Nat.le_of_ble_eq_true rfl) ⟨by decide, by decide⟩ ?_
  refine x_ifB_eq (q := 7) (t := 14) dX5_copy_4 rfl (by decide) (fun h4 => ?_) (fun h4 => ?_)
  · replace h4 := in_f h4
    refine x_aload_n (q := 15) dX5_copy_14 rfl rfl ?_
    refine x_iconst (q := 16) (v := 0) dX5_copy_15 rfl (by decide) ?_
    refine x_callV1v (q := 19) dX5_copy_16 rfl ml_X5_103 mv_X5_no rv5 rfl (c_X5_nox (w := 0) (x := -1000001) (by decide) (by decide)) (Nat.le_of_ble_eq_true rfl) ⟨by decide, by decide⟩ ?_
    refine x_ireturn dX5_copy_19 rfl rfl ?_
    exact ⟨by simp [h4], by simp [h4]⟩
  replace h4 := in_t h4
  refine x_iload_n (q := 8) dX5_copy_7 rfl rfl ?_
  refine x_callS1v (q := 11) dX5_copy_8 rfl ml_X5_155 ms_X5_isSheet c_X5_isSheet (Nat.le_of_ble_eq_true rfl) ⟨by decide, by decide⟩ ?_
  refine x_ifB_ne (q := 14) (t := 20) dX5_copy_11 rfl (by decide) (fun h11 => ?_) (fun h11 => ?_)
  · replace h11 := in_t h11
    obtain ⟨a, ha, rfl⟩ : ∃ s, s < 4 ∧ x = nI s := ⟨cl x, (ix_out h4 (n := 4) (by decide)).2.2, jnI_of (ix_out h4 (n := 4) (by decide)).1⟩
    obtain ⟨b, hb, rfl⟩ : ∃ s, s < 4 ∧ t = nI s := ⟨cl t, (ix_out h11 (n := 4) (by decide)).2.2, jnI_of (ix_out h11 (n := 4) (by decide)).1⟩
    have ea : cl (nI a) = a := jnI_clamp (by omega)
    have eb : cl (nI b) = b := jnI_clamp (by omega)
    refine x_aload_n (q := 21) dX5_copy_20 rfl rfl ?_
    refine x_getR (q := 24) dX5_copy_21 rfl fl_X5_35 (or5_widths) ?_
    refine x_iload_n (q := 25) dX5_copy_24 rfl rfl ?_
    refine x_iald (q := 26) dX5_copy_25 rfl (ar_58) (ix_nI ha (by decide)) (Nat.zero_add _) ?_
    refine x_if_eq (q := 29) (t := 38) dX5_copy_26 rfl (by decide) (fun h26 => ?_) (fun h26 => ?_)
    · refine x_aload_n (q := 39) dX5_copy_38 rfl rfl ?_
      refine x_iconst (q := 40) (v := 5) dX5_copy_39 rfl (by decide) ?_
      refine x_callV1v (q := 43) dX5_copy_40 rfl ml_X5_103 mv_X5_no rv5 rfl (c_X5_nox (w := 5) (x := -1000006) (by decide) (by decide)) (Nat.le_of_ble_eq_true rfl) ⟨by decide, by decide⟩ ?_
      refine x_ireturn dX5_copy_43 rfl rfl ?_
      have h26c : (decide (m.1 58 a = 0) || decide (m.1 58 b = 0)) = true := by simp [h26]
      exact ⟨by simp only [h4, h11, ea, eb, h26c, Bool.or_self, Bool.false_eq_true, if_false, if_true], by simp only [h4, h11, ea, eb, h26c, Bool.or_self, Bool.false_eq_true, if_false, if_true]⟩
    refine x_aload_n (q := 30) dX5_copy_29 rfl rfl ?_
    refine x_getR (q := 33) dX5_copy_30 rfl fl_X5_35 (or5_widths) ?_
    refine x_iload_n (q := 34) dX5_copy_33 rfl rfl ?_
    refine x_iald (q := 35) dX5_copy_34 rfl (ar_58) (ix_nI hb (by decide)) (Nat.zero_add _) ?_
    refine x_if_ne (q := 38) (t := 44) dX5_copy_35 rfl (by decide) (fun h35 => ?_) (fun h35 => ?_)
    · refine x_aload_n (q := 45) dX5_copy_44 rfl rfl ?_
      refine x_getR (q := 48) dX5_copy_45 rfl fl_X5_35 (or5_widths) ?_
      refine x_iload_n (q := 49) dX5_copy_48 rfl rfl ?_
      refine x_iald (q := 50) dX5_copy_49 rfl (ar_58) (ix_nI ha (by decide)) (Nat.zero_add _) ?_
      refine x_aload_n (q := 51) dX5_copy_50 rfl rfl ?_
      refine x_getR (q := 54) dX5_copy_51 rfl fl_X5_35 (or5_widths) ?_
      refine x_iload_n (q := 55) dX5_copy_54 rfl rfl ?_
      refine x_iald (q := 56) dX5_copy_55 rfl (ar_58) (ix_nI hb (by decide)) (Nat.zero_add _) ?_
      refine x_icmp_eq (q := 59) (t := 65) dX5_copy_56 rfl (by decide) (fun h56 => ?_) (fun h56 => ?_)
      · refine x_iload (q := 67) dX5_copy_65 rfl rfl ?_
        refine x_if_lt (q := 70) (t := 106) dX5_copy_67 rfl (by decide) (fun h67 => ?_) (fun h67 => ?_)
        · refine x_aload_n (q := 107) dX5_copy_106 rfl rfl ?_
          refine x_iconst (q := 108) (v := 0) dX5_copy_107 rfl (by decide) ?_
          refine x_callV1v (q := 111) dX5_copy_108 rfl ml_X5_103 mv_X5_no rv5 rfl (c_X5_nox (w := 0) (x := -1000001) (by decide) (by decide)) (Nat.le_of_ble_eq_true rfl) ⟨by decide, by decide⟩ ?_
          refine x_ireturn dX5_copy_111 rfl rfl ?_
          have h26c : (decide (m.1 58 a = 0) || decide (m.1 58 b = 0)) = false := by simp [h26, h35]
          have hh : (hnF (m.1 59 a) f n || hnF (m.1 59 b) g n) = true := by unfold hnF; simp [h67]
          exact ⟨by simp only [h4, h11, ea, eb, h26c, hh, Bool.or_self, Bool.false_eq_true, if_false, if_true]; rw [if_neg (fun q => q h56)], by simp only [h4, h11, ea, eb, h26c, hh, Bool.or_self, Bool.false_eq_true, if_false, if_true]; rw [if_neg (fun q => q h56)]⟩
        refine x_iload_n (q := 71) dX5_copy_70 rfl rfl ?_
        refine x_if_lt (q := 74) (t := 106) dX5_copy_71 rfl (by decide) (fun h71 => ?_) (fun h71 => ?_)
        · refine x_aload_n (q := 107) dX5_copy_106 rfl rfl ?_
          refine x_iconst (q := 108) (v := 0) dX5_copy_107 rfl (by decide) ?_
          refine x_callV1v (q := 111) dX5_copy_108 rfl ml_X5_103 mv_X5_no rv5 rfl (c_X5_nox (w := 0) (x := -1000001) (by decide) (by decide)) (Nat.le_of_ble_eq_true rfl) ⟨by decide, by decide⟩ ?_
          refine x_ireturn dX5_copy_111 rfl rfl ?_
          have h26c : (decide (m.1 58 a = 0) || decide (m.1 58 b = 0)) = false := by simp [h26, h35]
          have hh : (hnF (m.1 59 a) f n || hnF (m.1 59 b) g n) = true := by unfold hnF; simp [h67, h71]
          exact ⟨by simp only [h4, h11, ea, eb, h26c, hh, Bool.or_self, Bool.false_eq_true, if_false, if_true]; rw [if_neg (fun q => q h56)], by simp only [h4, h11, ea, eb, h26c, hh, Bool.or_self, Bool.false_eq_true, if_false, if_true]; rw [if_neg (fun q => q h56)]⟩
        refine x_iload (q := 76) dX5_copy_74 rfl rfl ?_
        refine x_if_lt (q := 79) (t := 106) dX5_copy_76 rfl (by decide) (fun h76 => ?_) (fun h76 => ?_)
        · refine x_aload_n (q := 107) dX5_copy_106 rfl rfl ?_
          refine x_iconst (q := 108) (v := 0) dX5_copy_107 rfl (by decide) ?_
          refine x_callV1v (q := 111) dX5_copy_108 rfl ml_X5_103 mv_X5_no rv5 rfl (c_X5_nox (w := 0) (x := -1000001) (by decide) (by decide)) (Nat.le_of_ble_eq_true rfl) ⟨by decide, by decide⟩ ?_
          refine x_ireturn dX5_copy_111 rfl rfl ?_
          have h26c : (decide (m.1 58 a = 0) || decide (m.1 58 b = 0)) = false := by simp [h26, h35]
          have hh : (hnF (m.1 59 a) f n || hnF (m.1 59 b) g n) = true := by unfold hnF; simp [h67, h71, h76]
          exact ⟨by simp only [h4, h11, ea, eb, h26c, hh, Bool.or_self, Bool.false_eq_true, if_false, if_true]; rw [if_neg (fun q => q h56)], by simp only [h4, h11, ea, eb, h26c, hh, Bool.or_self, Bool.false_eq_true, if_false, if_true]; rw [if_neg (fun q => q h56)]⟩
        refine x_iload_n (q := 80) dX5_copy_79 rfl rfl ?_
        refine x_aload_n (q := 81) dX5_copy_80 rfl rfl ?_
        refine x_getR (q := 84) dX5_copy_81 rfl fl_X5_38 (or5_sizes) ?_
        refine x_iload_n (q := 85) dX5_copy_84 rfl rfl ?_
        refine x_iald (q := 86) dX5_copy_85 rfl (ar_59) (ix_nI ha (by decide)) (Nat.zero_add _) ?_
        refine x_iload (q := 88) dX5_copy_86 rfl rfl ?_
        refine x_isub (q := 89) dX5_copy_88 rfl ?_
        refine x_icmp_gt (q := 92) (t := 106) dX5_copy_89 rfl (by decide) (fun h89 => ?_) (fun h89 => ?_)
        · refine x_aload_n (q := 107) dX5_copy_106 rfl rfl ?_
          refine x_iconst (q := 108) (v := 0) dX5_copy_107 rfl (by decide) ?_
          refine x_callV1v (q := 111) dX5_copy_108 rfl ml_X5_103 mv_X5_no rv5 rfl (c_X5_nox (w := 0) (x := -1000001) (by decide) (by decide)) (Nat.le_of_ble_eq_true rfl) ⟨by decide, by decide⟩ ?_
          refine x_ireturn dX5_copy_111 rfl rfl ?_
          have h26c : (decide (m.1 58 a = 0) || decide (m.1 58 b = 0)) = false := by simp [h26, h35]
          have hh : (hnF (m.1 59 a) f n || hnF (m.1 59 b) g n) = true := by unfold hnF; simp [h67, h71, h76, h89]
          exact ⟨by simp only [h4, h11, ea, eb, h26c, hh, Bool.or_self, Bool.false_eq_true, if_false, if_true]; rw [if_neg (fun q => q h56)], by simp only [h4, h11, ea, eb, h26c, hh, Bool.or_self, Bool.false_eq_true, if_false, if_true]; rw [if_neg (fun q => q h56)]⟩
        refine x_iload (q := 94) dX5_copy_92 rfl rfl ?_
        refine x_aload_n (q := 95) dX5_copy_94 rfl rfl ?_
        refine x_getR (q := 98) dX5_copy_95 rfl fl_X5_38 (or5_sizes) ?_
        refine x_iload_n (q := 99) dX5_copy_98 rfl rfl ?_
        refine x_iald (q := 100) dX5_copy_99 rfl (ar_59) (ix_nI hb (by decide)) (Nat.zero_add _) ?_
        refine x_iload (q := 102) dX5_copy_100 rfl rfl ?_
        refine x_isub (q := 103) dX5_copy_102 rfl ?_
        refine x_icmp_le (q := 106) (t := 112) dX5_copy_103 rfl (by decide) (fun h103 => ?_) (fun h103 => ?_)
        · refine x_iconst (q := 113) (v := 0) dX5_copy_112 rfl (by decide) ?_
          refine x_istore (q := 115) dX5_copy_113 rfl (by decide) rfl rfl ?_
          have h26c : (decide (m.1 58 a = 0) || decide (m.1 58 b = 0)) = false := by simp [h26, h35]
          have hh1 : hnF (m.1 59 a) f n = false := by
            unfold hnF
            rw [decide_eq_false h71, decide_eq_false h67, decide_eq_true (Int32.not_lt.mp h89)]
            rfl
          have hh2 : hnF (m.1 59 b) g n = false := by
            unfold hnF
            rw [decide_eq_false h76, decide_eq_false h67, decide_eq_true h103]
            rfl
          obtain ⟨za, hza, eza⟩ := hZ a ha
          obtain ⟨zb, hzb, ezb⟩ := hZ b hb
          have h1 := hn_f eza hza hh1
          have h2 := hn_f ezb hzb hh2
          have hh : (hnF (m.1 59 a) f n || hnF (m.1 59 b) g n) = false := by rw [hh1, hh2]; rfl
          have key := l_X5_copy1 (K := K) (m := m) (f := cl f) (g := cl g) (c := cl n) ha hb (by omega) (by omega) (cl n + 1) 0 (by omega) (by omega)
          rw [cpR_0, sr_self, show nI (cl f) = f from (jnI_of h1.1).symm, show nI (cl g) = g from (jnI_of h2.1).symm, show nI (cl n) = n from (jnI_of h1.2.1).symm] at key
          simp only [h4, h11, ea, eb, h26c, hh, Bool.or_self, Bool.false_eq_true, if_false]
          rw [if_neg (fun q => q h56), if_neg (fun q => q h56)]
          exact key
        refine x_aload_n (q := 107) dX5_copy_106 rfl rfl ?_
        refine x_iconst (q := 108) (v := 0) dX5_copy_107 rfl (by decide) ?_
        refine x_callV1v (q := 111) dX5_copy_108 rfl ml_X5_103 mv_X5_no rv5 rfl (c_X5_nox (w := 0) (x := -1000001) (by decide) (by decide)) (Nat.le_of_ble_eq_true rfl) ⟨by decide, by decide⟩ ?_
        refine x_ireturn dX5_copy_111 rfl rfl ?_
        have h26c : (decide (m.1 58 a = 0) || decide (m.1 58 b = 0)) = false := by simp [h26, h35]
        have hh : (hnF (m.1 59 a) f n || hnF (m.1 59 b) g n) = true := by unfold hnF; simp [h67, h71, h76, h89, h103]
        exact ⟨by simp only [h4, h11, ea, eb, h26c, hh, Bool.or_self, Bool.false_eq_true, if_false, if_true]; rw [if_neg (fun q => q h56)], by simp only [h4, h11, ea, eb, h26c, hh, Bool.or_self, Bool.false_eq_true, if_false, if_true]; rw [if_neg (fun q => q h56)]⟩
      refine x_aload_n (q := 60) dX5_copy_59 rfl rfl ?_
      refine x_iconst (q := 61) (v := 2) dX5_copy_60 rfl (by decide) ?_
      refine x_callV1v (q := 64) dX5_copy_61 rfl ml_X5_103 mv_X5_no rv5 rfl (c_X5_nox (w := 2) (x := -1000003) (by decide) (by decide)) (Nat.le_of_ble_eq_true rfl) ⟨by decide, by decide⟩ ?_
      refine x_ireturn dX5_copy_64 rfl rfl ?_
      have h26c : (decide (m.1 58 a = 0) || decide (m.1 58 b = 0)) = false := by simp [h26, h35]
      exact ⟨by simp only [h4, h11, ea, eb, h26c, Bool.or_self, Bool.false_eq_true, if_false]; rw [if_pos h56], by simp only [h4, h11, ea, eb, h26c, Bool.or_self, Bool.false_eq_true, if_false]; rw [if_pos h56]⟩
    refine x_aload_n (q := 39) dX5_copy_38 rfl rfl ?_
    refine x_iconst (q := 40) (v := 5) dX5_copy_39 rfl (by decide) ?_
    refine x_callV1v (q := 43) dX5_copy_40 rfl ml_X5_103 mv_X5_no rv5 rfl (c_X5_nox (w := 5) (x := -1000006) (by decide) (by decide)) (Nat.le_of_ble_eq_true rfl) ⟨by decide, by decide⟩ ?_
    refine x_ireturn dX5_copy_43 rfl rfl ?_
    have h26c : (decide (m.1 58 a = 0) || decide (m.1 58 b = 0)) = true := by simp [h26, h35]
    exact ⟨by simp only [h4, h11, ea, eb, h26c, Bool.or_self, Bool.false_eq_true, if_false, if_true], by simp only [h4, h11, ea, eb, h26c, Bool.or_self, Bool.false_eq_true, if_false, if_true]⟩
  replace h11 := in_f h11
  refine x_aload_n (q := 15) dX5_copy_14 rfl rfl ?_
  refine x_iconst (q := 16) (v := 0) dX5_copy_15 rfl (by decide) ?_
  refine x_callV1v (q := 19) dX5_copy_16 rfl ml_X5_103 mv_X5_no rv5 rfl (c_X5_nox (w := 0) (x := -1000001) (by decide) (by decide)) (Nat.le_of_ble_eq_true rfl) ⟨by decide, by decide⟩ ?_
  refine x_ireturn dX5_copy_19 rfl rfl ?_
  exact ⟨by simp [h4, h11], by simp [h4, h11]⟩
theorem dX5_load_0 : decode cX5_load 0 = .ok (.aload_n 0, 1) := by decide +kernel
theorem dX5_load_1 : decode cX5_load 1 = .ok (.iload_n 1, 1) := by decide +kernel
theorem dX5_load_2 : decode cX5_load 2 = .ok (.invokevirtual 158, 3) := by decide +kernel
theorem dX5_load_5 : decode cX5_load 5 = .ok (.istore_n 2, 1) := by decide +kernel
theorem dX5_load_6 : decode cX5_load 6 = .ok (.iload_n 2, 1) := by decide +kernel
theorem dX5_load_7 : decode cX5_load 7 = .ok (.ifCond .lt 9, 3) := by decide +kernel
theorem dX5_load_10 : decode cX5_load 10 = .ok (.aload_n 0, 1) := by decide +kernel
theorem dX5_load_11 : decode cX5_load 11 = .ok (.iload_n 2, 1) := by decide +kernel
theorem dX5_load_12 : decode cX5_load 12 = .ok (.invokevirtual 103, 3) := by decide +kernel
theorem dX5_load_15 : decode cX5_load 15 = .ok (.ireturn, 1) := by decide +kernel
theorem dX5_load_16 : decode cX5_load 16 = .ok (.iconst 0, 1) := by decide +kernel
theorem dX5_load_17 : decode cX5_load 17 = .ok (.istore_n 3, 1) := by decide +kernel
theorem dX5_load_18 : decode cX5_load 18 = .ok (.iload_n 3, 1) := by decide +kernel
theorem dX5_load_19 : decode cX5_load 19 = .ok (.aload_n 0, 1) := by decide +kernel
theorem dX5_load_20 : decode cX5_load 20 = .ok (.getfield 38, 3) := by decide +kernel
theorem dX5_load_23 : decode cX5_load 23 = .ok (.iload_n 1, 1) := by decide +kernel
theorem dX5_load_24 : decode cX5_load 24 = .ok (.iaload, 1) := by decide +kernel
theorem dX5_load_25 : decode cX5_load 25 = .ok (.if_icmp .ge 42, 3) := by decide +kernel
theorem dX5_load_28 : decode cX5_load 28 = .ok (.iload_n 3, 1) := by decide +kernel
theorem dX5_load_29 : decode cX5_load 29 = .ok (.bipush 6, 2) := by decide +kernel
theorem dX5_load_31 : decode cX5_load 31 = .ok (.if_icmp .ge 36, 3) := by decide +kernel
theorem dX5_load_34 : decode cX5_load 34 = .ok (.aload_n 0, 1) := by decide +kernel
theorem dX5_load_35 : decode cX5_load 35 = .ok (.iload_n 1, 1) := by decide +kernel
theorem dX5_load_36 : decode cX5_load 36 = .ok (.iload_n 3, 1) := by decide +kernel
theorem dX5_load_37 : decode cX5_load 37 = .ok (.invokevirtual 161, 3) := by decide +kernel
theorem dX5_load_40 : decode cX5_load 40 = .ok (.invokestatic 100, 3) := by decide +kernel
theorem dX5_load_43 : decode cX5_load 43 = .ok (.ifCond .eq 24, 3) := by decide +kernel
theorem dX5_load_46 : decode cX5_load 46 = .ok (.aload_n 0, 1) := by decide +kernel
theorem dX5_load_47 : decode cX5_load 47 = .ok (.getfield 9, 3) := by decide +kernel
theorem dX5_load_50 : decode cX5_load 50 = .ok (.bipush 6, 2) := by decide +kernel
theorem dX5_load_52 : decode cX5_load 52 = .ok (.iload_n 3, 1) := by decide +kernel
theorem dX5_load_53 : decode cX5_load 53 = .ok (.iadd, 1) := by decide +kernel
theorem dX5_load_54 : decode cX5_load 54 = .ok (.aload_n 0, 1) := by decide +kernel
theorem dX5_load_55 : decode cX5_load 55 = .ok (.iload_n 1, 1) := by decide +kernel
theorem dX5_load_56 : decode cX5_load 56 = .ok (.iload_n 3, 1) := by decide +kernel
theorem dX5_load_57 : decode cX5_load 57 = .ok (.invokevirtual 161, 3) := by decide +kernel
theorem dX5_load_60 : decode cX5_load 60 = .ok (.iastore, 1) := by decide +kernel
theorem dX5_load_61 : decode cX5_load 61 = .ok (.iinc 3 1, 3) := by decide +kernel
theorem dX5_load_64 : decode cX5_load 64 = .ok (.goto (-46), 3) := by decide +kernel
theorem dX5_load_67 : decode cX5_load 67 = .ok (.iload_n 3, 1) := by decide +kernel
theorem dX5_load_68 : decode cX5_load 68 = .ok (.ireturn, 1) := by decide +kernel
set_option maxRecDepth 20000 in
set_option maxHeartbeats 4000000 in
theorem c_X5_loadA {K : Cx} {x : Int32} {m : TM} (hb : outI x 0 3 = true) : CT yX5_load cX5_load 4 (some .int) 3 63 K [.ref 49, .int x] (m) (some (.int (-1000001))) (fnm m 0) := by
  refine ct_ofd (n := 2) (by decide +kernel) rfl rfl ?_
  show XX RX5 cX5_load 4 (some .int) 3 63 K 0 [some (.ref 49), some (.int x), none, none] [] (m) (fun r1 m1 => r1 = (some (.int (-1000001))) ∧ m1 = fnm m 0)
  refine x_aload_n (q := 1) dX5_load_0 rfl rfl ?_
  refine x_iload_n (q := 2) dX5_load_1 rfl rfl ?_
  refine x_callV1v (q := 5) dX5_load_2 rfl ml_X5_158 mv_X5_wrongSheet rv5 rfl (c_X5_wsA hb) (Nat.le_of_ble_eq_true rfl) ⟨by decide, by decide⟩ ?_
  refine x_istore_n (q := 6) dX5_load_5 rfl (by decide) rfl rfl ?_
  refine x_iload_n (q := 7) dX5_load_6 rfl rfl ?_
  refine x_if_lt (q := 10) (t := 16) dX5_load_7 rfl (by decide) (fun h => absurd h (by decide)) (fun _ => ?_)
  refine x_aload_n (q := 11) dX5_load_10 rfl rfl ?_
  refine x_iload_n (q := 12) dX5_load_11 rfl rfl ?_
  refine x_callV1v (q := 15) dX5_load_12 rfl ml_X5_103 mv_X5_no rv5 rfl (c_X5_nox (w := 0) (x := -1000001) (by decide) (by decide)) (Nat.le_of_ble_eq_true rfl) ⟨by decide, by decide⟩ ?_
  refine x_ireturn dX5_load_15 rfl rfl ?_
  exact ⟨rfl, rfl⟩
set_option maxRecDepth 20000 in
set_option maxHeartbeats 4000000 in
theorem c_X5_loadB {K : Cx} {s : Nat} {m : TM} (hs : s < 4) (hb : m.1 58 s = 0) : CT yX5_load cX5_load 4 (some .int) 3 63 K [.ref 49, .int (nI s)] (m) (some (.int (-1000006))) (fnm m 5) := by
  refine ct_ofd (n := 2) (by decide +kernel) rfl rfl ?_
  show XX RX5 cX5_load 4 (some .int) 3 63 K 0 [some (.ref 49), some (.int (nI s)), none, none] [] (m) (fun r1 m1 => r1 = (some (.int (-1000006))) ∧ m1 = fnm m 5)
  refine x_aload_n (q := 1) dX5_load_0 rfl rfl ?_
  refine x_iload_n (q := 2) dX5_load_1 rfl rfl ?_
  refine x_callV1v (q := 5) dX5_load_2 rfl ml_X5_158 mv_X5_wrongSheet rv5 rfl (c_X5_wsB hs hb) (Nat.le_of_ble_eq_true rfl) ⟨by decide, by decide⟩ ?_
  refine x_istore_n (q := 6) dX5_load_5 rfl (by decide) rfl rfl ?_
  refine x_iload_n (q := 7) dX5_load_6 rfl rfl ?_
  refine x_if_lt (q := 10) (t := 16) dX5_load_7 rfl (by decide) (fun h => absurd h (by decide)) (fun _ => ?_)
  refine x_aload_n (q := 11) dX5_load_10 rfl rfl ?_
  refine x_iload_n (q := 12) dX5_load_11 rfl rfl ?_
  refine x_callV1v (q := 15) dX5_load_12 rfl ml_X5_103 mv_X5_no rv5 rfl (c_X5_nox (w := 5) (x := -1000006) (by decide) (by decide)) (Nat.le_of_ble_eq_true rfl) ⟨by decide, by decide⟩ ?_
  refine x_ireturn dX5_load_15 rfl rfl ?_
  exact ⟨rfl, rfl⟩
set_option maxRecDepth 20000 in
set_option maxHeartbeats 4000000 in
theorem l_X5_load {K : Cx} {s z : Nat} {m : TM} (hs : s < 4) (hz : m.1 59 s = nI z) (hz40 : z ≤ 40) : ∀ (n : Nat) (j : Nat) (u : Nat → Int32), 7 - j < n → j ≤ 6 → XX RX5 cX5_load 4 (some .int) 3 63 K 18 [some (.ref 49), some (.int (nI s)), some (.int (-1)), some (.int (nI j))] [] (sr m 50 u) (fun r1 m1 => r1 = (some (.int (nI (ldR (fun q => m.1 60 (40 * s + q)) z (7 - j) j u).1))) ∧ m1 = sr m 50 (ldR (fun q => m.1 60 (40 * s + q)) z (7 - j) j u).2) := by
  intro n
  induction n with
  | zero => intro j u hlt; exact absurd hlt (Nat.not_lt_zero _)
  | succ n ih =>
    intro j u hlt hj
    have e1 : 7 - j = (6 - j) + 1 := by omega
    rw [e1]
    simp only [ldR]
    have hz2 : (sr m 50 u).1 59 s = nI z := by rw [sr_ne (by decide)]; exact hz
    refine x_iload_n (q := 19) dX5_load_18 rfl rfl ?_
    refine x_aload_n (q := 20) dX5_load_19 rfl rfl ?_
    refine x_getR (q := 23) dX5_load_20 rfl fl_X5_38 (or5_sizes) ?_
    refine x_iload_n (q := 24) dX5_load_23 rfl rfl ?_
    refine x_iald (q := 25) dX5_load_24 rfl (ar_59) (ix_nI hs (by decide)) (Nat.zero_add _) ?_
    refine x_icmp_ge (q := 28) (t := 67) dX5_load_25 rfl (by decide) (fun h25 => ?_) (fun h25 => ?_)
    · refine x_iload_n (q := 68) dX5_load_67 rfl rfl ?_
      refine x_ireturn dX5_load_68 rfl rfl ?_
      rw [if_neg (fun q => absurd q.1 (Nat.not_lt.mpr (lp_stop hz2 (by omega) (by omega) h25)))]
      exact ⟨rfl, rfl⟩
    have hjz : j < z := lp_go hz2 (by omega) (by omega) h25
    refine x_iload_n (q := 29) dX5_load_28 rfl rfl ?_
    refine x_bipush (q := 31) (v := 6) dX5_load_29 rfl (by decide) ?_
    refine x_icmp_ge (q := 34) (t := 67) dX5_load_31 rfl (by decide) (fun h31 => ?_) (fun h31 => ?_)
    · refine x_iload_n (q := 68) dX5_load_67 rfl rfl ?_
      refine x_ireturn dX5_load_68 rfl rfl ?_
      rw [if_neg (fun q => absurd q.2.1 (Nat.not_lt.mpr (lp_stop (n := 6) rfl (by omega) (by omega) h31)))]
      exact ⟨rfl, rfl⟩
    have hj6 : j < 6 := lp_go (n := 6) rfl (by omega) (by omega) h31
    refine x_aload_n (q := 35) dX5_load_34 rfl rfl ?_
    refine x_iload_n (q := 36) dX5_load_35 rfl rfl ?_
    refine x_iload_n (q := 37) dX5_load_36 rfl rfl ?_
    refine x_callV2v (q := 40) dX5_load_37 rfl ml_X5_161 mv_X5_told rv5 rfl (c_X5_told (m := sr m 50 u) hs (by omega)) (Nat.le_of_ble_eq_true rfl) ⟨by decide, by decide⟩ ?_
    refine x_callS1v (q := 43) dX5_load_40 rfl ml_X5_100 ms_X5_isLine c_X5_isLine (Nat.le_of_ble_eq_true rfl) ⟨by decide, by decide⟩ ?_
    refine x_ifB_eq (q := 46) (t := 67) dX5_load_43 rfl (by decide) (fun h43 => ?_) (fun h43 => ?_)
    · replace h43 := in_f h43
      refine x_iload_n (q := 68) dX5_load_67 rfl rfl ?_
      refine x_ireturn dX5_load_68 rfl rfl ?_
      rw [if_neg (fun q => absurd q.2.2 (by rw [sr_ne (by decide)] at h43; show ¬ outI (m.1 60 (40 * s + j)) 0 20 = false; rw [h43]; decide))]
      exact ⟨rfl, rfl⟩
    replace h43 := in_t h43
    rw [sr_ne (by decide)] at h43
    refine x_aload_n (q := 47) dX5_load_46 rfl rfl ?_
    refine x_getR (q := 50) dX5_load_47 rfl fl_X5_9 (or5_s) ?_
    refine x_bipush (q := 52) (v := 6) dX5_load_50 rfl (by decide) ?_
    refine x_iload_n (q := 53) dX5_load_52 rfl rfl ?_
    refine x_iadd (q := 54) dX5_load_53 rfl ?_
    refine x_aload_n (q := 55) dX5_load_54 rfl rfl ?_
    refine x_iload_n (q := 56) dX5_load_55 rfl rfl ?_
    refine x_iload_n (q := 57) dX5_load_56 rfl rfl ?_
    refine x_callV2v (q := 60) dX5_load_57 rfl ml_X5_161 mv_X5_told rv5 rfl (c_X5_told (m := sr m 50 u) hs (by omega)) (Nat.le_of_ble_eq_true rfl) ⟨by decide, by decide⟩ ?_
    refine x_iastr (q := 61) dX5_load_60 rfl (ar_50) (ix_off 6 (ix_nI (n := 6) hj6 (by decide)) (by decide) (by decide)) (Nat.zero_add _)  ?_
    refine x_iinc (q := 64) (v := nI (j + 1)) dX5_load_61 rfl rfl (jnI_s j) (by decide) rfl rfl ?_
    refine x_goto (q := 18) dX5_load_64 (by decide) ?_
    rw [if_pos ⟨hjz, hj6, h43⟩, sr_ne (by decide)]
    have key := ih (j + 1) (upd u (6 + j) (m.1 60 (40 * s + j))) (by omega) (by omega)
    rw [show 7 - (j + 1) = 6 - j by omega] at key
    exact key
set_option maxRecDepth 20000 in
set_option maxHeartbeats 4000000 in
theorem c_X5_load {K : Cx} {s z : Nat} {m : TM} (hb : ¬ m.1 58 s = 0) (hs : s < 4) (hz : m.1 59 s = nI z) (hz40 : z ≤ 40) : CT yX5_load cX5_load 4 (some .int) 3 63 K [.ref 49, .int (nI s)] (m) (some (.int (nI (ldR (fun q => m.1 60 (40 * s + q)) z 7 0 (m.1 50)).1))) (sr m 50 (ldR (fun q => m.1 60 (40 * s + q)) z 7 0 (m.1 50)).2) := by
  refine ct_ofd (n := 2) (by decide +kernel) rfl rfl ?_
  show XX RX5 cX5_load 4 (some .int) 3 63 K 0 [some (.ref 49), some (.int (nI s)), none, none] [] (m) (fun r1 m1 => r1 = (some (.int (nI (ldR (fun q => m.1 60 (40 * s + q)) z 7 0 (m.1 50)).1))) ∧ m1 = sr m 50 (ldR (fun q => m.1 60 (40 * s + q)) z 7 0 (m.1 50)).2)
  refine x_aload_n (q := 1) dX5_load_0 rfl rfl ?_
  refine x_iload_n (q := 2) dX5_load_1 rfl rfl ?_
  refine x_callV1v (q := 5) dX5_load_2 rfl ml_X5_158 mv_X5_wrongSheet rv5 rfl (c_X5_wsC hs hb) (Nat.le_of_ble_eq_true rfl) ⟨by decide, by decide⟩ ?_
  refine x_istore_n (q := 6) dX5_load_5 rfl (by decide) rfl rfl ?_
  refine x_iload_n (q := 7) dX5_load_6 rfl rfl ?_
  refine x_if_lt (q := 10) (t := 16) dX5_load_7 rfl (by decide) (fun _ => ?_) (fun h => absurd (by decide) h)
  refine x_iconst (q := 17) (v := 0) dX5_load_16 rfl (by decide) ?_
  refine x_istore_n (q := 18) dX5_load_17 rfl (by decide) rfl rfl ?_
  have h := l_X5_load (K := K) (m := m) hs hz hz40 8 0 (m.1 50) (by omega) (by omega)
  rw [sr_self] at h
  exact h
theorem dX5_judge_0 : decode cX5_judge 0 = .ok (.aload_n 0, 1) := by decide +kernel
theorem dX5_judge_1 : decode cX5_judge 1 = .ok (.iload_n 1, 1) := by decide +kernel
theorem dX5_judge_2 : decode cX5_judge 2 = .ok (.invokevirtual 158, 3) := by decide +kernel
theorem dX5_judge_5 : decode cX5_judge 5 = .ok (.istore_n 2, 1) := by decide +kernel
theorem dX5_judge_6 : decode cX5_judge 6 = .ok (.iload_n 2, 1) := by decide +kernel
theorem dX5_judge_7 : decode cX5_judge 7 = .ok (.ifCond .lt 9, 3) := by decide +kernel
theorem dX5_judge_10 : decode cX5_judge 10 = .ok (.aload_n 0, 1) := by decide +kernel
theorem dX5_judge_11 : decode cX5_judge 11 = .ok (.iload_n 2, 1) := by decide +kernel
theorem dX5_judge_12 : decode cX5_judge 12 = .ok (.invokevirtual 103, 3) := by decide +kernel
theorem dX5_judge_15 : decode cX5_judge 15 = .ok (.ireturn, 1) := by decide +kernel
theorem dX5_judge_16 : decode cX5_judge 16 = .ok (.iconst 0, 1) := by decide +kernel
theorem dX5_judge_17 : decode cX5_judge 17 = .ok (.istore_n 3, 1) := by decide +kernel
theorem dX5_judge_18 : decode cX5_judge 18 = .ok (.iload_n 3, 1) := by decide +kernel
theorem dX5_judge_19 : decode cX5_judge 19 = .ok (.aload_n 0, 1) := by decide +kernel
theorem dX5_judge_20 : decode cX5_judge 20 = .ok (.getfield 38, 3) := by decide +kernel
theorem dX5_judge_23 : decode cX5_judge 23 = .ok (.iload_n 1, 1) := by decide +kernel
theorem dX5_judge_24 : decode cX5_judge 24 = .ok (.iaload, 1) := by decide +kernel
theorem dX5_judge_25 : decode cX5_judge 25 = .ok (.if_icmp .ge 36, 3) := by decide +kernel
theorem dX5_judge_28 : decode cX5_judge 28 = .ok (.aload_n 0, 1) := by decide +kernel
theorem dX5_judge_29 : decode cX5_judge 29 = .ok (.iload_n 3, 1) := by decide +kernel
theorem dX5_judge_30 : decode cX5_judge 30 = .ok (.invokevirtual 109, 3) := by decide +kernel
theorem dX5_judge_33 : decode cX5_judge 33 = .ok (.ifCond .eq 18, 3) := by decide +kernel
theorem dX5_judge_36 : decode cX5_judge 36 = .ok (.aload_n 0, 1) := by decide +kernel
theorem dX5_judge_37 : decode cX5_judge 37 = .ok (.iload_n 3, 1) := by decide +kernel
theorem dX5_judge_38 : decode cX5_judge 38 = .ok (.iconst 1, 1) := by decide +kernel
theorem dX5_judge_39 : decode cX5_judge 39 = .ok (.invokevirtual 52, 3) := by decide +kernel
theorem dX5_judge_42 : decode cX5_judge 42 = .ok (.aload_n 0, 1) := by decide +kernel
theorem dX5_judge_43 : decode cX5_judge 43 = .ok (.iload_n 1, 1) := by decide +kernel
theorem dX5_judge_44 : decode cX5_judge 44 = .ok (.iload_n 3, 1) := by decide +kernel
theorem dX5_judge_45 : decode cX5_judge 45 = .ok (.invokevirtual 161, 3) := by decide +kernel
theorem dX5_judge_48 : decode cX5_judge 48 = .ok (.if_icmp .eq 7, 3) := by decide +kernel
theorem dX5_judge_51 : decode cX5_judge 51 = .ok (.iconst 1, 1) := by decide +kernel
theorem dX5_judge_52 : decode cX5_judge 52 = .ok (.iload_n 3, 1) := by decide +kernel
theorem dX5_judge_53 : decode cX5_judge 53 = .ok (.iadd, 1) := by decide +kernel
theorem dX5_judge_54 : decode cX5_judge 54 = .ok (.ireturn, 1) := by decide +kernel
theorem dX5_judge_55 : decode cX5_judge 55 = .ok (.iinc 3 1, 3) := by decide +kernel
theorem dX5_judge_58 : decode cX5_judge 58 = .ok (.goto (-40), 3) := by decide +kernel
theorem dX5_judge_61 : decode cX5_judge 61 = .ok (.iconst 0, 1) := by decide +kernel
theorem dX5_judge_62 : decode cX5_judge 62 = .ok (.ireturn, 1) := by decide +kernel
set_option maxRecDepth 20000 in
set_option maxHeartbeats 4000000 in
theorem c_X5_judgeA {K : Cx} {x : Int32} {m : TM} (hb : outI x 0 3 = true) : CT yX5_judge cX5_judge 4 (some .int) 3 63 K [.ref 49, .int x] (m) (some (.int (-1000001))) (fnm m 0) := by
  refine ct_ofd (n := 2) (by decide +kernel) rfl rfl ?_
  show XX RX5 cX5_judge 4 (some .int) 3 63 K 0 [some (.ref 49), some (.int x), none, none] [] (m) (fun r1 m1 => r1 = (some (.int (-1000001))) ∧ m1 = fnm m 0)
  refine x_aload_n (q := 1) dX5_judge_0 rfl rfl ?_
  refine x_iload_n (q := 2) dX5_judge_1 rfl rfl ?_
  refine x_callV1v (q := 5) dX5_judge_2 rfl ml_X5_158 mv_X5_wrongSheet rv5 rfl (c_X5_wsA hb) (Nat.le_of_ble_eq_true rfl) ⟨by decide, by decide⟩ ?_
  refine x_istore_n (q := 6) dX5_judge_5 rfl (by decide) rfl rfl ?_
  refine x_iload_n (q := 7) dX5_judge_6 rfl rfl ?_
  refine x_if_lt (q := 10) (t := 16) dX5_judge_7 rfl (by decide) (fun h => absurd h (by decide)) (fun _ => ?_)
  refine x_aload_n (q := 11) dX5_judge_10 rfl rfl ?_
  refine x_iload_n (q := 12) dX5_judge_11 rfl rfl ?_
  refine x_callV1v (q := 15) dX5_judge_12 rfl ml_X5_103 mv_X5_no rv5 rfl (c_X5_nox (w := 0) (x := -1000001) (by decide) (by decide)) (Nat.le_of_ble_eq_true rfl) ⟨by decide, by decide⟩ ?_
  refine x_ireturn dX5_judge_15 rfl rfl ?_
  exact ⟨rfl, rfl⟩
set_option maxRecDepth 20000 in
set_option maxHeartbeats 4000000 in
theorem c_X5_judgeB {K : Cx} {s : Nat} {m : TM} (hs : s < 4) (hb : m.1 58 s = 0) : CT yX5_judge cX5_judge 4 (some .int) 3 63 K [.ref 49, .int (nI s)] (m) (some (.int (-1000006))) (fnm m 5) := by
  refine ct_ofd (n := 2) (by decide +kernel) rfl rfl ?_
  show XX RX5 cX5_judge 4 (some .int) 3 63 K 0 [some (.ref 49), some (.int (nI s)), none, none] [] (m) (fun r1 m1 => r1 = (some (.int (-1000006))) ∧ m1 = fnm m 5)
  refine x_aload_n (q := 1) dX5_judge_0 rfl rfl ?_
  refine x_iload_n (q := 2) dX5_judge_1 rfl rfl ?_
  refine x_callV1v (q := 5) dX5_judge_2 rfl ml_X5_158 mv_X5_wrongSheet rv5 rfl (c_X5_wsB hs hb) (Nat.le_of_ble_eq_true rfl) ⟨by decide, by decide⟩ ?_
  refine x_istore_n (q := 6) dX5_judge_5 rfl (by decide) rfl rfl ?_
  refine x_iload_n (q := 7) dX5_judge_6 rfl rfl ?_
  refine x_if_lt (q := 10) (t := 16) dX5_judge_7 rfl (by decide) (fun h => absurd h (by decide)) (fun _ => ?_)
  refine x_aload_n (q := 11) dX5_judge_10 rfl rfl ?_
  refine x_iload_n (q := 12) dX5_judge_11 rfl rfl ?_
  refine x_callV1v (q := 15) dX5_judge_12 rfl ml_X5_103 mv_X5_no rv5 rfl (c_X5_nox (w := 5) (x := -1000006) (by decide) (by decide)) (Nat.le_of_ble_eq_true rfl) ⟨by decide, by decide⟩ ?_
  refine x_ireturn dX5_judge_15 rfl rfl ?_
  exact ⟨rfl, rfl⟩
set_option maxRecDepth 20000 in
set_option maxHeartbeats 4000000 in
theorem l_X5_judge {K : Cx} {s z n8 : Nat} {m : TM} (hs : s < 4) (hz : m.1 59 s = nI z) (hz40 : z ≤ 40) (hI : Iv n8 (m.1 50)) : ∀ (n : Nat) (j : Nat), z - j < n → j ≤ z → XX RX5 cX5_judge 4 (some .int) 3 63 K 18 [some (.ref 49), some (.int (nI s)), some (.int (-1)), some (.int (nI j))] [] (m) (fun r1 m1 => r1 = (some (.int (ansJ (srch (fun q => jdP (m.1 50) n8 (fun q => m.1 60 (40 * s + q)) q) (z - j) j)))) ∧ m1 = m) := by
  intro n
  induction n with
  | zero => intro j hlt; exact absurd hlt (Nat.not_lt_zero _)
  | succ n ih =>
    intro j hlt hj
    refine x_iload_n (q := 19) dX5_judge_18 rfl rfl ?_
    refine x_aload_n (q := 20) dX5_judge_19 rfl rfl ?_
    refine x_getR (q := 23) dX5_judge_20 rfl fl_X5_38 (or5_sizes) ?_
    refine x_iload_n (q := 24) dX5_judge_23 rfl rfl ?_
    refine x_iald (q := 25) dX5_judge_24 rfl (ar_59) (ix_nI hs (by decide)) (Nat.zero_add _) ?_
    refine x_icmp_ge (q := 28) (t := 61) dX5_judge_25 rfl (by decide) (fun h25 => ?_) (fun h25 => ?_)
    · refine x_iconst (q := 62) (v := 0) dX5_judge_61 rfl (by decide) ?_
      refine x_ireturn dX5_judge_62 rfl rfl ?_
      have e : z - j = 0 := by
        have := lp_stop hz (by omega) (by omega) h25
        omega
      rw [e]
      exact ⟨rfl, rfl⟩
    have hjz : j < z := lp_go hz (by omega) (by omega) h25
    have e1 : z - j = (z - (j + 1)) + 1 := by omega
    rw [e1]
    simp only [srch]
    refine x_aload_n (q := 29) dX5_judge_28 rfl rfl ?_
    refine x_iload_n (q := 30) dX5_judge_29 rfl rfl ?_
    refine x_callV1v (q := 33) dX5_judge_30 rfl ml_X5_109 mv_X5_isParcel rv5 rfl c_X5_isParcel (Nat.le_of_ble_eq_true rfl) ⟨by decide, by decide⟩ ?_
    refine x_ifB_eq (q := 36) (t := 51) dX5_judge_33 rfl (by decide) (fun h33 => ?_) (fun h33 => ?_)
    · replace h33 := in_f h33
      refine x_iconst (q := 52) (v := 1) dX5_judge_51 rfl (by decide) ?_
      refine x_iload_n (q := 53) dX5_judge_52 rfl rfl ?_
      refine x_iadd (q := 54) dX5_judge_53 rfl ?_
      refine x_ireturn dX5_judge_54 rfl rfl ?_
      rw [par_no hI.2.1 hI.1 (by omega)] at h33
      have hP : jdP (m.1 50) n8 (fun q => m.1 60 (40 * s + q)) j = true := by
        have h42 : decide (j < n8) = false := by simpa using h33
        unfold jdP
        rw [h42]
        rfl
      rw [if_pos hP]
      exact ⟨rfl, rfl⟩
    replace h33 := in_t h33
    rw [par_no hI.2.1 hI.1 (by omega)] at h33
    have hjn : j < n8 := by simpa using h33
    have hj8 : j < 8 := by have := hI.1; omega
    refine x_aload_n (q := 37) dX5_judge_36 rfl rfl ?_
    refine x_iload_n (q := 38) dX5_judge_37 rfl rfl ?_
    refine x_iconst (q := 39) (v := 1) dX5_judge_38 rfl (by decide) ?_
    refine x_callV2v (q := 42) dX5_judge_39 rfl ml_X5_52 mv_X5_get rv5 rfl (c_X5_get (f := 1) hj8 (by decide)) (Nat.le_of_ble_eq_true rfl) ⟨by decide, by decide⟩ ?_
    refine x_aload_n (q := 43) dX5_judge_42 rfl rfl ?_
    refine x_iload_n (q := 44) dX5_judge_43 rfl rfl ?_
    refine x_iload_n (q := 45) dX5_judge_44 rfl rfl ?_
    refine x_callV2v (q := 48) dX5_judge_45 rfl ml_X5_161 mv_X5_told rv5 rfl (c_X5_told hs (by omega)) (Nat.le_of_ble_eq_true rfl) ⟨by decide, by decide⟩ ?_
    refine x_icmp_eq (q := 51) (t := 55) dX5_judge_48 rfl (by decide) (fun h48 => ?_) (fun h48 => ?_)
    · refine x_iinc (q := 58) (v := nI (j + 1)) dX5_judge_55 rfl rfl (jnI_s j) (by decide) rfl rfl ?_
      refine x_goto (q := 18) dX5_judge_58 (by decide) ?_
      have hP : jdP (m.1 50) n8 (fun q => m.1 60 (40 * s + q)) j = false := by
        unfold jdP
        rw [decide_eq_true hjn, decide_eq_true h48]
        rfl
      rw [if_neg (by rw [hP]; decide)]
      exact ih (j + 1) (by omega) (by omega)
    refine x_iconst (q := 52) (v := 1) dX5_judge_51 rfl (by decide) ?_
    refine x_iload_n (q := 53) dX5_judge_52 rfl rfl ?_
    refine x_iadd (q := 54) dX5_judge_53 rfl ?_
    refine x_ireturn dX5_judge_54 rfl rfl ?_
    have hP : jdP (m.1 50) n8 (fun q => m.1 60 (40 * s + q)) j = true := by
      unfold jdP
      rw [decide_eq_false h48, Bool.and_false]
      rfl
    rw [if_pos hP]
    exact ⟨rfl, rfl⟩
set_option maxRecDepth 20000 in
set_option maxHeartbeats 4000000 in
theorem c_X5_judge {K : Cx} {s z n8 : Nat} {m : TM} (hb : ¬ m.1 58 s = 0) (hs : s < 4) (hz : m.1 59 s = nI z) (hz40 : z ≤ 40) (hI : Iv n8 (m.1 50)) : CT yX5_judge cX5_judge 4 (some .int) 3 63 K [.ref 49, .int (nI s)] (m) (some (.int (ansJ (srch (fun q => jdP (m.1 50) n8 (fun q => m.1 60 (40 * s + q)) q) z 0)))) (m) := by
  refine ct_ofd (n := 2) (by decide +kernel) rfl rfl ?_
  show XX RX5 cX5_judge 4 (some .int) 3 63 K 0 [some (.ref 49), some (.int (nI s)), none, none] [] (m) (fun r1 m1 => r1 = (some (.int (ansJ (srch (fun q => jdP (m.1 50) n8 (fun q => m.1 60 (40 * s + q)) q) z 0)))) ∧ m1 = m)
  refine x_aload_n (q := 1) dX5_judge_0 rfl rfl ?_
  refine x_iload_n (q := 2) dX5_judge_1 rfl rfl ?_
  refine x_callV1v (q := 5) dX5_judge_2 rfl ml_X5_158 mv_X5_wrongSheet rv5 rfl (c_X5_wsC hs hb) (Nat.le_of_ble_eq_true rfl) ⟨by decide, by decide⟩ ?_
  refine x_istore_n (q := 6) dX5_judge_5 rfl (by decide) rfl rfl ?_
  refine x_iload_n (q := 7) dX5_judge_6 rfl rfl ?_
  refine x_if_lt (q := 10) (t := 16) dX5_judge_7 rfl (by decide) (fun _ => ?_) (fun h => absurd (by decide) h)
  refine x_iconst (q := 17) (v := 0) dX5_judge_16 rfl (by decide) ?_
  refine x_istore_n (q := 18) dX5_judge_17 rfl (by decide) rfl rfl ?_
  exact l_X5_judge hs hz hz40 hI (z + 1) 0 (by omega) (by omega)
