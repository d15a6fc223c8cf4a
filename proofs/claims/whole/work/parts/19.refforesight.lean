/-! what will be, of the reference -/
def isoF (s : Nat → Int32) (n8 : Nat) (w v : Int32) : Bool := if w = 0 then decide (thF s 0 n8 = 0) else if w = 3 then !decide (s 3 < v) else decide (s (12 + 7 * cl v + 4) = w)
theorem dX5_thenAt_0 : decode cX5_thenAt 0 = .ok (.aload_n 0, 1) := by decide +kernel
theorem dX5_thenAt_1 : decode cX5_thenAt 1 = .ok (.invokevirtual 124, 3) := by decide +kernel
theorem dX5_thenAt_4 : decode cX5_thenAt 4 = .ok (.aload_n 0, 1) := by decide +kernel
theorem dX5_thenAt_5 : decode cX5_thenAt 5 = .ok (.iload_n 2, 1) := by decide +kernel
theorem dX5_thenAt_6 : decode cX5_thenAt 6 = .ok (.invokevirtual 115, 3) := by decide +kernel
theorem dX5_thenAt_9 : decode cX5_thenAt 9 = .ok (.iload_n 1, 1) := by decide +kernel
theorem dX5_thenAt_10 : decode cX5_thenAt 10 = .ok (.ifCond .ge 10, 3) := by decide +kernel
theorem dX5_thenAt_13 : decode cX5_thenAt 13 = .ok (.aload_n 0, 1) := by decide +kernel
theorem dX5_thenAt_14 : decode cX5_thenAt 14 = .ok (.invokevirtual 81, 3) := by decide +kernel
theorem dX5_thenAt_17 : decode cX5_thenAt 17 = .ok (.goto 9, 3) := by decide +kernel
theorem dX5_thenAt_20 : decode cX5_thenAt 20 = .ok (.aload_n 0, 1) := by decide +kernel
theorem dX5_thenAt_21 : decode cX5_thenAt 21 = .ok (.getfield 9, 3) := by decide +kernel
theorem dX5_thenAt_24 : decode cX5_thenAt 24 = .ok (.iload_n 1, 1) := by decide +kernel
theorem dX5_thenAt_25 : decode cX5_thenAt 25 = .ok (.iaload, 1) := by decide +kernel
theorem dX5_thenAt_26 : decode cX5_thenAt 26 = .ok (.istore_n 3, 1) := by decide +kernel
theorem dX5_thenAt_27 : decode cX5_thenAt 27 = .ok (.aload_n 0, 1) := by decide +kernel
theorem dX5_thenAt_28 : decode cX5_thenAt 28 = .ok (.invokevirtual 127, 3) := by decide +kernel
theorem dX5_thenAt_31 : decode cX5_thenAt 31 = .ok (.iload_n 3, 1) := by decide +kernel
theorem dX5_thenAt_32 : decode cX5_thenAt 32 = .ok (.ireturn, 1) := by decide +kernel
set_option maxRecDepth 20000 in
set_option maxHeartbeats 4000000 in
theorem c_X5_thenAt {K : Cx} {a c n8 : Nat} {m : TM} (ha : a < 78) (hc : c ≤ 1000) (hI : Iv n8 (m.1 50)) : CT yX5_thenAt cX5_thenAt 4 (some .int) 5 113 K [.ref 49, .int (nI a), .int (nI c)] (m) (some (.int (dysC n8 c (m.1 50) a))) (asM m) := by
  refine ct_ofd (n := 1) (by decide +kernel) rfl rfl ?_
  show XX RX5 cX5_thenAt 4 (some .int) 5 113 K 0 [some (.ref 49), some (.int (nI a)), some (.int (nI c)), none] [] (m) (fun r1 m1 => r1 = (some (.int (dysC n8 c (m.1 50) a))) ∧ m1 = asM m)
  refine x_aload_n (q := 1) dX5_thenAt_0 rfl rfl ?_
  refine x_callV0n (q := 4) dX5_thenAt_1 rfl ml_X5_124 mv_X5_setsAside rv5 rfl c_set (Nat.le_of_ble_eq_true rfl) ⟨by decide, by decide⟩ ?_
  refine x_aload_n (q := 5) dX5_thenAt_4 rfl rfl ?_
  refine x_iload_n (q := 6) dX5_thenAt_5 rfl rfl ?_
  refine x_callV1n (q := 9) dX5_thenAt_6 rfl ml_X5_115 mv_X5_goes rv5 rfl (c_X5_goes hc hI) (Nat.le_of_ble_eq_true rfl) ⟨by decide, by decide⟩ ?_
  refine x_iload_n (q := 10) dX5_thenAt_9 rfl rfl ?_
  refine x_if_ge (q := 13) (t := 20) dX5_thenAt_10 rfl (by decide) (fun h10 => ?_) (fun h10 => ?_)
  · refine x_aload_n (q := 21) dX5_thenAt_20 rfl rfl ?_
    refine x_getR (q := 24) dX5_thenAt_21 rfl fl_X5_9 (or5_s) ?_
    refine x_iload_n (q := 25) dX5_thenAt_24 rfl rfl ?_
    refine x_ialdr (q := 26) dX5_thenAt_25 rfl (ar_50) (ix_nI ha (by decide)) (Nat.zero_add _) ?_
    refine x_istore_n (q := 27) dX5_thenAt_26 rfl (by decide) rfl rfl ?_
    refine x_aload_n (q := 28) dX5_thenAt_27 rfl rfl ?_
    refine x_callV0n (q := 31) dX5_thenAt_28 rfl ml_X5_127 mv_X5_laysBack rv5 rfl c_back (Nat.le_of_ble_eq_true rfl) ⟨by decide, by decide⟩ ?_
    refine x_iload_n (q := 32) dX5_thenAt_31 rfl rfl ?_
    refine x_ireturn dX5_thenAt_32 rfl rfl ?_
    exact ⟨rfl, rfl⟩
  exact absurd (nI_pos' (by omega)) h10
set_option maxRecDepth 20000 in
set_option maxHeartbeats 4000000 in
theorem c_X5_thenAtT {K : Cx} {c n8 : Nat} {m : TM} (hc : c ≤ 1000) (hI : Iv n8 (m.1 50)) : CT yX5_thenAt cX5_thenAt 4 (some .int) 5 113 K [.ref 49, .int (-1), .int (nI c)] (m) (some (.int (tdF (dysC n8 c (m.1 50))))) (asM m) := by
  refine ct_ofd (n := 1) (by decide +kernel) rfl rfl ?_
  show XX RX5 cX5_thenAt 4 (some .int) 5 113 K 0 [some (.ref 49), some (.int (-1)), some (.int (nI c)), none] [] (m) (fun r1 m1 => r1 = (some (.int (tdF (dysC n8 c (m.1 50))))) ∧ m1 = asM m)
  refine x_aload_n (q := 1) dX5_thenAt_0 rfl rfl ?_
  refine x_callV0n (q := 4) dX5_thenAt_1 rfl ml_X5_124 mv_X5_setsAside rv5 rfl c_set (Nat.le_of_ble_eq_true rfl) ⟨by decide, by decide⟩ ?_
  refine x_aload_n (q := 5) dX5_thenAt_4 rfl rfl ?_
  refine x_iload_n (q := 6) dX5_thenAt_5 rfl rfl ?_
  refine x_callV1n (q := 9) dX5_thenAt_6 rfl ml_X5_115 mv_X5_goes rv5 rfl (c_X5_goes hc hI) (Nat.le_of_ble_eq_true rfl) ⟨by decide, by decide⟩ ?_
  refine x_iload_n (q := 10) dX5_thenAt_9 rfl rfl ?_
  refine x_if_ge (q := 13) (t := 20) dX5_thenAt_10 rfl (by decide) (fun h => absurd h (by decide)) (fun _ => ?_)
  refine x_aload_n (q := 14) dX5_thenAt_13 rfl rfl ?_
  refine x_callV0v (q := 17) dX5_thenAt_14 rfl ml_X5_81 mv_X5_tideNow rv5 rfl (c_X5_tideNow (hI.days c).td) (Nat.le_of_ble_eq_true rfl) ⟨by decide, by decide⟩ ?_
  refine x_goto (q := 26) dX5_thenAt_17 (by decide) ?_
  refine x_istore_n (q := 27) dX5_thenAt_26 rfl (by decide) rfl rfl ?_
  refine x_aload_n (q := 28) dX5_thenAt_27 rfl rfl ?_
  refine x_callV0n (q := 31) dX5_thenAt_28 rfl ml_X5_127 mv_X5_laysBack rv5 rfl c_back (Nat.le_of_ble_eq_true rfl) ⟨by decide, by decide⟩ ?_
  refine x_iload_n (q := 32) dX5_thenAt_31 rfl rfl ?_
  refine x_ireturn dX5_thenAt_32 rfl rfl ?_
  exact ⟨rfl, rfl⟩
theorem dX5_ahead_0 : decode cX5_ahead 0 = .ok (.iload_n 2, 1) := by decide +kernel
theorem dX5_ahead_1 : decode cX5_ahead 1 = .ok (.iconst 1, 1) := by decide +kernel
theorem dX5_ahead_2 : decode cX5_ahead 2 = .ok (.if_icmp .eq 19, 3) := by decide +kernel
theorem dX5_ahead_5 : decode cX5_ahead 5 = .ok (.iload_n 2, 1) := by decide +kernel
theorem dX5_ahead_6 : decode cX5_ahead 6 = .ok (.iconst 3, 1) := by decide +kernel
theorem dX5_ahead_7 : decode cX5_ahead 7 = .ok (.if_icmp .eq 14, 3) := by decide +kernel
theorem dX5_ahead_10 : decode cX5_ahead 10 = .ok (.iload_n 2, 1) := by decide +kernel
theorem dX5_ahead_11 : decode cX5_ahead 11 = .ok (.iconst 4, 1) := by decide +kernel
theorem dX5_ahead_12 : decode cX5_ahead 12 = .ok (.if_icmp .eq 9, 3) := by decide +kernel
theorem dX5_ahead_15 : decode cX5_ahead 15 = .ok (.iload_n 2, 1) := by decide +kernel
theorem dX5_ahead_16 : decode cX5_ahead 16 = .ok (.bipush 6, 2) := by decide +kernel
theorem dX5_ahead_18 : decode cX5_ahead 18 = .ok (.if_icmp .ne 7, 3) := by decide +kernel
theorem dX5_ahead_21 : decode cX5_ahead 21 = .ok (.iconst 1, 1) := by decide +kernel
theorem dX5_ahead_22 : decode cX5_ahead 22 = .ok (.goto 4, 3) := by decide +kernel
theorem dX5_ahead_25 : decode cX5_ahead 25 = .ok (.iconst 0, 1) := by decide +kernel
theorem dX5_ahead_26 : decode cX5_ahead 26 = .ok (.istore 4, 2) := by decide +kernel
theorem dX5_ahead_28 : decode cX5_ahead 28 = .ok (.aload_n 0, 1) := by decide +kernel
theorem dX5_ahead_29 : decode cX5_ahead 29 = .ok (.iload_n 1, 1) := by decide +kernel
theorem dX5_ahead_30 : decode cX5_ahead 30 = .ok (.invokevirtual 109, 3) := by decide +kernel
theorem dX5_ahead_33 : decode cX5_ahead 33 = .ok (.ifCond .eq 35, 3) := by decide +kernel
theorem dX5_ahead_36 : decode cX5_ahead 36 = .ok (.iload 4, 2) := by decide +kernel
theorem dX5_ahead_38 : decode cX5_ahead 38 = .ok (.ifCond .eq 30, 3) := by decide +kernel
theorem dX5_ahead_41 : decode cX5_ahead 41 = .ok (.iload_n 3, 1) := by decide +kernel
theorem dX5_ahead_42 : decode cX5_ahead 42 = .ok (.iconst 0, 1) := by decide +kernel
theorem dX5_ahead_43 : decode cX5_ahead 43 = .ok (.bipush 100, 2) := by decide +kernel
theorem dX5_ahead_45 : decode cX5_ahead 45 = .ok (.invokestatic 48, 3) := by decide +kernel
theorem dX5_ahead_48 : decode cX5_ahead 48 = .ok (.ifCond .eq 20, 3) := by decide +kernel
theorem dX5_ahead_51 : decode cX5_ahead 51 = .ok (.aload_n 0, 1) := by decide +kernel
theorem dX5_ahead_52 : decode cX5_ahead 52 = .ok (.bipush 12, 2) := by decide +kernel
theorem dX5_ahead_54 : decode cX5_ahead 54 = .ok (.bipush 7, 2) := by decide +kernel
theorem dX5_ahead_56 : decode cX5_ahead 56 = .ok (.iload_n 1, 1) := by decide +kernel
theorem dX5_ahead_57 : decode cX5_ahead 57 = .ok (.imul, 1) := by decide +kernel
theorem dX5_ahead_58 : decode cX5_ahead 58 = .ok (.iadd, 1) := by decide +kernel
theorem dX5_ahead_59 : decode cX5_ahead 59 = .ok (.iload_n 2, 1) := by decide +kernel
theorem dX5_ahead_60 : decode cX5_ahead 60 = .ok (.iadd, 1) := by decide +kernel
theorem dX5_ahead_61 : decode cX5_ahead 61 = .ok (.iload_n 3, 1) := by decide +kernel
theorem dX5_ahead_62 : decode cX5_ahead 62 = .ok (.invokevirtual 130, 3) := by decide +kernel
theorem dX5_ahead_65 : decode cX5_ahead 65 = .ok (.goto 8, 3) := by decide +kernel
theorem dX5_ahead_68 : decode cX5_ahead 68 = .ok (.aload_n 0, 1) := by decide +kernel
theorem dX5_ahead_69 : decode cX5_ahead 69 = .ok (.iconst 0, 1) := by decide +kernel
theorem dX5_ahead_70 : decode cX5_ahead 70 = .ok (.invokevirtual 103, 3) := by decide +kernel
theorem dX5_ahead_73 : decode cX5_ahead 73 = .ok (.ireturn, 1) := by decide +kernel
set_option maxRecDepth 20000 in
set_option maxHeartbeats 4000000 in
theorem c_X5_ahead {K : Cx} {p x y : Int32} {n8 : Nat} {m : TM} (hI : Iv n8 (m.1 50)) : CT yX5_ahead cX5_ahead 5 (some .int) 6 136 K [.ref 49, .int p, .int x, .int y] (m) (some (.int ((if (outI p 0 (m.1 50 1 - 1) || !tlk x || outI y 0 100) = true then -1000001 else tld (dysC n8 (cl y) (m.1 50)) (cl p) x)))) ((if (outI p 0 (m.1 50 1 - 1) || !tlk x || outI y 0 100) = true then fnm m 0 else asM m)) := by
  refine ct_ofd (n := 1) (by decide +kernel) rfl rfl ?_
  show XX RX5 cX5_ahead 5 (some .int) 6 136 K 0 [some (.ref 49), some (.int p), some (.int x), some (.int y), none] [] (m) (fun r1 m1 => r1 = (some (.int ((if (outI p 0 (m.1 50 1 - 1) || !tlk x || outI y 0 100) = true then -1000001 else tld (dysC n8 (cl y) (m.1 50)) (cl p) x)))) ∧ m1 = (if (outI p 0 (m.1 50 1 - 1) || !tlk x || outI y 0 100) = true then fnm m 0 else asM m))
  refine x_iload_n (q := 1) dX5_ahead_0 rfl rfl ?_
  refine x_iconst (q := 2) (v := 1) dX5_ahead_1 rfl (by decide) ?_
  refine x_icmp_eq (q := 5) (t := 21) dX5_ahead_2 rfl (by decide) (fun h2 => ?_) (fun h2 => ?_)
  · refine x_iconst (q := 22) (v := 1) dX5_ahead_21 rfl (by decide) ?_
    refine x_goto (q := 26) dX5_ahead_22 (by decide) ?_
    refine x_istore (q := 28) dX5_ahead_26 rfl (by decide) rfl rfl ?_
    refine x_aload_n (q := 29) dX5_ahead_28 rfl rfl ?_
    refine x_iload_n (q := 30) dX5_ahead_29 rfl rfl ?_
    refine x_callV1v (q := 33) dX5_ahead_30 rfl ml_X5_109 mv_X5_isParcel rv5 rfl c_X5_isParcel (Nat.le_of_ble_eq_true rfl) ⟨by decide, by decide⟩ ?_
    refine x_ifB_eq (q := 36) (t := 68) dX5_ahead_33 rfl (by decide) (fun h33 => ?_) (fun h33 => ?_)
    · replace h33 := in_f h33
      refine x_aload_n (q := 69) dX5_ahead_68 rfl rfl ?_
      refine x_iconst (q := 70) (v := 0) dX5_ahead_69 rfl (by decide) ?_
      refine x_callV1v (q := 73) dX5_ahead_70 rfl ml_X5_103 mv_X5_no rv5 rfl (c_X5_nox (w := 0) (x := -1000001) (by decide) (by decide)) (Nat.le_of_ble_eq_true rfl) ⟨by decide, by decide⟩ ?_
      refine x_ireturn dX5_ahead_73 rfl rfl ?_
      have ht := (by simp [tlk, h2] : tlk x = true)
      exact ⟨by simp [ht, h33], by simp [ht, h33]⟩
    replace h33 := in_t h33
    refine x_iload (q := 38) dX5_ahead_36 rfl rfl ?_
    refine x_if_eq (q := 41) (t := 68) dX5_ahead_38 rfl (by decide) (fun h => absurd h (by decide)) (fun _ => ?_)
    refine x_iload_n (q := 42) dX5_ahead_41 rfl rfl ?_
    refine x_iconst (q := 43) (v := 0) dX5_ahead_42 rfl (by decide) ?_
    refine x_bipush (q := 45) (v := 100) dX5_ahead_43 rfl (by decide) ?_
    refine x_callS3v (q := 48) dX5_ahead_45 rfl ml_X5_48 ms_X5_in1 c_X5_in1 (Nat.le_of_ble_eq_true rfl) ⟨by decide, by decide⟩ ?_
    refine x_ifB_eq (q := 51) (t := 68) dX5_ahead_48 rfl (by decide) (fun h48 => ?_) (fun h48 => ?_)
    · replace h48 := in_f h48
      refine x_aload_n (q := 69) dX5_ahead_68 rfl rfl ?_
      refine x_iconst (q := 70) (v := 0) dX5_ahead_69 rfl (by decide) ?_
      refine x_callV1v (q := 73) dX5_ahead_70 rfl ml_X5_103 mv_X5_no rv5 rfl (c_X5_nox (w := 0) (x := -1000001) (by decide) (by decide)) (Nat.le_of_ble_eq_true rfl) ⟨by decide, by decide⟩ ?_
      refine x_ireturn dX5_ahead_73 rfl rfl ?_
      have ht := (by simp [tlk, h2] : tlk x = true)
      exact ⟨by simp [ht, h33, h48], by simp [ht, h33, h48]⟩
    replace h48 := in_t h48
    have ht := (by simp [tlk, h2] : tlk x = true)
    obtain ⟨k, hk, rfl⟩ : ∃ k, k < n8 ∧ p = nI k := ⟨cl p, (par_k hI.2.1 hI.1 h33).2, par_nI hI.2.1 hI.1 h33⟩
    have hk8 : k < 8 := by have := hI.1; omega
    have ek : cl (nI k) = k := jnI_clamp (by omega)
    obtain ⟨c, -, hc2, rfl⟩ := out_rng (a := 0) (b := 100) (x := y) (by decide) (by decide) h48
    have ec : cl (nI c) = c := jnI_clamp (by omega)
    obtain ⟨d, hd, rfl⟩ := tlk_t ht
    refine x_aload_n (q := 52) dX5_ahead_51 rfl rfl ?_
    refine x_bipush (q := 54) (v := 12) dX5_ahead_52 rfl (by decide) ?_
    refine x_bipush (q := 56) (v := 7) dX5_ahead_54 rfl (by decide) ?_
    refine x_iload_n (q := 57) dX5_ahead_56 rfl rfl ?_
    refine x_imul (q := 58) dX5_ahead_57 rfl ?_
    refine x_iadd (q := 59) dX5_ahead_58 rfl ?_
    refine x_iload_n (q := 60) dX5_ahead_59 rfl rfl ?_
    refine x_iadd (q := 61) dX5_ahead_60 rfl ?_
    refine x_iload_n (q := 62) dX5_ahead_61 rfl rfl ?_
    refine x_callV2v (q := 65) dX5_ahead_62 rfl ml_X5_130 mv_X5_thenAt rv5 rfl (by rw [par_ix]; exact c_X5_thenAt (by omega) (by omega) hI) (Nat.le_of_ble_eq_true rfl) ⟨by decide, by decide⟩ ?_
    refine x_goto (q := 73) dX5_ahead_65 (by decide) ?_
    refine x_ireturn dX5_ahead_73 rfl rfl ?_
    refine ⟨?_, ?_⟩ <;> simp only [h33, h48, ht, ek, ec, tld_get d hd, Bool.false_eq_true, Bool.or_false, Bool.false_or, Bool.or_true, Bool.true_or, Bool.or_self, Bool.not_true, Bool.not_false, if_false, if_true]
  refine x_iload_n (q := 6) dX5_ahead_5 rfl rfl ?_
  refine x_iconst (q := 7) (v := 3) dX5_ahead_6 rfl (by decide) ?_
  refine x_icmp_eq (q := 10) (t := 21) dX5_ahead_7 rfl (by decide) (fun h7 => ?_) (fun h7 => ?_)
  · refine x_iconst (q := 22) (v := 1) dX5_ahead_21 rfl (by decide) ?_
    refine x_goto (q := 26) dX5_ahead_22 (by decide) ?_
    refine x_istore (q := 28) dX5_ahead_26 rfl (by decide) rfl rfl ?_
    refine x_aload_n (q := 29) dX5_ahead_28 rfl rfl ?_
    refine x_iload_n (q := 30) dX5_ahead_29 rfl rfl ?_
    refine x_callV1v (q := 33) dX5_ahead_30 rfl ml_X5_109 mv_X5_isParcel rv5 rfl c_X5_isParcel (Nat.le_of_ble_eq_true rfl) ⟨by decide, by decide⟩ ?_
    refine x_ifB_eq (q := 36) (t := 68) dX5_ahead_33 rfl (by decide) (fun h33 => ?_) (fun h33 => ?_)
    · replace h33 := in_f h33
      refine x_aload_n (q := 69) dX5_ahead_68 rfl rfl ?_
      refine x_iconst (q := 70) (v := 0) dX5_ahead_69 rfl (by decide) ?_
      refine x_callV1v (q := 73) dX5_ahead_70 rfl ml_X5_103 mv_X5_no rv5 rfl (c_X5_nox (w := 0) (x := -1000001) (by decide) (by decide)) (Nat.le_of_ble_eq_true rfl) ⟨by decide, by decide⟩ ?_
      refine x_ireturn dX5_ahead_73 rfl rfl ?_
      have ht := (by simp [tlk, h2, h7] : tlk x = true)
      exact ⟨by simp [ht, h33], by simp [ht, h33]⟩
    replace h33 := in_t h33
    refine x_iload (q := 38) dX5_ahead_36 rfl rfl ?_
    refine x_if_eq (q := 41) (t := 68) dX5_ahead_38 rfl (by decide) (fun h => absurd h (by decide)) (fun _ => ?_)
    refine x_iload_n (q := 42) dX5_ahead_41 rfl rfl ?_
    refine x_iconst (q := 43) (v := 0) dX5_ahead_42 rfl (by decide) ?_
    refine x_bipush (q := 45) (v := 100) dX5_ahead_43 rfl (by decide) ?_
    refine x_callS3v (q := 48) dX5_ahead_45 rfl ml_X5_48 ms_X5_in1 c_X5_in1 (Nat.le_of_ble_eq_true rfl) ⟨by decide, by decide⟩ ?_
    refine x_ifB_eq (q := 51) (t := 68) dX5_ahead_48 rfl (by decide) (fun h48 => ?_) (fun h48 => ?_)
    · replace h48 := in_f h48
      refine x_aload_n (q := 69) dX5_ahead_68 rfl rfl ?_
      refine x_iconst (q := 70) (v := 0) dX5_ahead_69 rfl (by decide) ?_
      refine x_callV1v (q := 73) dX5_ahead_70 rfl ml_X5_103 mv_X5_no rv5 rfl (c_X5_nox (w := 0) (x := -1000001) (by decide) (by decide)) (Nat.le_of_ble_eq_true rfl) ⟨by decide, by decide⟩ ?_
      refine x_ireturn dX5_ahead_73 rfl rfl ?_
      have ht := (by simp [tlk, h2, h7] : tlk x = true)
      exact ⟨by simp [ht, h33, h48], by simp [ht, h33, h48]⟩
    replace h48 := in_t h48
    have ht := (by simp [tlk, h2, h7] : tlk x = true)
    obtain ⟨k, hk, rfl⟩ : ∃ k, k < n8 ∧ p = nI k := ⟨cl p, (par_k hI.2.1 hI.1 h33).2, par_nI hI.2.1 hI.1 h33⟩
    have hk8 : k < 8 := by have := hI.1; omega
    have ek : cl (nI k) = k := jnI_clamp (by omega)
    obtain ⟨c, -, hc2, rfl⟩ := out_rng (a := 0) (b := 100) (x := y) (by decide) (by decide) h48
    have ec : cl (nI c) = c := jnI_clamp (by omega)
    obtain ⟨d, hd, rfl⟩ := tlk_t ht
    refine x_aload_n (q := 52) dX5_ahead_51 rfl rfl ?_
    refine x_bipush (q := 54) (v := 12) dX5_ahead_52 rfl (by decide) ?_
    refine x_bipush (q := 56) (v := 7) dX5_ahead_54 rfl (by decide) ?_
    refine x_iload_n (q := 57) dX5_ahead_56 rfl rfl ?_
    refine x_imul (q := 58) dX5_ahead_57 rfl ?_
    refine x_iadd (q := 59) dX5_ahead_58 rfl ?_
    refine x_iload_n (q := 60) dX5_ahead_59 rfl rfl ?_
    refine x_iadd (q := 61) dX5_ahead_60 rfl ?_
    refine x_iload_n (q := 62) dX5_ahead_61 rfl rfl ?_
    refine x_callV2v (q := 65) dX5_ahead_62 rfl ml_X5_130 mv_X5_thenAt rv5 rfl (by rw [par_ix]; exact c_X5_thenAt (by omega) (by omega) hI) (Nat.le_of_ble_eq_true rfl) ⟨by decide, by decide⟩ ?_
    refine x_goto (q := 73) dX5_ahead_65 (by decide) ?_
    refine x_ireturn dX5_ahead_73 rfl rfl ?_
    refine ⟨?_, ?_⟩ <;> simp only [h33, h48, ht, ek, ec, tld_get d hd, Bool.false_eq_true, Bool.or_false, Bool.false_or, Bool.or_true, Bool.true_or, Bool.or_self, Bool.not_true, Bool.not_false, if_false, if_true]
  refine x_iload_n (q := 11) dX5_ahead_10 rfl rfl ?_
  refine x_iconst (q := 12) (v := 4) dX5_ahead_11 rfl (by decide) ?_
  refine x_icmp_eq (q := 15) (t := 21) dX5_ahead_12 rfl (by decide) (fun h12 => ?_) (fun h12 => ?_)
  · refine x_iconst (q := 22) (v := 1) dX5_ahead_21 rfl (by decide) ?_
    refine x_goto (q := 26) dX5_ahead_22 (by decide) ?_
    refine x_istore (q := 28) dX5_ahead_26 rfl (by decide) rfl rfl ?_
    refine x_aload_n (q := 29) dX5_ahead_28 rfl rfl ?_
    refine x_iload_n (q := 30) dX5_ahead_29 rfl rfl ?_
    refine x_callV1v (q := 33) dX5_ahead_30 rfl ml_X5_109 mv_X5_isParcel rv5 rfl c_X5_isParcel (Nat.le_of_ble_eq_true rfl) ⟨by decide, by decide⟩ ?_
    refine x_ifB_eq (q := 36) (t := 68) dX5_ahead_33 rfl (by decide) (fun h33 => ?_) (fun h33 => ?_)
    · replace h33 := in_f h33
      refine x_aload_n (q := 69) dX5_ahead_68 rfl rfl ?_
      refine x_iconst (q := 70) (v := 0) dX5_ahead_69 rfl (by decide) ?_
      refine x_callV1v (q := 73) dX5_ahead_70 rfl ml_X5_103 mv_X5_no rv5 rfl (c_X5_nox (w := 0) (x := -1000001) (by decide) (by decide)) (Nat.le_of_ble_eq_true rfl) ⟨by decide, by decide⟩ ?_
      refine x_ireturn dX5_ahead_73 rfl rfl ?_
      have ht := (by simp [tlk, h2, h7, h12] : tlk x = true)
      exact ⟨by simp [ht, h33], by simp [ht, h33]⟩
    replace h33 := in_t h33
    refine x_iload (q := 38) dX5_ahead_36 rfl rfl ?_
    refine x_if_eq (q := 41) (t := 68) dX5_ahead_38 rfl (by decide) (fun h => absurd h (by decide)) (fun _ => ?_)
    refine x_iload_n (q := 42) dX5_ahead_41 rfl rfl ?_
    refine x_iconst (q := 43) (v := 0) dX5_ahead_42 rfl (by decide) ?_
    refine x_bipush (q := 45) (v := 100) dX5_ahead_43 rfl (by decide) ?_
    refine x_callS3v (q := 48) dX5_ahead_45 rfl ml_X5_48 ms_X5_in1 c_X5_in1 (Nat.le_of_ble_eq_true rfl) ⟨by decide, by decide⟩ ?_
    refine x_ifB_eq (q := 51) (t := 68) dX5_ahead_48 rfl (by decide) (fun h48 => ?_) (fun h48 => ?_)
    · replace h48 := in_f h48
      refine x_aload_n (q := 69) dX5_ahead_68 rfl rfl ?_
      refine x_iconst (q := 70) (v := 0) dX5_ahead_69 rfl (by decide) ?_
      refine x_callV1v (q := 73) dX5_ahead_70 rfl ml_X5_103 mv_X5_no rv5 rfl (c_X5_nox (w := 0) (x := -1000001) (by decide) (by decide)) (Nat.le_of_ble_eq_true rfl) ⟨by decide, by decide⟩ ?_
      refine x_ireturn dX5_ahead_73 rfl rfl ?_
      have ht := (by simp [tlk, h2, h7, h12] : tlk x = true)
      exact ⟨by simp [ht, h33, h48], by simp [ht, h33, h48]⟩
    replace h48 := in_t h48
    have ht := (by simp [tlk, h2, h7, h12] : tlk x = true)
    obtain ⟨k, hk, rfl⟩ : ∃ k, k < n8 ∧ p = nI k := ⟨cl p, (par_k hI.2.1 hI.1 h33).2, par_nI hI.2.1 hI.1 h33⟩
    have hk8 : k < 8 := by have := hI.1; omega
    have ek : cl (nI k) = k := jnI_clamp (by omega)
    obtain ⟨c, -, hc2, rfl⟩ := out_rng (a := 0) (b := 100) (x := y) (by decide) (by decide) h48
    have ec : cl (nI c) = c := jnI_clamp (by omega)
    obtain ⟨d, hd, rfl⟩ := tlk_t ht
    refine x_aload_n (q := 52) dX5_ahead_51 rfl rfl ?_
    refine x_bipush (q := 54) (v := 12) dX5_ahead_52 rfl (by decide) ?_
    refine x_bipush (q := 56) (v := 7) dX5_ahead_54 rfl (by decide) ?_
    refine x_iload_n (q := 57) dX5_ahead_56 rfl rfl ?_
    refine x_imul (q := 58) dX5_ahead_57 rfl ?_
    refine x_iadd (q := 59) dX5_ahead_58 rfl ?_
    refine x_iload_n (q := 60) dX5_ahead_59 rfl rfl ?_
    refine x_iadd (q := 61) dX5_ahead_60 rfl ?_
    refine x_iload_n (q := 62) dX5_ahead_61 rfl rfl ?_
    refine x_callV2v (q := 65) dX5_ahead_62 rfl ml_X5_130 mv_X5_thenAt rv5 rfl (by rw [par_ix]; exact c_X5_thenAt (by omega) (by omega) hI) (Nat.le_of_ble_eq_true rfl) ⟨by decide, by decide⟩ ?_
    refine x_goto (q := 73) dX5_ahead_65 (by decide) ?_
    refine x_ireturn dX5_ahead_73 rfl rfl ?_
    refine ⟨?_, ?_⟩ <;> simp only [h33, h48, ht, ek, ec, tld_get d hd, Bool.false_eq_true, Bool.or_false, Bool.false_or, Bool.or_true, Bool.true_or, Bool.or_self, Bool.not_true, Bool.not_false, if_false, if_true]
  refine x_iload_n (q := 16) dX5_ahead_15 rfl rfl ?_
  refine x_bipush (q := 18) (v := 6) dX5_ahead_16 rfl (by decide) ?_
  refine x_icmp_ne (q := 21) (t := 25) dX5_ahead_18 rfl (by decide) (fun h18 => ?_) (fun h18 => ?_)
  · refine x_iconst (q := 26) (v := 0) dX5_ahead_25 rfl (by decide) ?_
    refine x_istore (q := 28) dX5_ahead_26 rfl (by decide) rfl rfl ?_
    refine x_aload_n (q := 29) dX5_ahead_28 rfl rfl ?_
    refine x_iload_n (q := 30) dX5_ahead_29 rfl rfl ?_
    refine x_callV1v (q := 33) dX5_ahead_30 rfl ml_X5_109 mv_X5_isParcel rv5 rfl c_X5_isParcel (Nat.le_of_ble_eq_true rfl) ⟨by decide, by decide⟩ ?_
    refine x_ifB_eq (q := 36) (t := 68) dX5_ahead_33 rfl (by decide) (fun h33 => ?_) (fun h33 => ?_)
    · replace h33 := in_f h33
      refine x_aload_n (q := 69) dX5_ahead_68 rfl rfl ?_
      refine x_iconst (q := 70) (v := 0) dX5_ahead_69 rfl (by decide) ?_
      refine x_callV1v (q := 73) dX5_ahead_70 rfl ml_X5_103 mv_X5_no rv5 rfl (c_X5_nox (w := 0) (x := -1000001) (by decide) (by decide)) (Nat.le_of_ble_eq_true rfl) ⟨by decide, by decide⟩ ?_
      refine x_ireturn dX5_ahead_73 rfl rfl ?_
      have ht := (by simp [tlk, h2, h7, h12, h18] : tlk x = false)
      exact ⟨by simp [ht, h33], by simp [ht, h33]⟩
    replace h33 := in_t h33
    refine x_iload (q := 38) dX5_ahead_36 rfl rfl ?_
    refine x_if_eq (q := 41) (t := 68) dX5_ahead_38 rfl (by decide) (fun _ => ?_) (fun h => absurd (by decide) h)
    refine x_aload_n (q := 69) dX5_ahead_68 rfl rfl ?_
    refine x_iconst (q := 70) (v := 0) dX5_ahead_69 rfl (by decide) ?_
    refine x_callV1v (q := 73) dX5_ahead_70 rfl ml_X5_103 mv_X5_no rv5 rfl (c_X5_nox (w := 0) (x := -1000001) (by decide) (by decide)) (Nat.le_of_ble_eq_true rfl) ⟨by decide, by decide⟩ ?_
    refine x_ireturn dX5_ahead_73 rfl rfl ?_
    have ht := (by simp [tlk, h2, h7, h12, h18] : tlk x = false)
    exact ⟨by simp [ht, h33], by simp [ht, h33]⟩
  refine x_iconst (q := 22) (v := 1) dX5_ahead_21 rfl (by decide) ?_
  refine x_goto (q := 26) dX5_ahead_22 (by decide) ?_
  refine x_istore (q := 28) dX5_ahead_26 rfl (by decide) rfl rfl ?_
  refine x_aload_n (q := 29) dX5_ahead_28 rfl rfl ?_
  refine x_iload_n (q := 30) dX5_ahead_29 rfl rfl ?_
  refine x_callV1v (q := 33) dX5_ahead_30 rfl ml_X5_109 mv_X5_isParcel rv5 rfl c_X5_isParcel (Nat.le_of_ble_eq_true rfl) ⟨by decide, by decide⟩ ?_
  refine x_ifB_eq (q := 36) (t := 68) dX5_ahead_33 rfl (by decide) (fun h33 => ?_) (fun h33 => ?_)
  · replace h33 := in_f h33
    refine x_aload_n (q := 69) dX5_ahead_68 rfl rfl ?_
    refine x_iconst (q := 70) (v := 0) dX5_ahead_69 rfl (by decide) ?_
    refine x_callV1v (q := 73) dX5_ahead_70 rfl ml_X5_103 mv_X5_no rv5 rfl (c_X5_nox (w := 0) (x := -1000001) (by decide) (by decide)) (Nat.le_of_ble_eq_true rfl) ⟨by decide, by decide⟩ ?_
    refine x_ireturn dX5_ahead_73 rfl rfl ?_
    have ht := (by simp [tlk, h2, h7, h12, h18] : tlk x = true)
    exact ⟨by simp [ht, h33], by simp [ht, h33]⟩
  replace h33 := in_t h33
  refine x_iload (q := 38) dX5_ahead_36 rfl rfl ?_
  refine x_if_eq (q := 41) (t := 68) dX5_ahead_38 rfl (by decide) (fun h => absurd h (by decide)) (fun _ => ?_)
  refine x_iload_n (q := 42) dX5_ahead_41 rfl rfl ?_
  refine x_iconst (q := 43) (v := 0) dX5_ahead_42 rfl (by decide) ?_
  refine x_bipush (q := 45) (v := 100) dX5_ahead_43 rfl (by decide) ?_
  refine x_callS3v (q := 48) dX5_ahead_45 rfl ml_X5_48 ms_X5_in1 c_X5_in1 (Nat.le_of_ble_eq_true rfl) ⟨by decide, by decide⟩ ?_
  refine x_ifB_eq (q := 51) (t := 68) dX5_ahead_48 rfl (by decide) (fun h48 => ?_) (fun h48 => ?_)
  · replace h48 := in_f h48
    refine x_aload_n (q := 69) dX5_ahead_68 rfl rfl ?_
    refine x_iconst (q := 70) (v := 0) dX5_ahead_69 rfl (by decide) ?_
    refine x_callV1v (q := 73) dX5_ahead_70 rfl ml_X5_103 mv_X5_no rv5 rfl (c_X5_nox (w := 0) (x := -1000001) (by decide) (by decide)) (Nat.le_of_ble_eq_true rfl) ⟨by decide, by decide⟩ ?_
    refine x_ireturn dX5_ahead_73 rfl rfl ?_
    have ht := (by simp [tlk, h2, h7, h12, h18] : tlk x = true)
    exact ⟨by simp [ht, h33, h48], by simp [ht, h33, h48]⟩
  replace h48 := in_t h48
  have ht := (by simp [tlk, h2, h7, h12, h18] : tlk x = true)
  obtain ⟨k, hk, rfl⟩ : ∃ k, k < n8 ∧ p = nI k := ⟨cl p, (par_k hI.2.1 hI.1 h33).2, par_nI hI.2.1 hI.1 h33⟩
  have hk8 : k < 8 := by have := hI.1; omega
  have ek : cl (nI k) = k := jnI_clamp (by omega)
  obtain ⟨c, -, hc2, rfl⟩ := out_rng (a := 0) (b := 100) (x := y) (by decide) (by decide) h48
  have ec : cl (nI c) = c := jnI_clamp (by omega)
  obtain ⟨d, hd, rfl⟩ := tlk_t ht
  refine x_aload_n (q := 52) dX5_ahead_51 rfl rfl ?_
  refine x_bipush (q := 54) (v := 12) dX5_ahead_52 rfl (by decide) ?_
  refine x_bipush (q := 56) (v := 7) dX5_ahead_54 rfl (by decide) ?_
  refine x_iload_n (q := 57) dX5_ahead_56 rfl rfl ?_
  refine x_imul (q := 58) dX5_ahead_57 rfl ?_
  refine x_iadd (q := 59) dX5_ahead_58 rfl ?_
  refine x_iload_n (q := 60) dX5_ahead_59 rfl rfl ?_
  refine x_iadd (q := 61) dX5_ahead_60 rfl ?_
  refine x_iload_n (q := 62) dX5_ahead_61 rfl rfl ?_
  refine x_callV2v (q := 65) dX5_ahead_62 rfl ml_X5_130 mv_X5_thenAt rv5 rfl (by rw [par_ix]; exact c_X5_thenAt (by omega) (by omega) hI) (Nat.le_of_ble_eq_true rfl) ⟨by decide, by decide⟩ ?_
  refine x_goto (q := 73) dX5_ahead_65 (by decide) ?_
  refine x_ireturn dX5_ahead_73 rfl rfl ?_
  refine ⟨?_, ?_⟩ <;> simp only [h33, h48, ht, ek, ec, tld_get d hd, Bool.false_eq_true, Bool.or_false, Bool.false_or, Bool.or_true, Bool.true_or, Bool.or_self, Bool.not_true, Bool.not_false, if_false, if_true]
theorem dX5_sea_0 : decode cX5_sea 0 = .ok (.iload_n 1, 1) := by decide +kernel
theorem dX5_sea_1 : decode cX5_sea 1 = .ok (.iconst 1, 1) := by decide +kernel
theorem dX5_sea_2 : decode cX5_sea 2 = .ok (.if_icmp .eq 14, 3) := by decide +kernel
theorem dX5_sea_5 : decode cX5_sea 5 = .ok (.iload_n 1, 1) := by decide +kernel
theorem dX5_sea_6 : decode cX5_sea 6 = .ok (.iconst 2, 1) := by decide +kernel
theorem dX5_sea_7 : decode cX5_sea 7 = .ok (.if_icmp .eq 9, 3) := by decide +kernel
theorem dX5_sea_10 : decode cX5_sea 10 = .ok (.iload_n 1, 1) := by decide +kernel
theorem dX5_sea_11 : decode cX5_sea 11 = .ok (.bipush 6, 2) := by decide +kernel
theorem dX5_sea_13 : decode cX5_sea 13 = .ok (.if_icmp .ne 7, 3) := by decide +kernel
theorem dX5_sea_16 : decode cX5_sea 16 = .ok (.iconst 1, 1) := by decide +kernel
theorem dX5_sea_17 : decode cX5_sea 17 = .ok (.goto 4, 3) := by decide +kernel
theorem dX5_sea_20 : decode cX5_sea 20 = .ok (.iconst 0, 1) := by decide +kernel
theorem dX5_sea_21 : decode cX5_sea 21 = .ok (.istore_n 3, 1) := by decide +kernel
theorem dX5_sea_22 : decode cX5_sea 22 = .ok (.iload_n 3, 1) := by decide +kernel
theorem dX5_sea_23 : decode cX5_sea 23 = .ok (.ifCond .eq 36, 3) := by decide +kernel
theorem dX5_sea_26 : decode cX5_sea 26 = .ok (.iload_n 2, 1) := by decide +kernel
theorem dX5_sea_27 : decode cX5_sea 27 = .ok (.iconst 0, 1) := by decide +kernel
theorem dX5_sea_28 : decode cX5_sea 28 = .ok (.bipush 100, 2) := by decide +kernel
theorem dX5_sea_30 : decode cX5_sea 30 = .ok (.invokestatic 48, 3) := by decide +kernel
theorem dX5_sea_33 : decode cX5_sea 33 = .ok (.ifCond .eq 26, 3) := by decide +kernel
theorem dX5_sea_36 : decode cX5_sea 36 = .ok (.aload_n 0, 1) := by decide +kernel
theorem dX5_sea_37 : decode cX5_sea 37 = .ok (.iload_n 1, 1) := by decide +kernel
theorem dX5_sea_38 : decode cX5_sea 38 = .ok (.bipush 6, 2) := by decide +kernel
theorem dX5_sea_40 : decode cX5_sea 40 = .ok (.if_icmp .ne 7, 3) := by decide +kernel
theorem dX5_sea_43 : decode cX5_sea 43 = .ok (.iconst (-1), 1) := by decide +kernel
theorem dX5_sea_44 : decode cX5_sea 44 = .ok (.goto 8, 3) := by decide +kernel
theorem dX5_sea_47 : decode cX5_sea 47 = .ok (.iconst 3, 1) := by decide +kernel
theorem dX5_sea_48 : decode cX5_sea 48 = .ok (.iload_n 1, 1) := by decide +kernel
theorem dX5_sea_49 : decode cX5_sea 49 = .ok (.iadd, 1) := by decide +kernel
theorem dX5_sea_50 : decode cX5_sea 50 = .ok (.iconst 1, 1) := by decide +kernel
theorem dX5_sea_51 : decode cX5_sea 51 = .ok (.isub, 1) := by decide +kernel
theorem dX5_sea_52 : decode cX5_sea 52 = .ok (.iload_n 2, 1) := by decide +kernel
theorem dX5_sea_53 : decode cX5_sea 53 = .ok (.invokevirtual 130, 3) := by decide +kernel
theorem dX5_sea_56 : decode cX5_sea 56 = .ok (.goto 8, 3) := by decide +kernel
theorem dX5_sea_59 : decode cX5_sea 59 = .ok (.aload_n 0, 1) := by decide +kernel
theorem dX5_sea_60 : decode cX5_sea 60 = .ok (.iconst 0, 1) := by decide +kernel
theorem dX5_sea_61 : decode cX5_sea 61 = .ok (.invokevirtual 103, 3) := by decide +kernel
theorem dX5_sea_64 : decode cX5_sea 64 = .ok (.ireturn, 1) := by decide +kernel
set_option maxRecDepth 20000 in
set_option maxHeartbeats 4000000 in
theorem c_X5_sea {K : Cx} {x y : Int32} {n8 : Nat} {m : TM} (hI : Iv n8 (m.1 50)) : CT yX5_sea cX5_sea 4 (some .int) 6 136 K [.ref 49, .int x, .int y] (m) (some (.int ((if (!tlk2 x || outI y 0 100) = true then -1000001 else (if x = 1 then (dysC n8 (cl y) (m.1 50)) 3 else if x = 2 then (dysC n8 (cl y) (m.1 50)) 4 else tdF ((dysC n8 (cl y) (m.1 50)))))))) ((if (!tlk2 x || outI y 0 100) = true then fnm m 0 else asM m)) := by
  refine ct_ofd (n := 1) (by decide +kernel) rfl rfl ?_
  show XX RX5 cX5_sea 4 (some .int) 6 136 K 0 [some (.ref 49), some (.int x), some (.int y), none] [] (m) (fun r1 m1 => r1 = (some (.int ((if (!tlk2 x || outI y 0 100) = true then -1000001 else (if x = 1 then (dysC n8 (cl y) (m.1 50)) 3 else if x = 2 then (dysC n8 (cl y) (m.1 50)) 4 else tdF ((dysC n8 (cl y) (m.1 50)))))))) ∧ m1 = (if (!tlk2 x || outI y 0 100) = true then fnm m 0 else asM m))
  refine x_iload_n (q := 1) dX5_sea_0 rfl rfl ?_
  refine x_iconst (q := 2) (v := 1) dX5_sea_1 rfl (by decide) ?_
  refine x_icmp_eq (q := 5) (t := 16) dX5_sea_2 rfl (by decide) (fun h2 => ?_) (fun h2 => ?_)
  · refine x_iconst (q := 17) (v := 1) dX5_sea_16 rfl (by decide) ?_
    refine x_goto (q := 21) dX5_sea_17 (by decide) ?_
    refine x_istore_n (q := 22) dX5_sea_21 rfl (by decide) rfl rfl ?_
    refine x_iload_n (q := 23) dX5_sea_22 rfl rfl ?_
    refine x_if_eq (q := 26) (t := 59) dX5_sea_23 rfl (by decide) (fun h => absurd h (by decide)) (fun _ => ?_)
    refine x_iload_n (q := 27) dX5_sea_26 rfl rfl ?_
    refine x_iconst (q := 28) (v := 0) dX5_sea_27 rfl (by decide) ?_
    refine x_bipush (q := 30) (v := 100) dX5_sea_28 rfl (by decide) ?_
    refine x_callS3v (q := 33) dX5_sea_30 rfl ml_X5_48 ms_X5_in1 c_X5_in1 (Nat.le_of_ble_eq_true rfl) ⟨by decide, by decide⟩ ?_
    refine x_ifB_eq (q := 36) (t := 59) dX5_sea_33 rfl (by decide) (fun h33 => ?_) (fun h33 => ?_)
    · replace h33 := in_f h33
      refine x_aload_n (q := 60) dX5_sea_59 rfl rfl ?_
      refine x_iconst (q := 61) (v := 0) dX5_sea_60 rfl (by decide) ?_
      refine x_callV1v (q := 64) dX5_sea_61 rfl ml_X5_103 mv_X5_no rv5 rfl (c_X5_nox (w := 0) (x := -1000001) (by decide) (by decide)) (Nat.le_of_ble_eq_true rfl) ⟨by decide, by decide⟩ ?_
      refine x_ireturn dX5_sea_64 rfl rfl ?_
      have ht := (by simp [tlk2, h2] : tlk2 x = true)
      exact ⟨by simp [ht, h33], by simp [ht, h33]⟩
    replace h33 := in_t h33
    have ht := (by simp [tlk2, h2] : tlk2 x = true)
    obtain ⟨c, -, hc2, rfl⟩ := out_rng (a := 0) (b := 100) (x := y) (by decide) (by decide) h33
    have ec : cl (nI c) = c := jnI_clamp (by omega)
    refine x_aload_n (q := 37) dX5_sea_36 rfl rfl ?_
    refine x_iload_n (q := 38) dX5_sea_37 rfl rfl ?_
    refine x_bipush (q := 40) (v := 6) dX5_sea_38 rfl (by decide) ?_
    refine x_icmp_ne (q := 43) (t := 47) dX5_sea_40 rfl (by decide) (fun h40 => ?_) (fun h40 => ?_)
    · obtain ⟨A, hA, ea, e12⟩ : ∃ A, A < 78 ∧ (3 : Int32) + x - 1 = nI A ∧ ((x = 1 ∧ A = 3) ∨ (x = 2 ∧ A = 4)) := ⟨3, by decide, by rw [h2]; decide, Or.inl ⟨h2, rfl⟩⟩
      refine x_iconst (q := 48) (v := 3) dX5_sea_47 rfl (by decide) ?_
      refine x_iload_n (q := 49) dX5_sea_48 rfl rfl ?_
      refine x_iadd (q := 50) dX5_sea_49 rfl ?_
      refine x_iconst (q := 51) (v := 1) dX5_sea_50 rfl (by decide) ?_
      refine x_isub (q := 52) dX5_sea_51 rfl ?_
      refine x_iload_n (q := 53) dX5_sea_52 rfl rfl ?_
      refine x_callV2v (q := 56) dX5_sea_53 rfl ml_X5_130 mv_X5_thenAt rv5 rfl (by rw [ea]; exact c_X5_thenAt (a := A) hA (by omega) hI) (Nat.le_of_ble_eq_true rfl) ⟨by decide, by decide⟩ ?_
      refine x_goto (q := 64) dX5_sea_56 (by decide) ?_
      refine x_ireturn dX5_sea_64 rfl rfl ?_
      refine ⟨?_, ?_⟩
      · simp only [h33, ht, ec, Bool.false_eq_true, Bool.or_false, Bool.false_or, Bool.or_true, Bool.true_or, Bool.or_self, Bool.not_true, Bool.not_false, if_false, if_true]
        rcases e12 with ⟨q, rfl⟩ | ⟨q, rfl⟩
        · rw [if_pos q]
        · rw [if_neg (by rw [q]; decide), if_pos q]
      · simp only [h33, ht, Bool.false_eq_true, Bool.or_false, Bool.false_or, Bool.or_true, Bool.true_or, Bool.or_self, Bool.not_true, Bool.not_false, if_false, if_true]
    refine x_iconst (q := 44) (v := (-1)) dX5_sea_43 rfl (by decide) ?_
    refine x_goto (q := 52) dX5_sea_44 (by decide) ?_
    refine x_iload_n (q := 53) dX5_sea_52 rfl rfl ?_
    refine x_callV2v (q := 56) dX5_sea_53 rfl ml_X5_130 mv_X5_thenAt rv5 rfl (c_X5_thenAtT (by omega) hI) (Nat.le_of_ble_eq_true rfl) ⟨by decide, by decide⟩ ?_
    refine x_goto (q := 64) dX5_sea_56 (by decide) ?_
    refine x_ireturn dX5_sea_64 rfl rfl ?_
    refine ⟨?_, ?_⟩
    · simp only [h33, ht, ec, Bool.false_eq_true, Bool.or_false, Bool.false_or, Bool.or_true, Bool.true_or, Bool.or_self, Bool.not_true, Bool.not_false, if_false, if_true]
      rw [if_neg (by rw [h40]; decide), if_neg (by rw [h40]; decide)]
    · simp only [h33, ht, Bool.false_eq_true, Bool.or_false, Bool.false_or, Bool.or_true, Bool.true_or, Bool.or_self, Bool.not_true, Bool.not_false, if_false, if_true]
  refine x_iload_n (q := 6) dX5_sea_5 rfl rfl ?_
  refine x_iconst (q := 7) (v := 2) dX5_sea_6 rfl (by decide) ?_
  refine x_icmp_eq (q := 10) (t := 16) dX5_sea_7 rfl (by decide) (fun h7 => ?_) (fun h7 => ?_)
  · refine x_iconst (q := 17) (v := 1) dX5_sea_16 rfl (by decide) ?_
    refine x_goto (q := 21) dX5_sea_17 (by decide) ?_
    refine x_istore_n (q := 22) dX5_sea_21 rfl (by decide) rfl rfl ?_
    refine x_iload_n (q := 23) dX5_sea_22 rfl rfl ?_
    refine x_if_eq (q := 26) (t := 59) dX5_sea_23 rfl (by decide) (fun h => absurd h (by decide)) (fun _ => ?_)
    refine x_iload_n (q := 27) dX5_sea_26 rfl rfl ?_
    refine x_iconst (q := 28) (v := 0) dX5_sea_27 rfl (by decide) ?_
    refine x_bipush (q := 30) (v := 100) dX5_sea_28 rfl (by decide) ?_
    refine x_callS3v (q := 33) dX5_sea_30 rfl ml_X5_48 ms_X5_in1 c_X5_in1 (Nat.le_of_ble_eq_true rfl) ⟨by decide, by decide⟩ ?_
    refine x_ifB_eq (q := 36) (t := 59) dX5_sea_33 rfl (by decide) (fun h33 => ?_) (fun h33 => ?_)
    · replace h33 := in_f h33
      refine x_aload_n (q := 60) dX5_sea_59 rfl rfl ?_
      refine x_iconst (q := 61) (v := 0) dX5_sea_60 rfl (by decide) ?_
      refine x_callV1v (q := 64) dX5_sea_61 rfl ml_X5_103 mv_X5_no rv5 rfl (c_X5_nox (w := 0) (x := -1000001) (by decide) (by decide)) (Nat.le_of_ble_eq_true rfl) ⟨by decide, by decide⟩ ?_
      refine x_ireturn dX5_sea_64 rfl rfl ?_
      have ht := (by simp [tlk2, h2, h7] : tlk2 x = true)
      exact ⟨by simp [ht, h33], by simp [ht, h33]⟩
    replace h33 := in_t h33
    have ht := (by simp [tlk2, h2, h7] : tlk2 x = true)
    obtain ⟨c, -, hc2, rfl⟩ := out_rng (a := 0) (b := 100) (x := y) (by decide) (by decide) h33
    have ec : cl (nI c) = c := jnI_clamp (by omega)
    refine x_aload_n (q := 37) dX5_sea_36 rfl rfl ?_
    refine x_iload_n (q := 38) dX5_sea_37 rfl rfl ?_
    refine x_bipush (q := 40) (v := 6) dX5_sea_38 rfl (by decide) ?_
    refine x_icmp_ne (q := 43) (t := 47) dX5_sea_40 rfl (by decide) (fun h40 => ?_) (fun h40 => ?_)
    · obtain ⟨A, hA, ea, e12⟩ : ∃ A, A < 78 ∧ (3 : Int32) + x - 1 = nI A ∧ ((x = 1 ∧ A = 3) ∨ (x = 2 ∧ A = 4)) := ⟨4, by decide, by rw [h7]; decide, Or.inr ⟨h7, rfl⟩⟩
      refine x_iconst (q := 48) (v := 3) dX5_sea_47 rfl (by decide) ?_
      refine x_iload_n (q := 49) dX5_sea_48 rfl rfl ?_
      refine x_iadd (q := 50) dX5_sea_49 rfl ?_
      refine x_iconst (q := 51) (v := 1) dX5_sea_50 rfl (by decide) ?_
      refine x_isub (q := 52) dX5_sea_51 rfl ?_
      refine x_iload_n (q := 53) dX5_sea_52 rfl rfl ?_
      refine x_callV2v (q := 56) dX5_sea_53 rfl ml_X5_130 mv_X5_thenAt rv5 rfl (by rw [ea]; exact c_X5_thenAt (a := A) hA (by omega) hI) (Nat.le_of_ble_eq_true rfl) ⟨by decide, by decide⟩ ?_
      refine x_goto (q := 64) dX5_sea_56 (by decide) ?_
      refine x_ireturn dX5_sea_64 rfl rfl ?_
      refine ⟨?_, ?_⟩
      · simp only [h33, ht, ec, Bool.false_eq_true, Bool.or_false, Bool.false_or, Bool.or_true, Bool.true_or, Bool.or_self, Bool.not_true, Bool.not_false, if_false, if_true]
        rcases e12 with ⟨q, rfl⟩ | ⟨q, rfl⟩
        · rw [if_pos q]
        · rw [if_neg (by rw [q]; decide), if_pos q]
      · simp only [h33, ht, Bool.false_eq_true, Bool.or_false, Bool.false_or, Bool.or_true, Bool.true_or, Bool.or_self, Bool.not_true, Bool.not_false, if_false, if_true]
    refine x_iconst (q := 44) (v := (-1)) dX5_sea_43 rfl (by decide) ?_
    refine x_goto (q := 52) dX5_sea_44 (by decide) ?_
    refine x_iload_n (q := 53) dX5_sea_52 rfl rfl ?_
    refine x_callV2v (q := 56) dX5_sea_53 rfl ml_X5_130 mv_X5_thenAt rv5 rfl (c_X5_thenAtT (by omega) hI) (Nat.le_of_ble_eq_true rfl) ⟨by decide, by decide⟩ ?_
    refine x_goto (q := 64) dX5_sea_56 (by decide) ?_
    refine x_ireturn dX5_sea_64 rfl rfl ?_
    refine ⟨?_, ?_⟩
    · simp only [h33, ht, ec, Bool.false_eq_true, Bool.or_false, Bool.false_or, Bool.or_true, Bool.true_or, Bool.or_self, Bool.not_true, Bool.not_false, if_false, if_true]
      rw [if_neg (by rw [h40]; decide), if_neg (by rw [h40]; decide)]
    · simp only [h33, ht, Bool.false_eq_true, Bool.or_false, Bool.false_or, Bool.or_true, Bool.true_or, Bool.or_self, Bool.not_true, Bool.not_false, if_false, if_true]
  refine x_iload_n (q := 11) dX5_sea_10 rfl rfl ?_
  refine x_bipush (q := 13) (v := 6) dX5_sea_11 rfl (by decide) ?_
  refine x_icmp_ne (q := 16) (t := 20) dX5_sea_13 rfl (by decide) (fun h13 => ?_) (fun h13 => ?_)
  · refine x_iconst (q := 21) (v := 0) dX5_sea_20 rfl (by decide) ?_
    refine x_istore_n (q := 22) dX5_sea_21 rfl (by decide) rfl rfl ?_
    refine x_iload_n (q := 23) dX5_sea_22 rfl rfl ?_
    refine x_if_eq (q := 26) (t := 59) dX5_sea_23 rfl (by decide) (fun _ => ?_) (fun h => absurd (by decide) h)
    refine x_aload_n (q := 60) dX5_sea_59 rfl rfl ?_
    refine x_iconst (q := 61) (v := 0) dX5_sea_60 rfl (by decide) ?_
    refine x_callV1v (q := 64) dX5_sea_61 rfl ml_X5_103 mv_X5_no rv5 rfl (c_X5_nox (w := 0) (x := -1000001) (by decide) (by decide)) (Nat.le_of_ble_eq_true rfl) ⟨by decide, by decide⟩ ?_
    refine x_ireturn dX5_sea_64 rfl rfl ?_
    have ht := (by simp [tlk2, h2, h7, h13] : tlk2 x = false)
    exact ⟨by simp [ht, ht], by simp [ht, ht]⟩
  refine x_iconst (q := 17) (v := 1) dX5_sea_16 rfl (by decide) ?_
  refine x_goto (q := 21) dX5_sea_17 (by decide) ?_
  refine x_istore_n (q := 22) dX5_sea_21 rfl (by decide) rfl rfl ?_
  refine x_iload_n (q := 23) dX5_sea_22 rfl rfl ?_
  refine x_if_eq (q := 26) (t := 59) dX5_sea_23 rfl (by decide) (fun h => absurd h (by decide)) (fun _ => ?_)
  refine x_iload_n (q := 27) dX5_sea_26 rfl rfl ?_
  refine x_iconst (q := 28) (v := 0) dX5_sea_27 rfl (by decide) ?_
  refine x_bipush (q := 30) (v := 100) dX5_sea_28 rfl (by decide) ?_
  refine x_callS3v (q := 33) dX5_sea_30 rfl ml_X5_48 ms_X5_in1 c_X5_in1 (Nat.le_of_ble_eq_true rfl) ⟨by decide, by decide⟩ ?_
  refine x_ifB_eq (q := 36) (t := 59) dX5_sea_33 rfl (by decide) (fun h33 => ?_) (fun h33 => ?_)
  · replace h33 := in_f h33
    refine x_aload_n (q := 60) dX5_sea_59 rfl rfl ?_
    refine x_iconst (q := 61) (v := 0) dX5_sea_60 rfl (by decide) ?_
    refine x_callV1v (q := 64) dX5_sea_61 rfl ml_X5_103 mv_X5_no rv5 rfl (c_X5_nox (w := 0) (x := -1000001) (by decide) (by decide)) (Nat.le_of_ble_eq_true rfl) ⟨by decide, by decide⟩ ?_
    refine x_ireturn dX5_sea_64 rfl rfl ?_
    have ht := (by simp [tlk2, h2, h7, h13] : tlk2 x = true)
    exact ⟨by simp [ht, h33], by simp [ht, h33]⟩
  replace h33 := in_t h33
  have ht := (by simp [tlk2, h2, h7, h13] : tlk2 x = true)
  obtain ⟨c, -, hc2, rfl⟩ := out_rng (a := 0) (b := 100) (x := y) (by decide) (by decide) h33
  have ec : cl (nI c) = c := jnI_clamp (by omega)
  refine x_aload_n (q := 37) dX5_sea_36 rfl rfl ?_
  refine x_iload_n (q := 38) dX5_sea_37 rfl rfl ?_
  refine x_bipush (q := 40) (v := 6) dX5_sea_38 rfl (by decide) ?_
  refine x_icmp_ne (q := 43) (t := 47) dX5_sea_40 rfl (by decide) (fun h40 => ?_) (fun h40 => ?_)
  · obtain ⟨A, hA, ea, e12⟩ : ∃ A, A < 78 ∧ (3 : Int32) + x - 1 = nI A ∧ ((x = 1 ∧ A = 3) ∨ (x = 2 ∧ A = 4)) := absurd h13 h40
    refine x_iconst (q := 48) (v := 3) dX5_sea_47 rfl (by decide) ?_
    refine x_iload_n (q := 49) dX5_sea_48 rfl rfl ?_
    refine x_iadd (q := 50) dX5_sea_49 rfl ?_
    refine x_iconst (q := 51) (v := 1) dX5_sea_50 rfl (by decide) ?_
    refine x_isub (q := 52) dX5_sea_51 rfl ?_
    refine x_iload_n (q := 53) dX5_sea_52 rfl rfl ?_
    refine x_callV2v (q := 56) dX5_sea_53 rfl ml_X5_130 mv_X5_thenAt rv5 rfl (by rw [ea]; exact c_X5_thenAt (a := A) hA (by omega) hI) (Nat.le_of_ble_eq_true rfl) ⟨by decide, by decide⟩ ?_
    refine x_goto (q := 64) dX5_sea_56 (by decide) ?_
    refine x_ireturn dX5_sea_64 rfl rfl ?_
    refine ⟨?_, ?_⟩
    · simp only [h33, ht, ec, Bool.false_eq_true, Bool.or_false, Bool.false_or, Bool.or_true, Bool.true_or, Bool.or_self, Bool.not_true, Bool.not_false, if_false, if_true]
      rcases e12 with ⟨q, rfl⟩ | ⟨q, rfl⟩
      · rw [if_pos q]
      · rw [if_neg (by rw [q]; decide), if_pos q]
    · simp only [h33, ht, Bool.false_eq_true, Bool.or_false, Bool.false_or, Bool.or_true, Bool.true_or, Bool.or_self, Bool.not_true, Bool.not_false, if_false, if_true]
  refine x_iconst (q := 44) (v := (-1)) dX5_sea_43 rfl (by decide) ?_
  refine x_goto (q := 52) dX5_sea_44 (by decide) ?_
  refine x_iload_n (q := 53) dX5_sea_52 rfl rfl ?_
  refine x_callV2v (q := 56) dX5_sea_53 rfl ml_X5_130 mv_X5_thenAt rv5 rfl (c_X5_thenAtT (by omega) hI) (Nat.le_of_ble_eq_true rfl) ⟨by decide, by decide⟩ ?_
  refine x_goto (q := 64) dX5_sea_56 (by decide) ?_
  refine x_ireturn dX5_sea_64 rfl rfl ?_
  refine ⟨?_, ?_⟩
  · simp only [h33, ht, ec, Bool.false_eq_true, Bool.or_false, Bool.false_or, Bool.or_true, Bool.true_or, Bool.or_self, Bool.not_true, Bool.not_false, if_false, if_true]
    rw [if_neg (by rw [h40]; decide), if_neg (by rw [h40]; decide)]
  · simp only [h33, ht, Bool.false_eq_true, Bool.or_false, Bool.false_or, Bool.or_true, Bool.true_or, Bool.or_self, Bool.not_true, Bool.not_false, if_false, if_true]
theorem dX5_isSo_0 : decode cX5_isSo 0 = .ok (.iload_n 1, 1) := by decide +kernel
theorem dX5_isSo_1 : decode cX5_isSo 1 = .ok (.ifCond .ne 19, 3) := by decide +kernel
theorem dX5_isSo_4 : decode cX5_isSo 4 = .ok (.aload_n 0, 1) := by decide +kernel
theorem dX5_isSo_5 : decode cX5_isSo 5 = .ok (.iconst 0, 1) := by decide +kernel
theorem dX5_isSo_6 : decode cX5_isSo 6 = .ok (.invokevirtual 118, 3) := by decide +kernel
theorem dX5_isSo_9 : decode cX5_isSo 9 = .ok (.ifCond .ne 7, 3) := by decide +kernel
theorem dX5_isSo_12 : decode cX5_isSo 12 = .ok (.iconst 1, 1) := by decide +kernel
theorem dX5_isSo_13 : decode cX5_isSo 13 = .ok (.goto 45, 3) := by decide +kernel
theorem dX5_isSo_16 : decode cX5_isSo 16 = .ok (.iconst 0, 1) := by decide +kernel
theorem dX5_isSo_17 : decode cX5_isSo 17 = .ok (.goto 41, 3) := by decide +kernel
theorem dX5_isSo_20 : decode cX5_isSo 20 = .ok (.iload_n 1, 1) := by decide +kernel
theorem dX5_isSo_21 : decode cX5_isSo 21 = .ok (.iconst 3, 1) := by decide +kernel
theorem dX5_isSo_22 : decode cX5_isSo 22 = .ok (.if_icmp .ne 21, 3) := by decide +kernel
theorem dX5_isSo_25 : decode cX5_isSo 25 = .ok (.aload_n 0, 1) := by decide +kernel
theorem dX5_isSo_26 : decode cX5_isSo 26 = .ok (.getfield 9, 3) := by decide +kernel
theorem dX5_isSo_29 : decode cX5_isSo 29 = .ok (.iconst 3, 1) := by decide +kernel
theorem dX5_isSo_30 : decode cX5_isSo 30 = .ok (.iaload, 1) := by decide +kernel
theorem dX5_isSo_31 : decode cX5_isSo 31 = .ok (.iload_n 2, 1) := by decide +kernel
theorem dX5_isSo_32 : decode cX5_isSo 32 = .ok (.if_icmp .lt 7, 3) := by decide +kernel
theorem dX5_isSo_35 : decode cX5_isSo 35 = .ok (.iconst 1, 1) := by decide +kernel
theorem dX5_isSo_36 : decode cX5_isSo 36 = .ok (.goto 22, 3) := by decide +kernel
theorem dX5_isSo_39 : decode cX5_isSo 39 = .ok (.iconst 0, 1) := by decide +kernel
theorem dX5_isSo_40 : decode cX5_isSo 40 = .ok (.goto 18, 3) := by decide +kernel
theorem dX5_isSo_43 : decode cX5_isSo 43 = .ok (.aload_n 0, 1) := by decide +kernel
theorem dX5_isSo_44 : decode cX5_isSo 44 = .ok (.iload_n 2, 1) := by decide +kernel
theorem dX5_isSo_45 : decode cX5_isSo 45 = .ok (.iconst 4, 1) := by decide +kernel
theorem dX5_isSo_46 : decode cX5_isSo 46 = .ok (.invokevirtual 52, 3) := by decide +kernel
theorem dX5_isSo_49 : decode cX5_isSo 49 = .ok (.iload_n 1, 1) := by decide +kernel
theorem dX5_isSo_50 : decode cX5_isSo 50 = .ok (.if_icmp .ne 7, 3) := by decide +kernel
theorem dX5_isSo_53 : decode cX5_isSo 53 = .ok (.iconst 1, 1) := by decide +kernel
theorem dX5_isSo_54 : decode cX5_isSo 54 = .ok (.goto 4, 3) := by decide +kernel
theorem dX5_isSo_57 : decode cX5_isSo 57 = .ok (.iconst 0, 1) := by decide +kernel
theorem dX5_isSo_58 : decode cX5_isSo 58 = .ok (.ireturn, 1) := by decide +kernel
set_option maxRecDepth 20000 in
set_option maxHeartbeats 4000000 in
theorem c_X5_isSo {K : Cx} {w v : Int32} {n8 : Nat} {s : Nat → Int32} {m : TM} (hn : s 1 = nI n8) (h8 : n8 ≤ 8) (hv : w = 0 ∨ w = 3 ∨ ∃ k, k < 8 ∧ v = nI k) : CT yX5_isSo cX5_isSo 3 (some .boolean) 2 45 K [.ref 49, .int w, .int v] (sr m 50 s) (some (.int (bI (isoF s n8 w v)))) (sr m 50 s) := by
  refine ct_ofd (n := 0) (by decide +kernel) rfl rfl ?_
  show XX RX5 cX5_isSo 3 (some .boolean) 2 45 K 0 [some (.ref 49), some (.int w), some (.int v)] [] (sr m 50 s) (fun r1 m1 => r1 = (some (.int (bI (isoF s n8 w v)))) ∧ m1 = sr m 50 s)
  refine x_iload_n (q := 1) dX5_isSo_0 rfl rfl ?_
  refine x_if_ne (q := 4) (t := 20) dX5_isSo_1 rfl (by decide) (fun h1 => ?_) (fun h1 => ?_)
  · refine x_iload_n (q := 21) dX5_isSo_20 rfl rfl ?_
    refine x_iconst (q := 22) (v := 3) dX5_isSo_21 rfl (by decide) ?_
    refine x_icmp_ne (q := 25) (t := 43) dX5_isSo_22 rfl (by decide) (fun h22 => ?_) (fun h22 => ?_)
    · obtain ⟨k, hk8, rfl⟩ : ∃ k, k < 8 ∧ v = nI k := by
        rcases hv with q | q | q
        · exact absurd q h1
        · exact absurd q h22
        · exact q
      have ek : cl (nI k) = k := jnI_clamp (by omega)
      refine x_aload_n (q := 44) dX5_isSo_43 rfl rfl ?_
      refine x_iload_n (q := 45) dX5_isSo_44 rfl rfl ?_
      refine x_iconst (q := 46) (v := 4) dX5_isSo_45 rfl (by decide) ?_
      refine x_callV2v (q := 49) dX5_isSo_46 rfl ml_X5_52 mv_X5_get rv5 rfl (c_X5_getr (f := 4) hk8 (by decide)) (Nat.le_of_ble_eq_true rfl) ⟨by decide, by decide⟩ ?_
      refine x_iload_n (q := 50) dX5_isSo_49 rfl rfl ?_
      refine x_icmp_ne (q := 53) (t := 57) dX5_isSo_50 rfl (by decide) (fun h50 => ?_) (fun h50 => ?_)
      · refine x_iconst (q := 58) (v := 0) dX5_isSo_57 rfl (by decide) ?_
        refine x_ireturn dX5_isSo_58 rfl (by decide) ?_
        refine ⟨?_, rfl⟩
        unfold isoF
        rw [if_neg h1, if_neg h22, ek]
        rw [decide_eq_false h50]
        rfl
      refine x_iconst (q := 54) (v := 1) dX5_isSo_53 rfl (by decide) ?_
      refine x_goto (q := 58) dX5_isSo_54 (by decide) ?_
      refine x_ireturn dX5_isSo_58 rfl (by decide) ?_
      refine ⟨?_, rfl⟩
      unfold isoF
      rw [if_neg h1, if_neg h22, ek]
      rw [decide_eq_true h50]
      rfl
    refine x_aload_n (q := 26) dX5_isSo_25 rfl rfl ?_
    refine x_getR (q := 29) dX5_isSo_26 rfl fl_X5_9 (or5_s) ?_
    refine x_iconst (q := 30) (v := 3) dX5_isSo_29 rfl (by decide) ?_
    refine x_ialdr (q := 31) dX5_isSo_30 rfl (ar_50) (ix_nI (k := 3) (by decide) (by decide)) (Nat.zero_add _) ?_
    refine x_iload_n (q := 32) dX5_isSo_31 rfl rfl ?_
    refine x_icmp_lt (q := 35) (t := 39) dX5_isSo_32 rfl (by decide) (fun h32 => ?_) (fun h32 => ?_)
    · refine x_iconst (q := 40) (v := 0) dX5_isSo_39 rfl (by decide) ?_
      refine x_goto (q := 58) dX5_isSo_40 (by decide) ?_
      refine x_ireturn dX5_isSo_58 rfl (by decide) ?_
      refine ⟨?_, rfl⟩
      unfold isoF
      rw [if_neg h1, if_pos h22]
      rw [decide_eq_true h32]
      rfl
    refine x_iconst (q := 36) (v := 1) dX5_isSo_35 rfl (by decide) ?_
    refine x_goto (q := 58) dX5_isSo_36 (by decide) ?_
    refine x_ireturn dX5_isSo_58 rfl (by decide) ?_
    refine ⟨?_, rfl⟩
    unfold isoF
    rw [if_neg h1, if_pos h22]
    rw [decide_eq_false h32]
    rfl
  refine x_aload_n (q := 5) dX5_isSo_4 rfl rfl ?_
  refine x_iconst (q := 6) (v := 0) dX5_isSo_5 rfl (by decide) ?_
  refine x_callV1v (q := 9) dX5_isSo_6 rfl ml_X5_118 mv_X5_those rv5 rfl (c_X5_those hn h8) (Nat.le_of_ble_eq_true rfl) ⟨by decide, by decide⟩ ?_
  refine x_if_ne (q := 12) (t := 16) dX5_isSo_9 rfl (by decide) (fun h9 => ?_) (fun h9 => ?_)
  · refine x_iconst (q := 17) (v := 0) dX5_isSo_16 rfl (by decide) ?_
    refine x_goto (q := 58) dX5_isSo_17 (by decide) ?_
    refine x_ireturn dX5_isSo_58 rfl (by decide) ?_
    refine ⟨?_, rfl⟩
    unfold isoF
    rw [if_pos h1]
    rw [decide_eq_false h9]
    rfl
  refine x_iconst (q := 13) (v := 1) dX5_isSo_12 rfl (by decide) ?_
  refine x_goto (q := 58) dX5_isSo_13 (by decide) ?_
  refine x_ireturn dX5_isSo_58 rfl (by decide) ?_
  refine ⟨?_, rfl⟩
  unfold isoF
  rw [if_pos h1]
  rw [decide_eq_true h9]
  rfl
theorem dX5_firstBy_0 : decode cX5_firstBy 0 = .ok (.aload_n 0, 1) := by decide +kernel
theorem dX5_firstBy_1 : decode cX5_firstBy 1 = .ok (.invokevirtual 124, 3) := by decide +kernel
theorem dX5_firstBy_4 : decode cX5_firstBy 4 = .ok (.iconst 0, 1) := by decide +kernel
theorem dX5_firstBy_5 : decode cX5_firstBy 5 = .ok (.istore_n 3, 1) := by decide +kernel
theorem dX5_firstBy_6 : decode cX5_firstBy 6 = .ok (.iload_n 3, 1) := by decide +kernel
theorem dX5_firstBy_7 : decode cX5_firstBy 7 = .ok (.sipush 200, 3) := by decide +kernel
theorem dX5_firstBy_10 : decode cX5_firstBy 10 = .ok (.if_icmp .gt 22, 3) := by decide +kernel
theorem dX5_firstBy_13 : decode cX5_firstBy 13 = .ok (.aload_n 0, 1) := by decide +kernel
theorem dX5_firstBy_14 : decode cX5_firstBy 14 = .ok (.iload_n 1, 1) := by decide +kernel
theorem dX5_firstBy_15 : decode cX5_firstBy 15 = .ok (.iload_n 2, 1) := by decide +kernel
theorem dX5_firstBy_16 : decode cX5_firstBy 16 = .ok (.invokevirtual 133, 3) := by decide +kernel
theorem dX5_firstBy_19 : decode cX5_firstBy 19 = .ok (.ifCond .ne 13, 3) := by decide +kernel
theorem dX5_firstBy_22 : decode cX5_firstBy 22 = .ok (.aload_n 0, 1) := by decide +kernel
theorem dX5_firstBy_23 : decode cX5_firstBy 23 = .ok (.invokevirtual 93, 3) := by decide +kernel
theorem dX5_firstBy_26 : decode cX5_firstBy 26 = .ok (.iinc 3 1, 3) := by decide +kernel
theorem dX5_firstBy_29 : decode cX5_firstBy 29 = .ok (.goto (-23), 3) := by decide +kernel
theorem dX5_firstBy_32 : decode cX5_firstBy 32 = .ok (.aload_n 0, 1) := by decide +kernel
theorem dX5_firstBy_33 : decode cX5_firstBy 33 = .ok (.invokevirtual 127, 3) := by decide +kernel
theorem dX5_firstBy_36 : decode cX5_firstBy 36 = .ok (.iload_n 3, 1) := by decide +kernel
theorem dX5_firstBy_37 : decode cX5_firstBy 37 = .ok (.sipush 200, 3) := by decide +kernel
theorem dX5_firstBy_40 : decode cX5_firstBy 40 = .ok (.if_icmp .le 11, 3) := by decide +kernel
theorem dX5_firstBy_43 : decode cX5_firstBy 43 = .ok (.aload_n 0, 1) := by decide +kernel
theorem dX5_firstBy_44 : decode cX5_firstBy 44 = .ok (.iconst 3, 1) := by decide +kernel
theorem dX5_firstBy_45 : decode cX5_firstBy 45 = .ok (.invokevirtual 103, 3) := by decide +kernel
theorem dX5_firstBy_48 : decode cX5_firstBy 48 = .ok (.goto 4, 3) := by decide +kernel
theorem dX5_firstBy_51 : decode cX5_firstBy 51 = .ok (.iload_n 3, 1) := by decide +kernel
theorem dX5_firstBy_52 : decode cX5_firstBy 52 = .ok (.ireturn, 1) := by decide +kernel
def ansF (m : TM) (r : Option Nat) : TM := match r with
  | some _ => asM m
  | none => fnm (asM m) 3
set_option maxRecDepth 20000 in
set_option maxHeartbeats 4000000 in
theorem l_X5_firstBy {K : Cx} {w v : Int32} {n8 : Nat} {s : Nat → Int32} {m : TM} (hs : s = m.1 50) (hI : Iv n8 s) (hv : w = 0 ∨ w = 3 ∨ ∃ k, k < 8 ∧ v = nI k) : ∀ (n : Nat) (j : Nat), 201 - j < n → j ≤ 201 → XX RX5 cX5_firstBy 4 (some .int) 4 91 K 6 [some (.ref 49), some (.int w), some (.int v), some (.int (nI j))] [] (sr (asM m) 50 (dysC n8 j s)) (fun r1 m1 => r1 = (some (.int (ansN (srch (fun q => isoF (dysC n8 q s) n8 w v) (201 - j) j)))) ∧ m1 = ansF m (srch (fun q => isoF (dysC n8 q s) n8 w v) (201 - j) j)) := by
  intro n
  induction n with
  | zero => intro j hlt; exact absurd hlt (Nat.not_lt_zero _)
  | succ n ih =>
    intro j hlt hj
    refine x_iload_n (q := 7) dX5_firstBy_6 rfl rfl ?_
    refine x_sipush (q := 10) (v := 200) dX5_firstBy_7 rfl (by decide) ?_
    refine x_icmp_gt (q := 13) (t := 32) dX5_firstBy_10 rfl (by decide) (fun h10 => ?_) (fun h10 => ?_)
    · refine x_aload_n (q := 33) dX5_firstBy_32 rfl rfl ?_
      refine x_callV0n (q := 36) dX5_firstBy_33 rfl ml_X5_127 mv_X5_laysBack rv5 rfl c_back (Nat.le_of_ble_eq_true rfl) ⟨by decide, by decide⟩ ?_
      refine x_iload_n (q := 37) dX5_firstBy_36 rfl rfl ?_
      refine x_sipush (q := 40) (v := 200) dX5_firstBy_37 rfl (by decide) ?_
      refine x_icmp_le (q := 43) (t := 51) dX5_firstBy_40 rfl (by decide) (fun h40 => ?_) (fun h40 => ?_)
      · refine x_iload_n (q := 52) dX5_firstBy_51 rfl rfl ?_
        refine x_ireturn dX5_firstBy_52 rfl rfl ?_
        exact absurd h10 (Int32.not_lt.mpr h40)
      refine x_aload_n (q := 44) dX5_firstBy_43 rfl rfl ?_
      refine x_iconst (q := 45) (v := 3) dX5_firstBy_44 rfl (by decide) ?_
      refine x_callV1v (q := 48) dX5_firstBy_45 rfl ml_X5_103 mv_X5_no rv5 rfl (c_X5_nox (w := 3) (x := -1000004) (by decide) (by decide)) (Nat.le_of_ble_eq_true rfl) ⟨by decide, by decide⟩ ?_
      refine x_goto (q := 52) dX5_firstBy_48 (by decide) ?_
      refine x_ireturn dX5_firstBy_52 rfl rfl ?_
      have e : j = 201 := by
        have h9 : 200 < j := (jnI_lt (a := 200) (b := j) (by omega) (by omega)).mp h10
        omega
      subst e
      exact ⟨rfl, rfl⟩
    have hjn : j < 201 := by
      have h9 : ¬ 200 < j := fun q => h10 ((jnI_lt (a := 200) (b := j) (by omega) (by omega)).mpr q)
      omega
    have e1 : 201 - j = (201 - (j + 1)) + 1 := by omega
    rw [e1]
    simp only [srch]
    refine x_aload_n (q := 14) dX5_firstBy_13 rfl rfl ?_
    refine x_iload_n (q := 15) dX5_firstBy_14 rfl rfl ?_
    refine x_iload_n (q := 16) dX5_firstBy_15 rfl rfl ?_
    refine x_callV2v (q := 19) dX5_firstBy_16 rfl ml_X5_133 mv_X5_isSo rv5 rfl (c_X5_isSo (hI.days j).2.1 hI.1 hv) (Nat.le_of_ble_eq_true rfl) ⟨by decide, by decide⟩ ?_
    refine x_ifB_ne (q := 22) (t := 32) dX5_firstBy_19 rfl (by decide) (fun h19 => ?_) (fun h19 => ?_)
    · refine x_aload_n (q := 33) dX5_firstBy_32 rfl rfl ?_
      refine x_callV0n (q := 36) dX5_firstBy_33 rfl ml_X5_127 mv_X5_laysBack rv5 rfl c_back (Nat.le_of_ble_eq_true rfl) ⟨by decide, by decide⟩ ?_
      refine x_iload_n (q := 37) dX5_firstBy_36 rfl rfl ?_
      refine x_sipush (q := 40) (v := 200) dX5_firstBy_37 rfl (by decide) ?_
      refine x_icmp_le (q := 43) (t := 51) dX5_firstBy_40 rfl (by decide) (fun h40 => ?_) (fun h40 => ?_)
      · refine x_iload_n (q := 52) dX5_firstBy_51 rfl rfl ?_
        refine x_ireturn dX5_firstBy_52 rfl rfl ?_
        rw [if_pos h19]
        exact ⟨rfl, rfl⟩
      refine x_aload_n (q := 44) dX5_firstBy_43 rfl rfl ?_
      refine x_iconst (q := 45) (v := 3) dX5_firstBy_44 rfl (by decide) ?_
      refine x_callV1v (q := 48) dX5_firstBy_45 rfl ml_X5_103 mv_X5_no rv5 rfl (c_X5_nox (w := 3) (x := -1000004) (by decide) (by decide)) (Nat.le_of_ble_eq_true rfl) ⟨by decide, by decide⟩ ?_
      refine x_goto (q := 52) dX5_firstBy_48 (by decide) ?_
      refine x_ireturn dX5_firstBy_52 rfl rfl ?_
      exact absurd (Int32.not_le.mp h40) h10
    refine x_aload_n (q := 23) dX5_firstBy_22 rfl rfl ?_
    refine x_callV0n (q := 26) dX5_firstBy_23 rfl ml_X5_93 mv_X5_day rv5 rfl (c_X5_day (hI.days j)) (Nat.le_of_ble_eq_true rfl) ⟨by decide, by decide⟩ ?_
    refine x_iinc (q := 29) (v := nI (j + 1)) dX5_firstBy_26 rfl rfl (jnI_s j) (by decide) rfl rfl ?_
    refine x_goto (q := 6) dX5_firstBy_29 (by decide) ?_
    rw [if_neg (by rw [h19]; decide)]
    have key := ih (j + 1) (by omega) (by omega)
    rw [dysC_s] at key
    exact key
set_option maxRecDepth 20000 in
set_option maxHeartbeats 4000000 in
theorem c_X5_firstBy {K : Cx} {w v : Int32} {n8 : Nat} {m : TM} (hI : Iv n8 (m.1 50)) (hv : w = 0 ∨ w = 3 ∨ ∃ k, k < 8 ∧ v = nI k) : CT yX5_firstBy cX5_firstBy 4 (some .int) 4 91 K [.ref 49, .int w, .int v] (m) (some (.int (ansN (srch (fun q => isoF (dysC n8 q (m.1 50)) n8 w v) 201 0)))) (ansF m (srch (fun q => isoF (dysC n8 q (m.1 50)) n8 w v) 201 0)) := by
  refine ct_ofd (n := 1) (by decide +kernel) rfl rfl ?_
  show XX RX5 cX5_firstBy 4 (some .int) 4 91 K 0 [some (.ref 49), some (.int w), some (.int v), none] [] (m) (fun r1 m1 => r1 = (some (.int (ansN (srch (fun q => isoF (dysC n8 q (m.1 50)) n8 w v) 201 0)))) ∧ m1 = ansF m (srch (fun q => isoF (dysC n8 q (m.1 50)) n8 w v) 201 0))
  refine x_aload_n (q := 1) dX5_firstBy_0 rfl rfl ?_
  refine x_callV0n (q := 4) dX5_firstBy_1 rfl ml_X5_124 mv_X5_setsAside rv5 rfl c_set (Nat.le_of_ble_eq_true rfl) ⟨by decide, by decide⟩ ?_
  refine x_iconst (q := 5) (v := 0) dX5_firstBy_4 rfl (by decide) ?_
  refine x_istore_n (q := 6) dX5_firstBy_5 rfl (by decide) rfl rfl ?_
  exact l_X5_firstBy rfl hI hv 202 0 (by omega) (by omega)
theorem dX5_when_0 : decode cX5_when 0 = .ok (.aload_n 0, 1) := by decide +kernel
theorem dX5_when_1 : decode cX5_when 1 = .ok (.iload_n 1, 1) := by decide +kernel
theorem dX5_when_2 : decode cX5_when 2 = .ok (.invokevirtual 109, 3) := by decide +kernel
theorem dX5_when_5 : decode cX5_when 5 = .ok (.ifCond .eq 21, 3) := by decide +kernel
theorem dX5_when_8 : decode cX5_when 8 = .ok (.iload_n 2, 1) := by decide +kernel
theorem dX5_when_9 : decode cX5_when 9 = .ok (.iconst 1, 1) := by decide +kernel
theorem dX5_when_10 : decode cX5_when 10 = .ok (.iconst 2, 1) := by decide +kernel
theorem dX5_when_11 : decode cX5_when 11 = .ok (.invokestatic 48, 3) := by decide +kernel
theorem dX5_when_14 : decode cX5_when 14 = .ok (.ifCond .eq 12, 3) := by decide +kernel
theorem dX5_when_17 : decode cX5_when 17 = .ok (.aload_n 0, 1) := by decide +kernel
theorem dX5_when_18 : decode cX5_when 18 = .ok (.iload_n 2, 1) := by decide +kernel
theorem dX5_when_19 : decode cX5_when 19 = .ok (.iload_n 1, 1) := by decide +kernel
theorem dX5_when_20 : decode cX5_when 20 = .ok (.invokevirtual 136, 3) := by decide +kernel
theorem dX5_when_23 : decode cX5_when 23 = .ok (.goto 8, 3) := by decide +kernel
theorem dX5_when_26 : decode cX5_when 26 = .ok (.aload_n 0, 1) := by decide +kernel
theorem dX5_when_27 : decode cX5_when 27 = .ok (.iconst 0, 1) := by decide +kernel
theorem dX5_when_28 : decode cX5_when 28 = .ok (.invokevirtual 103, 3) := by decide +kernel
theorem dX5_when_31 : decode cX5_when 31 = .ok (.ireturn, 1) := by decide +kernel
set_option maxRecDepth 20000 in
set_option maxHeartbeats 4000000 in
theorem c_X5_when {K : Cx} {p x : Int32} {n8 : Nat} {m : TM} (hI : Iv n8 (m.1 50)) : CT yX5_when cX5_when 3 (some .int) 5 114 K [.ref 49, .int p, .int x] (m) (some (.int ((if (outI p 0 (m.1 50 1 - 1) || outI x 1 2) = true then -1000001 else ansN (srch (fun q => decide (dysC n8 q (m.1 50) (12 + 7 * cl p + 4) = x)) 201 0))))) ((if (outI p 0 (m.1 50 1 - 1) || outI x 1 2) = true then fnm m 0 else ansF m (srch (fun q => decide (dysC n8 q (m.1 50) (12 + 7 * cl p + 4) = x)) 201 0))) := by
  refine ct_ofd (n := 0) (by decide +kernel) rfl rfl ?_
  show XX RX5 cX5_when 3 (some .int) 5 114 K 0 [some (.ref 49), some (.int p), some (.int x)] [] (m) (fun r1 m1 => r1 = (some (.int ((if (outI p 0 (m.1 50 1 - 1) || outI x 1 2) = true then -1000001 else ansN (srch (fun q => decide (dysC n8 q (m.1 50) (12 + 7 * cl p + 4) = x)) 201 0))))) ∧ m1 = (if (outI p 0 (m.1 50 1 - 1) || outI x 1 2) = true then fnm m 0 else ansF m (srch (fun q => decide (dysC n8 q (m.1 50) (12 + 7 * cl p + 4) = x)) 201 0)))
  refine x_aload_n (q := 1) dX5_when_0 rfl rfl ?_
  refine x_iload_n (q := 2) dX5_when_1 rfl rfl ?_
  refine x_callV1v (q := 5) dX5_when_2 rfl ml_X5_109 mv_X5_isParcel rv5 rfl c_X5_isParcel (Nat.le_of_ble_eq_true rfl) ⟨by decide, by decide⟩ ?_
  refine x_ifB_eq (q := 8) (t := 26) dX5_when_5 rfl (by decide) (fun h5 => ?_) (fun h5 => ?_)
  · replace h5 := in_f h5
    refine x_aload_n (q := 27) dX5_when_26 rfl rfl ?_
    refine x_iconst (q := 28) (v := 0) dX5_when_27 rfl (by decide) ?_
    refine x_callV1v (q := 31) dX5_when_28 rfl ml_X5_103 mv_X5_no rv5 rfl (c_X5_nox (w := 0) (x := -1000001) (by decide) (by decide)) (Nat.le_of_ble_eq_true rfl) ⟨by decide, by decide⟩ ?_
    refine x_ireturn dX5_when_31 rfl rfl ?_
    exact ⟨by simp [h5], by simp [h5]⟩
  replace h5 := in_t h5
  refine x_iload_n (q := 9) dX5_when_8 rfl rfl ?_
  refine x_iconst (q := 10) (v := 1) dX5_when_9 rfl (by decide) ?_
  refine x_iconst (q := 11) (v := 2) dX5_when_10 rfl (by decide) ?_
  refine x_callS3v (q := 14) dX5_when_11 rfl ml_X5_48 ms_X5_in1 c_X5_in1 (Nat.le_of_ble_eq_true rfl) ⟨by decide, by decide⟩ ?_
  refine x_ifB_eq (q := 17) (t := 26) dX5_when_14 rfl (by decide) (fun h14 => ?_) (fun h14 => ?_)
  · replace h14 := in_f h14
    refine x_aload_n (q := 27) dX5_when_26 rfl rfl ?_
    refine x_iconst (q := 28) (v := 0) dX5_when_27 rfl (by decide) ?_
    refine x_callV1v (q := 31) dX5_when_28 rfl ml_X5_103 mv_X5_no rv5 rfl (c_X5_nox (w := 0) (x := -1000001) (by decide) (by decide)) (Nat.le_of_ble_eq_true rfl) ⟨by decide, by decide⟩ ?_
    refine x_ireturn dX5_when_31 rfl rfl ?_
    exact ⟨by simp [h5, h14], by simp [h5, h14]⟩
  replace h14 := in_t h14
  obtain ⟨k, hk, rfl⟩ : ∃ k, k < n8 ∧ p = nI k := ⟨cl p, (par_k hI.2.1 hI.1 h5).2, par_nI hI.2.1 hI.1 h5⟩
  have hk8 : k < 8 := by have := hI.1; omega
  have ek : cl (nI k) = k := jnI_clamp (by omega)
  obtain ⟨d, hd1, hd2, rfl⟩ := out_rng (a := 1) (b := 2) (x := x) (by decide) (by decide) h14
  have eP : ∀ q, isoF (dysC n8 q (m.1 50)) n8 (nI d) (nI k) = decide (dysC n8 q (m.1 50) (12 + 7 * k + 4) = nI d) := by
    intro q
    unfold isoF
    have z0 : ¬ nI d = (0 : Int32) := fun z => absurd ((jnI_inj (a := d) (b := 0) (by omega) (by omega)).mp z) (by omega)
    have z3 : ¬ nI d = (3 : Int32) := fun z => absurd ((jnI_inj (a := d) (b := 3) (by omega) (by omega)).mp z) (by omega)
    rw [if_neg z0, if_neg z3, ek]
  refine x_aload_n (q := 18) dX5_when_17 rfl rfl ?_
  refine x_iload_n (q := 19) dX5_when_18 rfl rfl ?_
  refine x_iload_n (q := 20) dX5_when_19 rfl rfl ?_
  refine x_callV2v (q := 23) dX5_when_20 rfl ml_X5_136 mv_X5_firstBy rv5 rfl (c_X5_firstBy hI (Or.inr (Or.inr ⟨k, hk8, rfl⟩))) (Nat.le_of_ble_eq_true rfl) ⟨by decide, by decide⟩ ?_
  refine x_goto (q := 31) dX5_when_23 (by decide) ?_
  refine x_ireturn dX5_when_31 rfl rfl ?_
  simp only [h5, h14, ek, srch_congr eP, Bool.false_eq_true, Bool.or_false, Bool.false_or, Bool.or_true, Bool.true_or, Bool.or_self, Bool.not_true, Bool.not_false, if_false, if_true, and_self]
theorem dX5_cleared_0 : decode cX5_cleared 0 = .ok (.aload_n 0, 1) := by decide +kernel
theorem dX5_cleared_1 : decode cX5_cleared 1 = .ok (.iconst 0, 1) := by decide +kernel
theorem dX5_cleared_2 : decode cX5_cleared 2 = .ok (.iconst 0, 1) := by decide +kernel
theorem dX5_cleared_3 : decode cX5_cleared 3 = .ok (.invokevirtual 136, 3) := by decide +kernel
theorem dX5_cleared_6 : decode cX5_cleared 6 = .ok (.ireturn, 1) := by decide +kernel
set_option maxRecDepth 20000 in
set_option maxHeartbeats 4000000 in
theorem c_X5_cleared {K : Cx} {n8 : Nat} {m : TM} (hI : Iv n8 (m.1 50)) : CT yX5_cleared cX5_cleared 1 (some .int) 5 114 K [.ref 49] (m) (some (.int (ansN (srch (fun q => decide (thF (dysC n8 q (m.1 50)) 0 n8 = 0)) 201 0)))) (ansF m (srch (fun q => decide (thF (dysC n8 q (m.1 50)) 0 n8 = 0)) 201 0)) := by
  refine ct_ofd (n := 0) (by decide +kernel) rfl rfl ?_
  show XX RX5 cX5_cleared 1 (some .int) 5 114 K 0 [some (.ref 49)] [] (m) (fun r1 m1 => r1 = (some (.int (ansN (srch (fun q => decide (thF (dysC n8 q (m.1 50)) 0 n8 = 0)) 201 0)))) ∧ m1 = ansF m (srch (fun q => decide (thF (dysC n8 q (m.1 50)) 0 n8 = 0)) 201 0))
  refine x_aload_n (q := 1) dX5_cleared_0 rfl rfl ?_
  refine x_iconst (q := 2) (v := 0) dX5_cleared_1 rfl (by decide) ?_
  refine x_iconst (q := 3) (v := 0) dX5_cleared_2 rfl (by decide) ?_
  refine x_callV2v (q := 6) dX5_cleared_3 rfl ml_X5_136 mv_X5_firstBy rv5 rfl (c_X5_firstBy hI (Or.inl rfl)) (Nat.le_of_ble_eq_true rfl) ⟨by decide, by decide⟩ ?_
  refine x_ireturn dX5_cleared_6 rfl rfl ?_
  exact ⟨rfl, rfl⟩
theorem dX5_paid_0 : decode cX5_paid 0 = .ok (.iload_n 1, 1) := by decide +kernel
theorem dX5_paid_1 : decode cX5_paid 1 = .ok (.iconst 0, 1) := by decide +kernel
theorem dX5_paid_2 : decode cX5_paid 2 = .ok (.ldc 64, 2) := by decide +kernel
theorem dX5_paid_4 : decode cX5_paid 4 = .ok (.invokestatic 48, 3) := by decide +kernel
theorem dX5_paid_7 : decode cX5_paid 7 = .ok (.ifCond .eq 12, 3) := by decide +kernel
theorem dX5_paid_10 : decode cX5_paid 10 = .ok (.aload_n 0, 1) := by decide +kernel
theorem dX5_paid_11 : decode cX5_paid 11 = .ok (.iconst 3, 1) := by decide +kernel
theorem dX5_paid_12 : decode cX5_paid 12 = .ok (.iload_n 1, 1) := by decide +kernel
theorem dX5_paid_13 : decode cX5_paid 13 = .ok (.invokevirtual 136, 3) := by decide +kernel
theorem dX5_paid_16 : decode cX5_paid 16 = .ok (.goto 8, 3) := by decide +kernel
theorem dX5_paid_19 : decode cX5_paid 19 = .ok (.aload_n 0, 1) := by decide +kernel
theorem dX5_paid_20 : decode cX5_paid 20 = .ok (.iconst 0, 1) := by decide +kernel
theorem dX5_paid_21 : decode cX5_paid 21 = .ok (.invokevirtual 103, 3) := by decide +kernel
theorem dX5_paid_24 : decode cX5_paid 24 = .ok (.ireturn, 1) := by decide +kernel
set_option maxRecDepth 20000 in
set_option maxHeartbeats 4000000 in
theorem c_X5_paid {K : Cx} {x : Int32} {n8 : Nat} {m : TM} (hI : Iv n8 (m.1 50)) : CT yX5_paid cX5_paid 2 (some .int) 5 114 K [.ref 49, .int x] (m) (some (.int ((if (outI x 0 99999) = true then -1000001 else ansN (srch (fun q => !decide (dysC n8 q (m.1 50) 3 < x)) 201 0))))) ((if (outI x 0 99999) = true then fnm m 0 else ansF m (srch (fun q => !decide (dysC n8 q (m.1 50) 3 < x)) 201 0))) := by
  refine ct_ofd (n := 0) (by decide +kernel) rfl rfl ?_
  show XX RX5 cX5_paid 2 (some .int) 5 114 K 0 [some (.ref 49), some (.int x)] [] (m) (fun r1 m1 => r1 = (some (.int ((if (outI x 0 99999) = true then -1000001 else ansN (srch (fun q => !decide (dysC n8 q (m.1 50) 3 < x)) 201 0))))) ∧ m1 = (if (outI x 0 99999) = true then fnm m 0 else ansF m (srch (fun q => !decide (dysC n8 q (m.1 50) 3 < x)) 201 0)))
  refine x_iload_n (q := 1) dX5_paid_0 rfl rfl ?_
  refine x_iconst (q := 2) (v := 0) dX5_paid_1 rfl (by decide) ?_
  refine x_ldc (q := 4) dX5_paid_2 rfl kc_X5_64 ?_
  refine x_callS3v (q := 7) dX5_paid_4 rfl ml_X5_48 ms_X5_in1 c_X5_in1 (Nat.le_of_ble_eq_true rfl) ⟨by decide, by decide⟩ ?_
  refine x_ifB_eq (q := 10) (t := 19) dX5_paid_7 rfl (by decide) (fun h7 => ?_) (fun h7 => ?_)
  · replace h7 := in_f h7
    refine x_aload_n (q := 20) dX5_paid_19 rfl rfl ?_
    refine x_iconst (q := 21) (v := 0) dX5_paid_20 rfl (by decide) ?_
    refine x_callV1v (q := 24) dX5_paid_21 rfl ml_X5_103 mv_X5_no rv5 rfl (c_X5_nox (w := 0) (x := -1000001) (by decide) (by decide)) (Nat.le_of_ble_eq_true rfl) ⟨by decide, by decide⟩ ?_
    refine x_ireturn dX5_paid_24 rfl rfl ?_
    exact ⟨by simp [h7], by simp [h7]⟩
  replace h7 := in_t h7
  refine x_aload_n (q := 11) dX5_paid_10 rfl rfl ?_
  refine x_iconst (q := 12) (v := 3) dX5_paid_11 rfl (by decide) ?_
  refine x_iload_n (q := 13) dX5_paid_12 rfl rfl ?_
  refine x_callV2v (q := 16) dX5_paid_13 rfl ml_X5_136 mv_X5_firstBy rv5 rfl (c_X5_firstBy hI (Or.inr (Or.inl rfl))) (Nat.le_of_ble_eq_true rfl) ⟨by decide, by decide⟩ ?_
  refine x_goto (q := 24) dX5_paid_16 (by decide) ?_
  refine x_ireturn dX5_paid_24 rfl rfl ?_
  have eP : ∀ q, isoF (dysC n8 q (m.1 50)) n8 3 x = !decide (dysC n8 q (m.1 50) 3 < x) := fun q => rfl
  simp only [h7, srch_congr eP, Bool.false_eq_true, Bool.or_false, Bool.false_or, Bool.or_true, Bool.true_or, Bool.or_self, Bool.not_true, Bool.not_false, if_false, if_true, and_self]
