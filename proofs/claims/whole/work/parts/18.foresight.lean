/-! what will be -/
def T0 (m : TM) (n8 : Nat) : Nat → Int32 := bcF (m.1 13) (m.1 1) n8
theorem iv_bc {n : Nat} {u s : Nat → Int32} (h : Iv n s) : Iv n (bcF u s n) := (bcF_eqv h.1).sy.iv h
def asM (m : TM) : TM := sr m 52 (m.1 50)
theorem asM_50 {m : TM} : (asM m).1 50 = m.1 50 := sr_ne (by decide)
theorem asM_2 {m : TM} : asM (asM m) = asM m := by unfold asM; rw [sr_ne (by decide), sr_sr]
theorem sr_asM {m : TM} : sr (asM m) 50 (m.1 50) = asM m := by
  have h := sr_self (m := asM m) (r := 50)
  rwa [asM_50] at h
theorem c_set {K : Cx} {m : TM} : CT yX5_setsAside cX5_setsAside 2 none 0 0 K [.ref 49] m none (sr (asM m) 50 (m.1 50)) := by
  rw [sr_asM]
  exact c_X5_setsAside
theorem c_set2 {K : Cx} {m : TM} : CT yX5_setsAside cX5_setsAside 2 none 0 0 K [.ref 49] (asM m) none (sr (asM m) 50 (m.1 50)) := by
  have h := c_set (K := K) (m := asM m)
  rwa [asM_2, asM_50] at h
theorem c_back {K : Cx} {m : TM} {X : Nat → Int32} : CT yX5_laysBack cX5_laysBack 2 none 0 0 K [.ref 49] (sr (asM m) 50 X) none (asM m) := by
  have h := c_X5_laysBack (K := K) (m := sr (asM m) 50 X)
  have e : (sr (asM m) 50 X).1 52 = m.1 50 := by rw [sr_ne (by decide)]; unfold asM; rw [sr_at]
  rwa [e, sr_sr, sr_asM] at h
theorem asM_f {m : TM} {w : Nat} : True := trivial
/-- the first place from j on where it is so -/
def srch (P : Nat → Bool) : Nat → Nat → Option Nat
  | 0, _ => none
  | f + 1, j => if P j = true then some j else srch P f (j + 1)
theorem srch_congr {P Q : Nat → Bool} (h : ∀ j, P j = Q j) : ∀ f j, srch P f j = srch Q f j
  | 0, _ => rfl
  | f + 1, j => by unfold srch; rw [h j, srch_congr h f (j + 1)]
def ansN (r : Option Nat) : Int32 := match r with
  | some j => nI j
  | none => -1000004
def ansM (m : TM) (n8 : Nat) (t : Nat → Int32) (r : Option Nat) : TM := match r with
  | some j => sr m 13 (dysC n8 j t)
  | none => fnd (sr m 13 (dysC n8 201 t)) 3
def tlk (x : Int32) : Bool := decide (x = 1) || decide (x = 3) || decide (x = 4) || decide (x = 6)
def tlk2 (x : Int32) : Bool := decide (x = 1) || decide (x = 2) || decide (x = 6)
theorem tlk_t {x : Int32} (h : tlk x = true) : ∃ c, c < 7 ∧ x = nI c := by
  unfold tlk at h
  simp only [Bool.or_eq_true, decide_eq_true_eq] at h
  rcases h with ((h | h) | h) | h
  · exact ⟨1, by decide, h⟩
  · exact ⟨3, by decide, h⟩
  · exact ⟨4, by decide, h⟩
  · exact ⟨6, by decide, h⟩
theorem dX4_tried_0 : decode cX4_tried 0 = .ok (.aload_n 0, 1) := by decide +kernel
theorem dX4_tried_1 : decode cX4_tried 1 = .ok (.getfield 16, 3) := by decide +kernel
theorem dX4_tried_4 : decode cX4_tried 4 = .ok (.aload_n 0, 1) := by decide +kernel
theorem dX4_tried_5 : decode cX4_tried 5 = .ok (.getfield 12, 3) := by decide +kernel
theorem dX4_tried_8 : decode cX4_tried 8 = .ok (.invokevirtual 129, 3) := by decide +kernel
theorem dX4_tried_11 : decode cX4_tried 11 = .ok (.aload_n 0, 1) := by decide +kernel
theorem dX4_tried_12 : decode cX4_tried 12 = .ok (.getfield 16, 3) := by decide +kernel
theorem dX4_tried_15 : decode cX4_tried 15 = .ok (.getfield 80, 3) := by decide +kernel
theorem dX4_tried_18 : decode cX4_tried 18 = .ok (.iload_n 1, 1) := by decide +kernel
theorem dX4_tried_19 : decode cX4_tried 19 = .ok (.aaload, 1) := by decide +kernel
theorem dX4_tried_20 : decode cX4_tried 20 = .ok (.areturn, 1) := by decide +kernel
set_option maxRecDepth 20000 in
set_option maxHeartbeats 4000000 in
theorem c_X4_tried {K : Cx} {k n8 : Nat} {X : Nat → Int32} {m : TM} (hI : Iv n8 (m.1 1)) (hk : k < 8) : CT yX4_tried cX4_tried 2 (some (.object "SeaParcels$Parcel")) 2 52 K [.ref 0, .int (nI k)] (sr m 13 X) (some (.ref (13 + 4 + k))) (sr m 13 (bcF X (m.1 1) n8)) := by
  refine ct_ofd (n := 0) (by decide +kernel) rfl rfl ?_
  show XX RX4 cX4_tried 2 (some (.object "SeaParcels$Parcel")) 2 52 K 0 [some (.ref 0), some (.int (nI k))] [] (sr m 13 X) (fun r1 m1 => r1 = (some (.ref (13 + 4 + k))) ∧ m1 = sr m 13 (bcF X (m.1 1) n8))
  refine x_aload_n (q := 1) dX4_tried_0 rfl rfl ?_
  refine x_getR (q := 4) dX4_tried_1 rfl fl_X4_16 (or4_trial) ?_
  refine x_aload_n (q := 5) dX4_tried_4 rfl rfl ?_
  refine x_getR (q := 8) dX4_tried_5 rfl fl_X4_12 (or4_coast) ?_
  refine x_callV1n (q := 11) dX4_tried_8 rfl ml_X4_129 mv_X0_becomeAs (rv0 isC_13) rfl (c_X0_becomeAs isC_13 isC_1 (by decide) hI.2.1 hI.1) (Nat.le_of_ble_eq_true rfl) ⟨by decide, by decide⟩ ?_
  refine x_aload_n (q := 12) dX4_tried_11 rfl rfl ?_
  refine x_getR (q := 15) dX4_tried_12 rfl fl_X4_16 (or4_trial) ?_
  refine x_getR (q := 18) dX4_tried_15 rfl fl_X4_80 (or0_slip isC_13) ?_
  refine x_iload_n (q := 19) dX4_tried_18 rfl rfl ?_
  refine x_slip (q := 20) dX4_tried_19 rfl isC_13 (ix_nI hk (by decide)) ?_
  refine x_areturn dX4_tried_20 rfl (Or.inr ⟨_, rfl⟩) ?_
  exact ⟨rfl, rfl⟩
theorem p_X4_tried {K : Cx} {k n8 : Nat} {m : TM} (hI : Iv n8 (m.1 1)) (hk : k < 8) : CT yX4_tried cX4_tried 2 (some (.object "SeaParcels$Parcel")) 2 52 K [.ref 0, .int (nI k)] m (some (.ref (13 + 4 + k))) (sr m 13 (T0 m n8)) := by
  have h := c_X4_tried (K := K) (m := m) (X := m.1 13) hI hk
  rw [sr_self] at h
  exact h
theorem dX4_ahead_0 : decode cX4_ahead 0 = .ok (.iload_n 2, 1) := by decide +kernel
theorem dX4_ahead_1 : decode cX4_ahead 1 = .ok (.iconst 1, 1) := by decide +kernel
theorem dX4_ahead_2 : decode cX4_ahead 2 = .ok (.if_icmp .eq 19, 3) := by decide +kernel
theorem dX4_ahead_5 : decode cX4_ahead 5 = .ok (.iload_n 2, 1) := by decide +kernel
theorem dX4_ahead_6 : decode cX4_ahead 6 = .ok (.iconst 3, 1) := by decide +kernel
theorem dX4_ahead_7 : decode cX4_ahead 7 = .ok (.if_icmp .eq 14, 3) := by decide +kernel
theorem dX4_ahead_10 : decode cX4_ahead 10 = .ok (.iload_n 2, 1) := by decide +kernel
theorem dX4_ahead_11 : decode cX4_ahead 11 = .ok (.iconst 4, 1) := by decide +kernel
theorem dX4_ahead_12 : decode cX4_ahead 12 = .ok (.if_icmp .eq 9, 3) := by decide +kernel
theorem dX4_ahead_15 : decode cX4_ahead 15 = .ok (.iload_n 2, 1) := by decide +kernel
theorem dX4_ahead_16 : decode cX4_ahead 16 = .ok (.bipush 6, 2) := by decide +kernel
theorem dX4_ahead_18 : decode cX4_ahead 18 = .ok (.if_icmp .ne 7, 3) := by decide +kernel
theorem dX4_ahead_21 : decode cX4_ahead 21 = .ok (.iconst 1, 1) := by decide +kernel
theorem dX4_ahead_22 : decode cX4_ahead 22 = .ok (.goto 4, 3) := by decide +kernel
theorem dX4_ahead_25 : decode cX4_ahead 25 = .ok (.iconst 0, 1) := by decide +kernel
theorem dX4_ahead_26 : decode cX4_ahead 26 = .ok (.istore 4, 2) := by decide +kernel
theorem dX4_ahead_28 : decode cX4_ahead 28 = .ok (.aload_n 0, 1) := by decide +kernel
theorem dX4_ahead_29 : decode cX4_ahead 29 = .ok (.iload_n 1, 1) := by decide +kernel
theorem dX4_ahead_30 : decode cX4_ahead 30 = .ok (.invokevirtual 76, 3) := by decide +kernel
theorem dX4_ahead_33 : decode cX4_ahead 33 = .ok (.ifCond .ne 18, 3) := by decide +kernel
theorem dX4_ahead_36 : decode cX4_ahead 36 = .ok (.iload 4, 2) := by decide +kernel
theorem dX4_ahead_38 : decode cX4_ahead 38 = .ok (.ifCond .eq 13, 3) := by decide +kernel
theorem dX4_ahead_41 : decode cX4_ahead 41 = .ok (.iload_n 3, 1) := by decide +kernel
theorem dX4_ahead_42 : decode cX4_ahead 42 = .ok (.iconst 0, 1) := by decide +kernel
theorem dX4_ahead_43 : decode cX4_ahead 43 = .ok (.bipush 100, 2) := by decide +kernel
theorem dX4_ahead_45 : decode cX4_ahead 45 = .ok (.invokestatic 44, 3) := by decide +kernel
theorem dX4_ahead_48 : decode cX4_ahead 48 = .ok (.ifCond .eq 10, 3) := by decide +kernel
theorem dX4_ahead_51 : decode cX4_ahead 51 = .ok (.aload_n 0, 1) := by decide +kernel
theorem dX4_ahead_52 : decode cX4_ahead 52 = .ok (.ldc 48, 2) := by decide +kernel
theorem dX4_ahead_54 : decode cX4_ahead 54 = .ok (.invokevirtual 49, 3) := by decide +kernel
theorem dX4_ahead_57 : decode cX4_ahead 57 = .ok (.ireturn, 1) := by decide +kernel
theorem dX4_ahead_58 : decode cX4_ahead 58 = .ok (.aload_n 0, 1) := by decide +kernel
theorem dX4_ahead_59 : decode cX4_ahead 59 = .ok (.iload_n 1, 1) := by decide +kernel
theorem dX4_ahead_60 : decode cX4_ahead 60 = .ok (.invokevirtual 126, 3) := by decide +kernel
theorem dX4_ahead_63 : decode cX4_ahead 63 = .ok (.astore 5, 2) := by decide +kernel
theorem dX4_ahead_65 : decode cX4_ahead 65 = .ok (.aload_n 0, 1) := by decide +kernel
theorem dX4_ahead_66 : decode cX4_ahead 66 = .ok (.getfield 16, 3) := by decide +kernel
theorem dX4_ahead_69 : decode cX4_ahead 69 = .ok (.iload_n 3, 1) := by decide +kernel
theorem dX4_ahead_70 : decode cX4_ahead 70 = .ok (.invokevirtual 109, 3) := by decide +kernel
theorem dX4_ahead_73 : decode cX4_ahead 73 = .ok (.aload 5, 2) := by decide +kernel
theorem dX4_ahead_75 : decode cX4_ahead 75 = .ok (.iload_n 2, 1) := by decide +kernel
theorem dX4_ahead_76 : decode cX4_ahead 76 = .ok (.invokevirtual 84, 3) := by decide +kernel
theorem dX4_ahead_79 : decode cX4_ahead 79 = .ok (.ireturn, 1) := by decide +kernel
set_option maxRecDepth 20000 in
set_option maxHeartbeats 4000000 in
theorem c_X4_ahead {K : Cx} {p x y : Int32} {n8 : Nat} {m : TM} (hI : Iv n8 (m.1 1)) : CT yX4_ahead cX4_ahead 6 (some .int) 5 109 K [.ref 0, .int p, .int x, .int y] (m) (some (.int ((if (outI p 0 (m.1 1 1 - 1) || !tlk x || outI y 0 100) = true then -1000001 else tld (dysC n8 (cl y) (T0 m n8)) (cl p) x)))) ((if (outI p 0 (m.1 1 1 - 1) || !tlk x || outI y 0 100) = true then fnd m 0 else sr m 13 (dysC n8 (cl y) (T0 m n8)))) := by
  refine ct_ofd (n := 2) (by decide +kernel) rfl rfl ?_
  show XX RX4 cX4_ahead 6 (some .int) 5 109 K 0 [some (.ref 0), some (.int p), some (.int x), some (.int y), none, none] [] (m) (fun r1 m1 => r1 = (some (.int ((if (outI p 0 (m.1 1 1 - 1) || !tlk x || outI y 0 100) = true then -1000001 else tld (dysC n8 (cl y) (T0 m n8)) (cl p) x)))) ∧ m1 = (if (outI p 0 (m.1 1 1 - 1) || !tlk x || outI y 0 100) = true then fnd m 0 else sr m 13 (dysC n8 (cl y) (T0 m n8))))
  refine x_iload_n (q := 1) dX4_ahead_0 rfl rfl ?_
  refine x_iconst (q := 2) (v := 1) dX4_ahead_1 rfl (by decide) ?_
  refine x_icmp_eq (q := 5) (t := 21) dX4_ahead_2 rfl (by decide) (fun h2 => ?_) (fun h2 => ?_)
  · refine x_iconst (q := 22) (v := 1) dX4_ahead_21 rfl (by decide) ?_
    refine x_goto (q := 26) dX4_ahead_22 (by decide) ?_
    refine x_istore (q := 28) dX4_ahead_26 rfl (by decide) rfl rfl ?_
    refine x_aload_n (q := 29) dX4_ahead_28 rfl rfl ?_
    refine x_iload_n (q := 30) dX4_ahead_29 rfl rfl ?_
    refine x_callV1v (q := 33) dX4_ahead_30 rfl ml_X4_76 mv_X4_isNoParcel rv4 rfl c_X4_isNoParcel (Nat.le_of_ble_eq_true rfl) ⟨by decide, by decide⟩ ?_
    refine x_ifB_ne (q := 36) (t := 51) dX4_ahead_33 rfl (by decide) (fun h33 => ?_) (fun h33 => ?_)
    · refine x_aload_n (q := 52) dX4_ahead_51 rfl rfl ?_
      refine x_ldc (q := 54) dX4_ahead_52 rfl kc_X4_48 ?_
      refine x_callV1v (q := 57) dX4_ahead_54 rfl ml_X4_49 mv_X4_finding rv4 rfl (c_X4_finding (w := 0) (by decide) (by decide)) (Nat.le_of_ble_eq_true rfl) ⟨by decide, by decide⟩ ?_
      refine x_ireturn dX4_ahead_57 rfl rfl ?_
      have ht := (by simp [tlk, h2] : tlk x = true)
      exact ⟨by simp [ht, h33], by simp [ht, h33]⟩
    refine x_iload (q := 38) dX4_ahead_36 rfl rfl ?_
    refine x_if_eq (q := 41) (t := 51) dX4_ahead_38 rfl (by decide) (fun h => absurd h (by decide)) (fun _ => ?_)
    refine x_iload_n (q := 42) dX4_ahead_41 rfl rfl ?_
    refine x_iconst (q := 43) (v := 0) dX4_ahead_42 rfl (by decide) ?_
    refine x_bipush (q := 45) (v := 100) dX4_ahead_43 rfl (by decide) ?_
    refine x_callS3v (q := 48) dX4_ahead_45 rfl ml_X4_44 ms_X4_isOut c_X4_isOut (Nat.le_of_ble_eq_true rfl) ⟨by decide, by decide⟩ ?_
    refine x_ifB_eq (q := 51) (t := 58) dX4_ahead_48 rfl (by decide) (fun h48 => ?_) (fun h48 => ?_)
    · obtain ⟨k, hk, rfl⟩ : ∃ k, k < n8 ∧ p = nI k := ⟨cl p, (par_k hI.2.1 hI.1 h33).2, par_nI hI.2.1 hI.1 h33⟩
      have hk8 : k < 8 := by have := hI.1; omega
      have ek : cl (nI k) = k := jnI_clamp (by omega)
      obtain ⟨c, -, hc2, rfl⟩ := out_rng (a := 0) (b := 100) (x := y) (by decide) (by decide) h48
      have ec : cl (nI c) = c := jnI_clamp (by omega)
      have hT : Iv n8 (T0 m n8) := iv_bc hI
      refine x_aload_n (q := 59) dX4_ahead_58 rfl rfl ?_
      refine x_iload_n (q := 60) dX4_ahead_59 rfl rfl ?_
      refine x_callV1v (q := 63) dX4_ahead_60 rfl ml_X4_126 mv_X4_tried rv4 rfl (p_X4_tried hI hk8) (Nat.le_of_ble_eq_true rfl) ⟨by decide, by decide⟩ ?_
      refine x_astore (q := 65) dX4_ahead_63 rfl (by decide) rfl rfl ?_
      refine x_aload_n (q := 66) dX4_ahead_65 rfl rfl ?_
      refine x_getR (q := 69) dX4_ahead_66 rfl fl_X4_16 (or4_trial) ?_
      refine x_iload_n (q := 70) dX4_ahead_69 rfl rfl ?_
      refine x_callV1n (q := 73) dX4_ahead_70 rfl ml_X4_109 mv_X0_passDays (rv0 isC_13) rfl (c_X0_passDays isC_13 (by omega) hT) (Nat.le_of_ble_eq_true rfl) ⟨by decide, by decide⟩ ?_
      refine x_aload (q := 75) dX4_ahead_73 rfl rfl ?_
      refine x_iload_n (q := 76) dX4_ahead_75 rfl rfl ?_
      refine x_callV1v (q := 79) dX4_ahead_76 rfl ml_X4_84 mv_X1_told (rv1 isC_13 hk8) rfl (c_X1_told isC_13 hk8) (Nat.le_of_ble_eq_true rfl) ⟨by decide, by decide⟩ ?_
      refine x_ireturn dX4_ahead_79 rfl rfl ?_
      have ht := (by simp [tlk, h2] : tlk x = true)
      refine ⟨?_, ?_⟩ <;> simp only [h33, h48, ht, ek, ec, Bool.false_eq_true, Bool.or_false, Bool.false_or, Bool.or_true, Bool.true_or, Bool.or_self, Bool.not_true, Bool.not_false, if_false, if_true]
    refine x_aload_n (q := 52) dX4_ahead_51 rfl rfl ?_
    refine x_ldc (q := 54) dX4_ahead_52 rfl kc_X4_48 ?_
    refine x_callV1v (q := 57) dX4_ahead_54 rfl ml_X4_49 mv_X4_finding rv4 rfl (c_X4_finding (w := 0) (by decide) (by decide)) (Nat.le_of_ble_eq_true rfl) ⟨by decide, by decide⟩ ?_
    refine x_ireturn dX4_ahead_57 rfl rfl ?_
    have ht := (by simp [tlk, h2] : tlk x = true)
    exact ⟨by simp [ht, h33, h48], by simp [ht, h33, h48]⟩
  refine x_iload_n (q := 6) dX4_ahead_5 rfl rfl ?_
  refine x_iconst (q := 7) (v := 3) dX4_ahead_6 rfl (by decide) ?_
  refine x_icmp_eq (q := 10) (t := 21) dX4_ahead_7 rfl (by decide) (fun h7 => ?_) (fun h7 => ?_)
  · refine x_iconst (q := 22) (v := 1) dX4_ahead_21 rfl (by decide) ?_
    refine x_goto (q := 26) dX4_ahead_22 (by decide) ?_
    refine x_istore (q := 28) dX4_ahead_26 rfl (by decide) rfl rfl ?_
    refine x_aload_n (q := 29) dX4_ahead_28 rfl rfl ?_
    refine x_iload_n (q := 30) dX4_ahead_29 rfl rfl ?_
    refine x_callV1v (q := 33) dX4_ahead_30 rfl ml_X4_76 mv_X4_isNoParcel rv4 rfl c_X4_isNoParcel (Nat.le_of_ble_eq_true rfl) ⟨by decide, by decide⟩ ?_
    refine x_ifB_ne (q := 36) (t := 51) dX4_ahead_33 rfl (by decide) (fun h33 => ?_) (fun h33 => ?_)
    · refine x_aload_n (q := 52) dX4_ahead_51 rfl rfl ?_
      refine x_ldc (q := 54) dX4_ahead_52 rfl kc_X4_48 ?_
      refine x_callV1v (q := 57) dX4_ahead_54 rfl ml_X4_49 mv_X4_finding rv4 rfl (c_X4_finding (w := 0) (by decide) (by decide)) (Nat.le_of_ble_eq_true rfl) ⟨by decide, by decide⟩ ?_
      refine x_ireturn dX4_ahead_57 rfl rfl ?_
      have ht := (by simp [tlk, h2, h7] : tlk x = true)
      exact ⟨by simp [ht, h33], by simp [ht, h33]⟩
    refine x_iload (q := 38) dX4_ahead_36 rfl rfl ?_
    refine x_if_eq (q := 41) (t := 51) dX4_ahead_38 rfl (by decide) (fun h => absurd h (by decide)) (fun _ => ?_)
    refine x_iload_n (q := 42) dX4_ahead_41 rfl rfl ?_
    refine x_iconst (q := 43) (v := 0) dX4_ahead_42 rfl (by decide) ?_
    refine x_bipush (q := 45) (v := 100) dX4_ahead_43 rfl (by decide) ?_
    refine x_callS3v (q := 48) dX4_ahead_45 rfl ml_X4_44 ms_X4_isOut c_X4_isOut (Nat.le_of_ble_eq_true rfl) ⟨by decide, by decide⟩ ?_
    refine x_ifB_eq (q := 51) (t := 58) dX4_ahead_48 rfl (by decide) (fun h48 => ?_) (fun h48 => ?_)
    · obtain ⟨k, hk, rfl⟩ : ∃ k, k < n8 ∧ p = nI k := ⟨cl p, (par_k hI.2.1 hI.1 h33).2, par_nI hI.2.1 hI.1 h33⟩
      have hk8 : k < 8 := by have := hI.1; omega
      have ek : cl (nI k) = k := jnI_clamp (by omega)
      obtain ⟨c, -, hc2, rfl⟩ := out_rng (a := 0) (b := 100) (x := y) (by decide) (by decide) h48
      have ec : cl (nI c) = c := jnI_clamp (by omega)
      have hT : Iv n8 (T0 m n8) := iv_bc hI
      refine x_aload_n (q := 59) dX4_ahead_58 rfl rfl ?_
      refine x_iload_n (q := 60) dX4_ahead_59 rfl rfl ?_
      refine x_callV1v (q := 63) dX4_ahead_60 rfl ml_X4_126 mv_X4_tried rv4 rfl (p_X4_tried hI hk8) (Nat.le_of_ble_eq_true rfl) ⟨by decide, by decide⟩ ?_
      refine x_astore (q := 65) dX4_ahead_63 rfl (by decide) rfl rfl ?_
      refine x_aload_n (q := 66) dX4_ahead_65 rfl rfl ?_
      refine x_getR (q := 69) dX4_ahead_66 rfl fl_X4_16 (or4_trial) ?_
      refine x_iload_n (q := 70) dX4_ahead_69 rfl rfl ?_
      refine x_callV1n (q := 73) dX4_ahead_70 rfl ml_X4_109 mv_X0_passDays (rv0 isC_13) rfl (c_X0_passDays isC_13 (by omega) hT) (Nat.le_of_ble_eq_true rfl) ⟨by decide, by decide⟩ ?_
      refine x_aload (q := 75) dX4_ahead_73 rfl rfl ?_
      refine x_iload_n (q := 76) dX4_ahead_75 rfl rfl ?_
      refine x_callV1v (q := 79) dX4_ahead_76 rfl ml_X4_84 mv_X1_told (rv1 isC_13 hk8) rfl (c_X1_told isC_13 hk8) (Nat.le_of_ble_eq_true rfl) ⟨by decide, by decide⟩ ?_
      refine x_ireturn dX4_ahead_79 rfl rfl ?_
      have ht := (by simp [tlk, h2, h7] : tlk x = true)
      refine ⟨?_, ?_⟩ <;> simp only [h33, h48, ht, ek, ec, Bool.false_eq_true, Bool.or_false, Bool.false_or, Bool.or_true, Bool.true_or, Bool.or_self, Bool.not_true, Bool.not_false, if_false, if_true]
    refine x_aload_n (q := 52) dX4_ahead_51 rfl rfl ?_
    refine x_ldc (q := 54) dX4_ahead_52 rfl kc_X4_48 ?_
    refine x_callV1v (q := 57) dX4_ahead_54 rfl ml_X4_49 mv_X4_finding rv4 rfl (c_X4_finding (w := 0) (by decide) (by decide)) (Nat.le_of_ble_eq_true rfl) ⟨by decide, by decide⟩ ?_
    refine x_ireturn dX4_ahead_57 rfl rfl ?_
    have ht := (by simp [tlk, h2, h7] : tlk x = true)
    exact ⟨by simp [ht, h33, h48], by simp [ht, h33, h48]⟩
  refine x_iload_n (q := 11) dX4_ahead_10 rfl rfl ?_
  refine x_iconst (q := 12) (v := 4) dX4_ahead_11 rfl (by decide) ?_
  refine x_icmp_eq (q := 15) (t := 21) dX4_ahead_12 rfl (by decide) (fun h12 => ?_) (fun h12 => ?_)
  · refine x_iconst (q := 22) (v := 1) dX4_ahead_21 rfl (by decide) ?_
    refine x_goto (q := 26) dX4_ahead_22 (by decide) ?_
    refine x_istore (q := 28) dX4_ahead_26 rfl (by decide) rfl rfl ?_
    refine x_aload_n (q := 29) dX4_ahead_28 rfl rfl ?_
    refine x_iload_n (q := 30) dX4_ahead_29 rfl rfl ?_
    refine x_callV1v (q := 33) dX4_ahead_30 rfl ml_X4_76 mv_X4_isNoParcel rv4 rfl c_X4_isNoParcel (Nat.le_of_ble_eq_true rfl) ⟨by decide, by decide⟩ ?_
    refine x_ifB_ne (q := 36) (t := 51) dX4_ahead_33 rfl (by decide) (fun h33 => ?_) (fun h33 => ?_)
    · refine x_aload_n (q := 52) dX4_ahead_51 rfl rfl ?_
      refine x_ldc (q := 54) dX4_ahead_52 rfl kc_X4_48 ?_
      refine x_callV1v (q := 57) dX4_ahead_54 rfl ml_X4_49 mv_X4_finding rv4 rfl (c_X4_finding (w := 0) (by decide) (by decide)) (Nat.le_of_ble_eq_true rfl) ⟨by decide, by decide⟩ ?_
      refine x_ireturn dX4_ahead_57 rfl rfl ?_
      have ht := (by simp [tlk, h2, h7, h12] : tlk x = true)
      exact ⟨by simp [ht, h33], by simp [ht, h33]⟩
    refine x_iload (q := 38) dX4_ahead_36 rfl rfl ?_
    refine x_if_eq (q := 41) (t := 51) dX4_ahead_38 rfl (by decide) (fun h => absurd h (by decide)) (fun _ => ?_)
    refine x_iload_n (q := 42) dX4_ahead_41 rfl rfl ?_
    refine x_iconst (q := 43) (v := 0) dX4_ahead_42 rfl (by decide) ?_
    refine x_bipush (q := 45) (v := 100) dX4_ahead_43 rfl (by decide) ?_
    refine x_callS3v (q := 48) dX4_ahead_45 rfl ml_X4_44 ms_X4_isOut c_X4_isOut (Nat.le_of_ble_eq_true rfl) ⟨by decide, by decide⟩ ?_
    refine x_ifB_eq (q := 51) (t := 58) dX4_ahead_48 rfl (by decide) (fun h48 => ?_) (fun h48 => ?_)
    · obtain ⟨k, hk, rfl⟩ : ∃ k, k < n8 ∧ p = nI k := ⟨cl p, (par_k hI.2.1 hI.1 h33).2, par_nI hI.2.1 hI.1 h33⟩
      have hk8 : k < 8 := by have := hI.1; omega
      have ek : cl (nI k) = k := jnI_clamp (by omega)
      obtain ⟨c, -, hc2, rfl⟩ := out_rng (a := 0) (b := 100) (x := y) (by decide) (by decide) h48
      have ec : cl (nI c) = c := jnI_clamp (by omega)
      have hT : Iv n8 (T0 m n8) := iv_bc hI
      refine x_aload_n (q := 59) dX4_ahead_58 rfl rfl ?_
      refine x_iload_n (q := 60) dX4_ahead_59 rfl rfl ?_
      refine x_callV1v (q := 63) dX4_ahead_60 rfl ml_X4_126 mv_X4_tried rv4 rfl (p_X4_tried hI hk8) (Nat.le_of_ble_eq_true rfl) ⟨by decide, by decide⟩ ?_
      refine x_astore (q := 65) dX4_ahead_63 rfl (by decide) rfl rfl ?_
      refine x_aload_n (q := 66) dX4_ahead_65 rfl rfl ?_
      refine x_getR (q := 69) dX4_ahead_66 rfl fl_X4_16 (or4_trial) ?_
      refine x_iload_n (q := 70) dX4_ahead_69 rfl rfl ?_
      refine x_callV1n (q := 73) dX4_ahead_70 rfl ml_X4_109 mv_X0_passDays (rv0 isC_13) rfl (c_X0_passDays isC_13 (by omega) hT) (Nat.le_of_ble_eq_true rfl) ⟨by decide, by decide⟩ ?_
      refine x_aload (q := 75) dX4_ahead_73 rfl rfl ?_
      refine x_iload_n (q := 76) dX4_ahead_75 rfl rfl ?_
      refine x_callV1v (q := 79) dX4_ahead_76 rfl ml_X4_84 mv_X1_told (rv1 isC_13 hk8) rfl (c_X1_told isC_13 hk8) (Nat.le_of_ble_eq_true rfl) ⟨by decide, by decide⟩ ?_
      refine x_ireturn dX4_ahead_79 rfl rfl ?_
      have ht := (by simp [tlk, h2, h7, h12] : tlk x = true)
      refine ⟨?_, ?_⟩ <;> simp only [h33, h48, ht, ek, ec, Bool.false_eq_true, Bool.or_false, Bool.false_or, Bool.or_true, Bool.true_or, Bool.or_self, Bool.not_true, Bool.not_false, if_false, if_true]
    refine x_aload_n (q := 52) dX4_ahead_51 rfl rfl ?_
    refine x_ldc (q := 54) dX4_ahead_52 rfl kc_X4_48 ?_
    refine x_callV1v (q := 57) dX4_ahead_54 rfl ml_X4_49 mv_X4_finding rv4 rfl (c_X4_finding (w := 0) (by decide) (by decide)) (Nat.le_of_ble_eq_true rfl) ⟨by decide, by decide⟩ ?_
    refine x_ireturn dX4_ahead_57 rfl rfl ?_
    have ht := (by simp [tlk, h2, h7, h12] : tlk x = true)
    exact ⟨by simp [ht, h33, h48], by simp [ht, h33, h48]⟩
  refine x_iload_n (q := 16) dX4_ahead_15 rfl rfl ?_
  refine x_bipush (q := 18) (v := 6) dX4_ahead_16 rfl (by decide) ?_
  refine x_icmp_ne (q := 21) (t := 25) dX4_ahead_18 rfl (by decide) (fun h18 => ?_) (fun h18 => ?_)
  · refine x_iconst (q := 26) (v := 0) dX4_ahead_25 rfl (by decide) ?_
    refine x_istore (q := 28) dX4_ahead_26 rfl (by decide) rfl rfl ?_
    refine x_aload_n (q := 29) dX4_ahead_28 rfl rfl ?_
    refine x_iload_n (q := 30) dX4_ahead_29 rfl rfl ?_
    refine x_callV1v (q := 33) dX4_ahead_30 rfl ml_X4_76 mv_X4_isNoParcel rv4 rfl c_X4_isNoParcel (Nat.le_of_ble_eq_true rfl) ⟨by decide, by decide⟩ ?_
    refine x_ifB_ne (q := 36) (t := 51) dX4_ahead_33 rfl (by decide) (fun h33 => ?_) (fun h33 => ?_)
    · refine x_aload_n (q := 52) dX4_ahead_51 rfl rfl ?_
      refine x_ldc (q := 54) dX4_ahead_52 rfl kc_X4_48 ?_
      refine x_callV1v (q := 57) dX4_ahead_54 rfl ml_X4_49 mv_X4_finding rv4 rfl (c_X4_finding (w := 0) (by decide) (by decide)) (Nat.le_of_ble_eq_true rfl) ⟨by decide, by decide⟩ ?_
      refine x_ireturn dX4_ahead_57 rfl rfl ?_
      have ht := (by simp [tlk, h2, h7, h12, h18] : tlk x = false)
      exact ⟨by simp [ht, h33], by simp [ht, h33]⟩
    refine x_iload (q := 38) dX4_ahead_36 rfl rfl ?_
    refine x_if_eq (q := 41) (t := 51) dX4_ahead_38 rfl (by decide) (fun _ => ?_) (fun h => absurd (by decide) h)
    refine x_aload_n (q := 52) dX4_ahead_51 rfl rfl ?_
    refine x_ldc (q := 54) dX4_ahead_52 rfl kc_X4_48 ?_
    refine x_callV1v (q := 57) dX4_ahead_54 rfl ml_X4_49 mv_X4_finding rv4 rfl (c_X4_finding (w := 0) (by decide) (by decide)) (Nat.le_of_ble_eq_true rfl) ⟨by decide, by decide⟩ ?_
    refine x_ireturn dX4_ahead_57 rfl rfl ?_
    have ht := (by simp [tlk, h2, h7, h12, h18] : tlk x = false)
    exact ⟨by simp [ht, h33], by simp [ht, h33]⟩
  refine x_iconst (q := 22) (v := 1) dX4_ahead_21 rfl (by decide) ?_
  refine x_goto (q := 26) dX4_ahead_22 (by decide) ?_
  refine x_istore (q := 28) dX4_ahead_26 rfl (by decide) rfl rfl ?_
  refine x_aload_n (q := 29) dX4_ahead_28 rfl rfl ?_
  refine x_iload_n (q := 30) dX4_ahead_29 rfl rfl ?_
  refine x_callV1v (q := 33) dX4_ahead_30 rfl ml_X4_76 mv_X4_isNoParcel rv4 rfl c_X4_isNoParcel (Nat.le_of_ble_eq_true rfl) ⟨by decide, by decide⟩ ?_
  refine x_ifB_ne (q := 36) (t := 51) dX4_ahead_33 rfl (by decide) (fun h33 => ?_) (fun h33 => ?_)
  · refine x_aload_n (q := 52) dX4_ahead_51 rfl rfl ?_
    refine x_ldc (q := 54) dX4_ahead_52 rfl kc_X4_48 ?_
    refine x_callV1v (q := 57) dX4_ahead_54 rfl ml_X4_49 mv_X4_finding rv4 rfl (c_X4_finding (w := 0) (by decide) (by decide)) (Nat.le_of_ble_eq_true rfl) ⟨by decide, by decide⟩ ?_
    refine x_ireturn dX4_ahead_57 rfl rfl ?_
    have ht := (by simp [tlk, h2, h7, h12, h18] : tlk x = true)
    exact ⟨by simp [ht, h33], by simp [ht, h33]⟩
  refine x_iload (q := 38) dX4_ahead_36 rfl rfl ?_
  refine x_if_eq (q := 41) (t := 51) dX4_ahead_38 rfl (by decide) (fun h => absurd h (by decide)) (fun _ => ?_)
  refine x_iload_n (q := 42) dX4_ahead_41 rfl rfl ?_
  refine x_iconst (q := 43) (v := 0) dX4_ahead_42 rfl (by decide) ?_
  refine x_bipush (q := 45) (v := 100) dX4_ahead_43 rfl (by decide) ?_
  refine x_callS3v (q := 48) dX4_ahead_45 rfl ml_X4_44 ms_X4_isOut c_X4_isOut (Nat.le_of_ble_eq_true rfl) ⟨by decide, by decide⟩ ?_
  refine x_ifB_eq (q := 51) (t := 58) dX4_ahead_48 rfl (by decide) (fun h48 => ?_) (fun h48 => ?_)
  · obtain ⟨k, hk, rfl⟩ : ∃ k, k < n8 ∧ p = nI k := ⟨cl p, (par_k hI.2.1 hI.1 h33).2, par_nI hI.2.1 hI.1 h33⟩
    have hk8 : k < 8 := by have := hI.1; omega
    have ek : cl (nI k) = k := jnI_clamp (by omega)
    obtain ⟨c, -, hc2, rfl⟩ := out_rng (a := 0) (b := 100) (x := y) (by decide) (by decide) h48
    have ec : cl (nI c) = c := jnI_clamp (by omega)
    have hT : Iv n8 (T0 m n8) := iv_bc hI
    refine x_aload_n (q := 59) dX4_ahead_58 rfl rfl ?_
    refine x_iload_n (q := 60) dX4_ahead_59 rfl rfl ?_
    refine x_callV1v (q := 63) dX4_ahead_60 rfl ml_X4_126 mv_X4_tried rv4 rfl (p_X4_tried hI hk8) (Nat.le_of_ble_eq_true rfl) ⟨by decide, by decide⟩ ?_
    refine x_astore (q := 65) dX4_ahead_63 rfl (by decide) rfl rfl ?_
    refine x_aload_n (q := 66) dX4_ahead_65 rfl rfl ?_
    refine x_getR (q := 69) dX4_ahead_66 rfl fl_X4_16 (or4_trial) ?_
    refine x_iload_n (q := 70) dX4_ahead_69 rfl rfl ?_
    refine x_callV1n (q := 73) dX4_ahead_70 rfl ml_X4_109 mv_X0_passDays (rv0 isC_13) rfl (c_X0_passDays isC_13 (by omega) hT) (Nat.le_of_ble_eq_true rfl) ⟨by decide, by decide⟩ ?_
    refine x_aload (q := 75) dX4_ahead_73 rfl rfl ?_
    refine x_iload_n (q := 76) dX4_ahead_75 rfl rfl ?_
    refine x_callV1v (q := 79) dX4_ahead_76 rfl ml_X4_84 mv_X1_told (rv1 isC_13 hk8) rfl (c_X1_told isC_13 hk8) (Nat.le_of_ble_eq_true rfl) ⟨by decide, by decide⟩ ?_
    refine x_ireturn dX4_ahead_79 rfl rfl ?_
    have ht := (by simp [tlk, h2, h7, h12, h18] : tlk x = true)
    refine ⟨?_, ?_⟩ <;> simp only [h33, h48, ht, ek, ec, Bool.false_eq_true, Bool.or_false, Bool.false_or, Bool.or_true, Bool.true_or, Bool.or_self, Bool.not_true, Bool.not_false, if_false, if_true]
  refine x_aload_n (q := 52) dX4_ahead_51 rfl rfl ?_
  refine x_ldc (q := 54) dX4_ahead_52 rfl kc_X4_48 ?_
  refine x_callV1v (q := 57) dX4_ahead_54 rfl ml_X4_49 mv_X4_finding rv4 rfl (c_X4_finding (w := 0) (by decide) (by decide)) (Nat.le_of_ble_eq_true rfl) ⟨by decide, by decide⟩ ?_
  refine x_ireturn dX4_ahead_57 rfl rfl ?_
  have ht := (by simp [tlk, h2, h7, h12, h18] : tlk x = true)
  exact ⟨by simp [ht, h33, h48], by simp [ht, h33, h48]⟩
theorem dX4_sea_0 : decode cX4_sea 0 = .ok (.iload_n 1, 1) := by decide +kernel
theorem dX4_sea_1 : decode cX4_sea 1 = .ok (.iconst 1, 1) := by decide +kernel
theorem dX4_sea_2 : decode cX4_sea 2 = .ok (.if_icmp .eq 14, 3) := by decide +kernel
theorem dX4_sea_5 : decode cX4_sea 5 = .ok (.iload_n 1, 1) := by decide +kernel
theorem dX4_sea_6 : decode cX4_sea 6 = .ok (.iconst 2, 1) := by decide +kernel
theorem dX4_sea_7 : decode cX4_sea 7 = .ok (.if_icmp .eq 9, 3) := by decide +kernel
theorem dX4_sea_10 : decode cX4_sea 10 = .ok (.iload_n 1, 1) := by decide +kernel
theorem dX4_sea_11 : decode cX4_sea 11 = .ok (.bipush 6, 2) := by decide +kernel
theorem dX4_sea_13 : decode cX4_sea 13 = .ok (.if_icmp .ne 7, 3) := by decide +kernel
theorem dX4_sea_16 : decode cX4_sea 16 = .ok (.iconst 1, 1) := by decide +kernel
theorem dX4_sea_17 : decode cX4_sea 17 = .ok (.goto 4, 3) := by decide +kernel
theorem dX4_sea_20 : decode cX4_sea 20 = .ok (.iconst 0, 1) := by decide +kernel
theorem dX4_sea_21 : decode cX4_sea 21 = .ok (.istore_n 3, 1) := by decide +kernel
theorem dX4_sea_22 : decode cX4_sea 22 = .ok (.iload_n 3, 1) := by decide +kernel
theorem dX4_sea_23 : decode cX4_sea 23 = .ok (.ifCond .eq 13, 3) := by decide +kernel
theorem dX4_sea_26 : decode cX4_sea 26 = .ok (.iload_n 2, 1) := by decide +kernel
theorem dX4_sea_27 : decode cX4_sea 27 = .ok (.iconst 0, 1) := by decide +kernel
theorem dX4_sea_28 : decode cX4_sea 28 = .ok (.bipush 100, 2) := by decide +kernel
theorem dX4_sea_30 : decode cX4_sea 30 = .ok (.invokestatic 44, 3) := by decide +kernel
theorem dX4_sea_33 : decode cX4_sea 33 = .ok (.ifCond .eq 10, 3) := by decide +kernel
theorem dX4_sea_36 : decode cX4_sea 36 = .ok (.aload_n 0, 1) := by decide +kernel
theorem dX4_sea_37 : decode cX4_sea 37 = .ok (.ldc 48, 2) := by decide +kernel
theorem dX4_sea_39 : decode cX4_sea 39 = .ok (.invokevirtual 49, 3) := by decide +kernel
theorem dX4_sea_42 : decode cX4_sea 42 = .ok (.ireturn, 1) := by decide +kernel
theorem dX4_sea_43 : decode cX4_sea 43 = .ok (.aload_n 0, 1) := by decide +kernel
theorem dX4_sea_44 : decode cX4_sea 44 = .ok (.getfield 16, 3) := by decide +kernel
theorem dX4_sea_47 : decode cX4_sea 47 = .ok (.aload_n 0, 1) := by decide +kernel
theorem dX4_sea_48 : decode cX4_sea 48 = .ok (.getfield 12, 3) := by decide +kernel
theorem dX4_sea_51 : decode cX4_sea 51 = .ok (.invokevirtual 129, 3) := by decide +kernel
theorem dX4_sea_54 : decode cX4_sea 54 = .ok (.aload_n 0, 1) := by decide +kernel
theorem dX4_sea_55 : decode cX4_sea 55 = .ok (.getfield 16, 3) := by decide +kernel
theorem dX4_sea_58 : decode cX4_sea 58 = .ok (.iload_n 2, 1) := by decide +kernel
theorem dX4_sea_59 : decode cX4_sea 59 = .ok (.invokevirtual 109, 3) := by decide +kernel
theorem dX4_sea_62 : decode cX4_sea 62 = .ok (.iload_n 1, 1) := by decide +kernel
theorem dX4_sea_63 : decode cX4_sea 63 = .ok (.iconst 1, 1) := by decide +kernel
theorem dX4_sea_64 : decode cX4_sea 64 = .ok (.if_icmp .ne 11, 3) := by decide +kernel
theorem dX4_sea_67 : decode cX4_sea 67 = .ok (.aload_n 0, 1) := by decide +kernel
theorem dX4_sea_68 : decode cX4_sea 68 = .ok (.getfield 16, 3) := by decide +kernel
theorem dX4_sea_71 : decode cX4_sea 71 = .ok (.getfield 116, 3) := by decide +kernel
theorem dX4_sea_74 : decode cX4_sea 74 = .ok (.ireturn, 1) := by decide +kernel
theorem dX4_sea_75 : decode cX4_sea 75 = .ok (.iload_n 1, 1) := by decide +kernel
theorem dX4_sea_76 : decode cX4_sea 76 = .ok (.iconst 2, 1) := by decide +kernel
theorem dX4_sea_77 : decode cX4_sea 77 = .ok (.if_icmp .ne 13, 3) := by decide +kernel
theorem dX4_sea_80 : decode cX4_sea 80 = .ok (.aload_n 0, 1) := by decide +kernel
theorem dX4_sea_81 : decode cX4_sea 81 = .ok (.getfield 16, 3) := by decide +kernel
theorem dX4_sea_84 : decode cX4_sea 84 = .ok (.getfield 56, 3) := by decide +kernel
theorem dX4_sea_87 : decode cX4_sea 87 = .ok (.goto 10, 3) := by decide +kernel
theorem dX4_sea_90 : decode cX4_sea 90 = .ok (.aload_n 0, 1) := by decide +kernel
theorem dX4_sea_91 : decode cX4_sea 91 = .ok (.getfield 16, 3) := by decide +kernel
theorem dX4_sea_94 : decode cX4_sea 94 = .ok (.invokevirtual 119, 3) := by decide +kernel
theorem dX4_sea_97 : decode cX4_sea 97 = .ok (.ireturn, 1) := by decide +kernel
set_option maxRecDepth 20000 in
set_option maxHeartbeats 4000000 in
theorem c_X4_sea {K : Cx} {x y : Int32} {n8 : Nat} {m : TM} (hI : Iv n8 (m.1 1)) : CT yX4_sea cX4_sea 4 (some .int) 5 109 K [.ref 0, .int x, .int y] (m) (some (.int ((if (!tlk2 x || outI y 0 100) = true then -1000001 else (if x = 1 then (dysC n8 (cl y) (T0 m n8)) 3 else if x = 2 then (dysC n8 (cl y) (T0 m n8)) 4 else tdF ((dysC n8 (cl y) (T0 m n8)))))))) ((if (!tlk2 x || outI y 0 100) = true then fnd m 0 else sr m 13 (dysC n8 (cl y) (T0 m n8)))) := by
  refine ct_ofd (n := 1) (by decide +kernel) rfl rfl ?_
  show XX RX4 cX4_sea 4 (some .int) 5 109 K 0 [some (.ref 0), some (.int x), some (.int y), none] [] (m) (fun r1 m1 => r1 = (some (.int ((if (!tlk2 x || outI y 0 100) = true then -1000001 else (if x = 1 then (dysC n8 (cl y) (T0 m n8)) 3 else if x = 2 then (dysC n8 (cl y) (T0 m n8)) 4 else tdF ((dysC n8 (cl y) (T0 m n8)))))))) ∧ m1 = (if (!tlk2 x || outI y 0 100) = true then fnd m 0 else sr m 13 (dysC n8 (cl y) (T0 m n8))))
  refine x_iload_n (q := 1) dX4_sea_0 rfl rfl ?_
  refine x_iconst (q := 2) (v := 1) dX4_sea_1 rfl (by decide) ?_
  refine x_icmp_eq (q := 5) (t := 16) dX4_sea_2 rfl (by decide) (fun h2 => ?_) (fun h2 => ?_)
  · refine x_iconst (q := 17) (v := 1) dX4_sea_16 rfl (by decide) ?_
    refine x_goto (q := 21) dX4_sea_17 (by decide) ?_
    refine x_istore_n (q := 22) dX4_sea_21 rfl (by decide) rfl rfl ?_
    refine x_iload_n (q := 23) dX4_sea_22 rfl rfl ?_
    refine x_if_eq (q := 26) (t := 36) dX4_sea_23 rfl (by decide) (fun h => absurd h (by decide)) (fun _ => ?_)
    refine x_iload_n (q := 27) dX4_sea_26 rfl rfl ?_
    refine x_iconst (q := 28) (v := 0) dX4_sea_27 rfl (by decide) ?_
    refine x_bipush (q := 30) (v := 100) dX4_sea_28 rfl (by decide) ?_
    refine x_callS3v (q := 33) dX4_sea_30 rfl ml_X4_44 ms_X4_isOut c_X4_isOut (Nat.le_of_ble_eq_true rfl) ⟨by decide, by decide⟩ ?_
    refine x_ifB_eq (q := 36) (t := 43) dX4_sea_33 rfl (by decide) (fun h33 => ?_) (fun h33 => ?_)
    · obtain ⟨c, -, hc2, rfl⟩ := out_rng (a := 0) (b := 100) (x := y) (by decide) (by decide) h33
      have ec : cl (nI c) = c := jnI_clamp (by omega)
      have hT : Iv n8 (T0 m n8) := iv_bc hI
      refine x_aload_n (q := 44) dX4_sea_43 rfl rfl ?_
      refine x_getR (q := 47) dX4_sea_44 rfl fl_X4_16 (or4_trial) ?_
      refine x_aload_n (q := 48) dX4_sea_47 rfl rfl ?_
      refine x_getR (q := 51) dX4_sea_48 rfl fl_X4_12 (or4_coast) ?_
      refine x_callV1n (q := 54) dX4_sea_51 rfl ml_X4_129 mv_X0_becomeAs (rv0 isC_13) rfl (p_X0_becomeAs isC_13 isC_1 (by decide) hI.2.1 hI.1) (Nat.le_of_ble_eq_true rfl) ⟨by decide, by decide⟩ ?_
      refine x_aload_n (q := 55) dX4_sea_54 rfl rfl ?_
      refine x_getR (q := 58) dX4_sea_55 rfl fl_X4_16 (or4_trial) ?_
      refine x_iload_n (q := 59) dX4_sea_58 rfl rfl ?_
      refine x_callV1n (q := 62) dX4_sea_59 rfl ml_X4_109 mv_X0_passDays (rv0 isC_13) rfl (c_X0_passDays isC_13 (by omega) hT) (Nat.le_of_ble_eq_true rfl) ⟨by decide, by decide⟩ ?_
      refine x_iload_n (q := 63) dX4_sea_62 rfl rfl ?_
      refine x_iconst (q := 64) (v := 1) dX4_sea_63 rfl (by decide) ?_
      refine x_icmp_ne (q := 67) (t := 75) dX4_sea_64 rfl (by decide) (fun h64 => ?_) (fun h64 => ?_)
      · refine x_iload_n (q := 76) dX4_sea_75 rfl rfl ?_
        refine x_iconst (q := 77) (v := 2) dX4_sea_76 rfl (by decide) ?_
        refine x_icmp_ne (q := 80) (t := 90) dX4_sea_77 rfl (by decide) (fun h77 => ?_) (fun h77 => ?_)
        · refine x_aload_n (q := 91) dX4_sea_90 rfl rfl ?_
          refine x_getR (q := 94) dX4_sea_91 rfl fl_X4_16 (or4_trial) ?_
          refine x_callV0v (q := 97) dX4_sea_94 rfl ml_X4_119 mv_X0_tideOfDay (rv0 isC_13) rfl (c_X0_tideOfDay isC_13 (hT.days c).td) (Nat.le_of_ble_eq_true rfl) ⟨by decide, by decide⟩ ?_
          refine x_ireturn dX4_sea_97 rfl rfl ?_
          have ht := (by simp [tlk2, h2] : tlk2 x = true)
          exact absurd h2 h64
        refine x_aload_n (q := 81) dX4_sea_80 rfl rfl ?_
        refine x_getR (q := 84) dX4_sea_81 rfl fl_X4_16 (or4_trial) ?_
        refine x_getIr (q := 87) dX4_sea_84 rfl fl_X4_56 (ob0_late isC_13) ?_
        refine x_goto (q := 97) dX4_sea_87 (by decide) ?_
        refine x_ireturn dX4_sea_97 rfl rfl ?_
        have ht := (by simp [tlk2, h2] : tlk2 x = true)
        exact absurd h2 h64
      refine x_aload_n (q := 68) dX4_sea_67 rfl rfl ?_
      refine x_getR (q := 71) dX4_sea_68 rfl fl_X4_16 (or4_trial) ?_
      refine x_getIr (q := 74) dX4_sea_71 rfl fl_X4_116 (ob0_amber isC_13) ?_
      refine x_ireturn dX4_sea_74 rfl rfl ?_
      have ht := (by simp [tlk2, h2] : tlk2 x = true)
      refine ⟨?_, ?_⟩
      · simp only [h33, ht, ec, Bool.false_eq_true, Bool.or_false, Bool.false_or, Bool.or_true, Bool.true_or, Bool.or_self, Bool.not_true, Bool.not_false, if_false, if_true]
        rw [if_pos h64]
        rfl
      · simp only [h33, ht, ec, Bool.false_eq_true, Bool.or_false, Bool.false_or, Bool.or_true, Bool.true_or, Bool.or_self, Bool.not_true, Bool.not_false, if_false, if_true]
        rfl
    refine x_aload_n (q := 37) dX4_sea_36 rfl rfl ?_
    refine x_ldc (q := 39) dX4_sea_37 rfl kc_X4_48 ?_
    refine x_callV1v (q := 42) dX4_sea_39 rfl ml_X4_49 mv_X4_finding rv4 rfl (c_X4_finding (w := 0) (by decide) (by decide)) (Nat.le_of_ble_eq_true rfl) ⟨by decide, by decide⟩ ?_
    refine x_ireturn dX4_sea_42 rfl rfl ?_
    have ht := (by simp [tlk2, h2] : tlk2 x = true)
    exact ⟨by simp [ht, h33], by simp [ht, h33]⟩
  refine x_iload_n (q := 6) dX4_sea_5 rfl rfl ?_
  refine x_iconst (q := 7) (v := 2) dX4_sea_6 rfl (by decide) ?_
  refine x_icmp_eq (q := 10) (t := 16) dX4_sea_7 rfl (by decide) (fun h7 => ?_) (fun h7 => ?_)
  · refine x_iconst (q := 17) (v := 1) dX4_sea_16 rfl (by decide) ?_
    refine x_goto (q := 21) dX4_sea_17 (by decide) ?_
    refine x_istore_n (q := 22) dX4_sea_21 rfl (by decide) rfl rfl ?_
    refine x_iload_n (q := 23) dX4_sea_22 rfl rfl ?_
    refine x_if_eq (q := 26) (t := 36) dX4_sea_23 rfl (by decide) (fun h => absurd h (by decide)) (fun _ => ?_)
    refine x_iload_n (q := 27) dX4_sea_26 rfl rfl ?_
    refine x_iconst (q := 28) (v := 0) dX4_sea_27 rfl (by decide) ?_
    refine x_bipush (q := 30) (v := 100) dX4_sea_28 rfl (by decide) ?_
    refine x_callS3v (q := 33) dX4_sea_30 rfl ml_X4_44 ms_X4_isOut c_X4_isOut (Nat.le_of_ble_eq_true rfl) ⟨by decide, by decide⟩ ?_
    refine x_ifB_eq (q := 36) (t := 43) dX4_sea_33 rfl (by decide) (fun h33 => ?_) (fun h33 => ?_)
    · obtain ⟨c, -, hc2, rfl⟩ := out_rng (a := 0) (b := 100) (x := y) (by decide) (by decide) h33
      have ec : cl (nI c) = c := jnI_clamp (by omega)
      have hT : Iv n8 (T0 m n8) := iv_bc hI
      refine x_aload_n (q := 44) dX4_sea_43 rfl rfl ?_
      refine x_getR (q := 47) dX4_sea_44 rfl fl_X4_16 (or4_trial) ?_
      refine x_aload_n (q := 48) dX4_sea_47 rfl rfl ?_
      refine x_getR (q := 51) dX4_sea_48 rfl fl_X4_12 (or4_coast) ?_
      refine x_callV1n (q := 54) dX4_sea_51 rfl ml_X4_129 mv_X0_becomeAs (rv0 isC_13) rfl (p_X0_becomeAs isC_13 isC_1 (by decide) hI.2.1 hI.1) (Nat.le_of_ble_eq_true rfl) ⟨by decide, by decide⟩ ?_
      refine x_aload_n (q := 55) dX4_sea_54 rfl rfl ?_
      refine x_getR (q := 58) dX4_sea_55 rfl fl_X4_16 (or4_trial) ?_
      refine x_iload_n (q := 59) dX4_sea_58 rfl rfl ?_
      refine x_callV1n (q := 62) dX4_sea_59 rfl ml_X4_109 mv_X0_passDays (rv0 isC_13) rfl (c_X0_passDays isC_13 (by omega) hT) (Nat.le_of_ble_eq_true rfl) ⟨by decide, by decide⟩ ?_
      refine x_iload_n (q := 63) dX4_sea_62 rfl rfl ?_
      refine x_iconst (q := 64) (v := 1) dX4_sea_63 rfl (by decide) ?_
      refine x_icmp_ne (q := 67) (t := 75) dX4_sea_64 rfl (by decide) (fun h64 => ?_) (fun h64 => ?_)
      · refine x_iload_n (q := 76) dX4_sea_75 rfl rfl ?_
        refine x_iconst (q := 77) (v := 2) dX4_sea_76 rfl (by decide) ?_
        refine x_icmp_ne (q := 80) (t := 90) dX4_sea_77 rfl (by decide) (fun h77 => ?_) (fun h77 => ?_)
        · refine x_aload_n (q := 91) dX4_sea_90 rfl rfl ?_
          refine x_getR (q := 94) dX4_sea_91 rfl fl_X4_16 (or4_trial) ?_
          refine x_callV0v (q := 97) dX4_sea_94 rfl ml_X4_119 mv_X0_tideOfDay (rv0 isC_13) rfl (c_X0_tideOfDay isC_13 (hT.days c).td) (Nat.le_of_ble_eq_true rfl) ⟨by decide, by decide⟩ ?_
          refine x_ireturn dX4_sea_97 rfl rfl ?_
          have ht := (by simp [tlk2, h2, h7] : tlk2 x = true)
          refine ⟨?_, ?_⟩
          · simp only [h33, ht, ec, Bool.false_eq_true, Bool.or_false, Bool.false_or, Bool.or_true, Bool.true_or, Bool.or_self, Bool.not_true, Bool.not_false, if_false, if_true]
            rw [if_neg h64, if_neg h77]
            rfl
          · simp only [h33, ht, ec, Bool.false_eq_true, Bool.or_false, Bool.false_or, Bool.or_true, Bool.true_or, Bool.or_self, Bool.not_true, Bool.not_false, if_false, if_true]
            rfl
        refine x_aload_n (q := 81) dX4_sea_80 rfl rfl ?_
        refine x_getR (q := 84) dX4_sea_81 rfl fl_X4_16 (or4_trial) ?_
        refine x_getIr (q := 87) dX4_sea_84 rfl fl_X4_56 (ob0_late isC_13) ?_
        refine x_goto (q := 97) dX4_sea_87 (by decide) ?_
        refine x_ireturn dX4_sea_97 rfl rfl ?_
        have ht := (by simp [tlk2, h2, h7] : tlk2 x = true)
        refine ⟨?_, ?_⟩
        · simp only [h33, ht, ec, Bool.false_eq_true, Bool.or_false, Bool.false_or, Bool.or_true, Bool.true_or, Bool.or_self, Bool.not_true, Bool.not_false, if_false, if_true]
          rw [if_neg h64, if_pos h77]
          rfl
        · simp only [h33, ht, ec, Bool.false_eq_true, Bool.or_false, Bool.false_or, Bool.or_true, Bool.true_or, Bool.or_self, Bool.not_true, Bool.not_false, if_false, if_true]
          rfl
      refine x_aload_n (q := 68) dX4_sea_67 rfl rfl ?_
      refine x_getR (q := 71) dX4_sea_68 rfl fl_X4_16 (or4_trial) ?_
      refine x_getIr (q := 74) dX4_sea_71 rfl fl_X4_116 (ob0_amber isC_13) ?_
      refine x_ireturn dX4_sea_74 rfl rfl ?_
      have ht := (by simp [tlk2, h2, h7] : tlk2 x = true)
      exact absurd h64 h2
    refine x_aload_n (q := 37) dX4_sea_36 rfl rfl ?_
    refine x_ldc (q := 39) dX4_sea_37 rfl kc_X4_48 ?_
    refine x_callV1v (q := 42) dX4_sea_39 rfl ml_X4_49 mv_X4_finding rv4 rfl (c_X4_finding (w := 0) (by decide) (by decide)) (Nat.le_of_ble_eq_true rfl) ⟨by decide, by decide⟩ ?_
    refine x_ireturn dX4_sea_42 rfl rfl ?_
    have ht := (by simp [tlk2, h2, h7] : tlk2 x = true)
    exact ⟨by simp [ht, h33], by simp [ht, h33]⟩
  refine x_iload_n (q := 11) dX4_sea_10 rfl rfl ?_
  refine x_bipush (q := 13) (v := 6) dX4_sea_11 rfl (by decide) ?_
  refine x_icmp_ne (q := 16) (t := 20) dX4_sea_13 rfl (by decide) (fun h13 => ?_) (fun h13 => ?_)
  · refine x_iconst (q := 21) (v := 0) dX4_sea_20 rfl (by decide) ?_
    refine x_istore_n (q := 22) dX4_sea_21 rfl (by decide) rfl rfl ?_
    refine x_iload_n (q := 23) dX4_sea_22 rfl rfl ?_
    refine x_if_eq (q := 26) (t := 36) dX4_sea_23 rfl (by decide) (fun _ => ?_) (fun h => absurd (by decide) h)
    refine x_aload_n (q := 37) dX4_sea_36 rfl rfl ?_
    refine x_ldc (q := 39) dX4_sea_37 rfl kc_X4_48 ?_
    refine x_callV1v (q := 42) dX4_sea_39 rfl ml_X4_49 mv_X4_finding rv4 rfl (c_X4_finding (w := 0) (by decide) (by decide)) (Nat.le_of_ble_eq_true rfl) ⟨by decide, by decide⟩ ?_
    refine x_ireturn dX4_sea_42 rfl rfl ?_
    have ht := (by simp [tlk2, h2, h7, h13] : tlk2 x = false)
    exact ⟨by simp [ht, ht], by simp [ht, ht]⟩
  refine x_iconst (q := 17) (v := 1) dX4_sea_16 rfl (by decide) ?_
  refine x_goto (q := 21) dX4_sea_17 (by decide) ?_
  refine x_istore_n (q := 22) dX4_sea_21 rfl (by decide) rfl rfl ?_
  refine x_iload_n (q := 23) dX4_sea_22 rfl rfl ?_
  refine x_if_eq (q := 26) (t := 36) dX4_sea_23 rfl (by decide) (fun h => absurd h (by decide)) (fun _ => ?_)
  refine x_iload_n (q := 27) dX4_sea_26 rfl rfl ?_
  refine x_iconst (q := 28) (v := 0) dX4_sea_27 rfl (by decide) ?_
  refine x_bipush (q := 30) (v := 100) dX4_sea_28 rfl (by decide) ?_
  refine x_callS3v (q := 33) dX4_sea_30 rfl ml_X4_44 ms_X4_isOut c_X4_isOut (Nat.le_of_ble_eq_true rfl) ⟨by decide, by decide⟩ ?_
  refine x_ifB_eq (q := 36) (t := 43) dX4_sea_33 rfl (by decide) (fun h33 => ?_) (fun h33 => ?_)
  · obtain ⟨c, -, hc2, rfl⟩ := out_rng (a := 0) (b := 100) (x := y) (by decide) (by decide) h33
    have ec : cl (nI c) = c := jnI_clamp (by omega)
    have hT : Iv n8 (T0 m n8) := iv_bc hI
    refine x_aload_n (q := 44) dX4_sea_43 rfl rfl ?_
    refine x_getR (q := 47) dX4_sea_44 rfl fl_X4_16 (or4_trial) ?_
    refine x_aload_n (q := 48) dX4_sea_47 rfl rfl ?_
    refine x_getR (q := 51) dX4_sea_48 rfl fl_X4_12 (or4_coast) ?_
    refine x_callV1n (q := 54) dX4_sea_51 rfl ml_X4_129 mv_X0_becomeAs (rv0 isC_13) rfl (p_X0_becomeAs isC_13 isC_1 (by decide) hI.2.1 hI.1) (Nat.le_of_ble_eq_true rfl) ⟨by decide, by decide⟩ ?_
    refine x_aload_n (q := 55) dX4_sea_54 rfl rfl ?_
    refine x_getR (q := 58) dX4_sea_55 rfl fl_X4_16 (or4_trial) ?_
    refine x_iload_n (q := 59) dX4_sea_58 rfl rfl ?_
    refine x_callV1n (q := 62) dX4_sea_59 rfl ml_X4_109 mv_X0_passDays (rv0 isC_13) rfl (c_X0_passDays isC_13 (by omega) hT) (Nat.le_of_ble_eq_true rfl) ⟨by decide, by decide⟩ ?_
    refine x_iload_n (q := 63) dX4_sea_62 rfl rfl ?_
    refine x_iconst (q := 64) (v := 1) dX4_sea_63 rfl (by decide) ?_
    refine x_icmp_ne (q := 67) (t := 75) dX4_sea_64 rfl (by decide) (fun h64 => ?_) (fun h64 => ?_)
    · refine x_iload_n (q := 76) dX4_sea_75 rfl rfl ?_
      refine x_iconst (q := 77) (v := 2) dX4_sea_76 rfl (by decide) ?_
      refine x_icmp_ne (q := 80) (t := 90) dX4_sea_77 rfl (by decide) (fun h77 => ?_) (fun h77 => ?_)
      · refine x_aload_n (q := 91) dX4_sea_90 rfl rfl ?_
        refine x_getR (q := 94) dX4_sea_91 rfl fl_X4_16 (or4_trial) ?_
        refine x_callV0v (q := 97) dX4_sea_94 rfl ml_X4_119 mv_X0_tideOfDay (rv0 isC_13) rfl (c_X0_tideOfDay isC_13 (hT.days c).td) (Nat.le_of_ble_eq_true rfl) ⟨by decide, by decide⟩ ?_
        refine x_ireturn dX4_sea_97 rfl rfl ?_
        have ht := (by simp [tlk2, h2, h7, h13] : tlk2 x = true)
        refine ⟨?_, ?_⟩
        · simp only [h33, ht, ec, Bool.false_eq_true, Bool.or_false, Bool.false_or, Bool.or_true, Bool.true_or, Bool.or_self, Bool.not_true, Bool.not_false, if_false, if_true]
          rw [if_neg h64, if_neg h77]
          rfl
        · simp only [h33, ht, ec, Bool.false_eq_true, Bool.or_false, Bool.false_or, Bool.or_true, Bool.true_or, Bool.or_self, Bool.not_true, Bool.not_false, if_false, if_true]
          rfl
      refine x_aload_n (q := 81) dX4_sea_80 rfl rfl ?_
      refine x_getR (q := 84) dX4_sea_81 rfl fl_X4_16 (or4_trial) ?_
      refine x_getIr (q := 87) dX4_sea_84 rfl fl_X4_56 (ob0_late isC_13) ?_
      refine x_goto (q := 97) dX4_sea_87 (by decide) ?_
      refine x_ireturn dX4_sea_97 rfl rfl ?_
      have ht := (by simp [tlk2, h2, h7, h13] : tlk2 x = true)
      refine ⟨?_, ?_⟩
      · simp only [h33, ht, ec, Bool.false_eq_true, Bool.or_false, Bool.false_or, Bool.or_true, Bool.true_or, Bool.or_self, Bool.not_true, Bool.not_false, if_false, if_true]
        rw [if_neg h64, if_pos h77]
        rfl
      · simp only [h33, ht, ec, Bool.false_eq_true, Bool.or_false, Bool.false_or, Bool.or_true, Bool.true_or, Bool.or_self, Bool.not_true, Bool.not_false, if_false, if_true]
        rfl
    refine x_aload_n (q := 68) dX4_sea_67 rfl rfl ?_
    refine x_getR (q := 71) dX4_sea_68 rfl fl_X4_16 (or4_trial) ?_
    refine x_getIr (q := 74) dX4_sea_71 rfl fl_X4_116 (ob0_amber isC_13) ?_
    refine x_ireturn dX4_sea_74 rfl rfl ?_
    have ht := (by simp [tlk2, h2, h7, h13] : tlk2 x = true)
    exact absurd h64 h2
  refine x_aload_n (q := 37) dX4_sea_36 rfl rfl ?_
  refine x_ldc (q := 39) dX4_sea_37 rfl kc_X4_48 ?_
  refine x_callV1v (q := 42) dX4_sea_39 rfl ml_X4_49 mv_X4_finding rv4 rfl (c_X4_finding (w := 0) (by decide) (by decide)) (Nat.le_of_ble_eq_true rfl) ⟨by decide, by decide⟩ ?_
  refine x_ireturn dX4_sea_42 rfl rfl ?_
  have ht := (by simp [tlk2, h2, h7, h13] : tlk2 x = true)
  exact ⟨by simp [ht, h33], by simp [ht, h33]⟩
theorem dX4_when_0 : decode cX4_when 0 = .ok (.aload_n 0, 1) := by decide +kernel
theorem dX4_when_1 : decode cX4_when 1 = .ok (.iload_n 1, 1) := by decide +kernel
theorem dX4_when_2 : decode cX4_when 2 = .ok (.invokevirtual 76, 3) := by decide +kernel
theorem dX4_when_5 : decode cX4_when 5 = .ok (.ifCond .ne 12, 3) := by decide +kernel
theorem dX4_when_8 : decode cX4_when 8 = .ok (.iload_n 2, 1) := by decide +kernel
theorem dX4_when_9 : decode cX4_when 9 = .ok (.iconst 1, 1) := by decide +kernel
theorem dX4_when_10 : decode cX4_when 10 = .ok (.iconst 2, 1) := by decide +kernel
theorem dX4_when_11 : decode cX4_when 11 = .ok (.invokestatic 44, 3) := by decide +kernel
theorem dX4_when_14 : decode cX4_when 14 = .ok (.ifCond .eq 10, 3) := by decide +kernel
theorem dX4_when_17 : decode cX4_when 17 = .ok (.aload_n 0, 1) := by decide +kernel
theorem dX4_when_18 : decode cX4_when 18 = .ok (.ldc 48, 2) := by decide +kernel
theorem dX4_when_20 : decode cX4_when 20 = .ok (.invokevirtual 49, 3) := by decide +kernel
theorem dX4_when_23 : decode cX4_when 23 = .ok (.ireturn, 1) := by decide +kernel
theorem dX4_when_24 : decode cX4_when 24 = .ok (.aload_n 0, 1) := by decide +kernel
theorem dX4_when_25 : decode cX4_when 25 = .ok (.iload_n 1, 1) := by decide +kernel
theorem dX4_when_26 : decode cX4_when 26 = .ok (.invokevirtual 126, 3) := by decide +kernel
theorem dX4_when_29 : decode cX4_when 29 = .ok (.astore_n 3, 1) := by decide +kernel
theorem dX4_when_30 : decode cX4_when 30 = .ok (.iconst 0, 1) := by decide +kernel
theorem dX4_when_31 : decode cX4_when 31 = .ok (.istore 4, 2) := by decide +kernel
theorem dX4_when_33 : decode cX4_when 33 = .ok (.iload 4, 2) := by decide +kernel
theorem dX4_when_35 : decode cX4_when 35 = .ok (.sipush 200, 3) := by decide +kernel
theorem dX4_when_38 : decode cX4_when 38 = .ok (.if_icmp .gt 27, 3) := by decide +kernel
theorem dX4_when_41 : decode cX4_when 41 = .ok (.aload_n 3, 1) := by decide +kernel
theorem dX4_when_42 : decode cX4_when 42 = .ok (.getfield 133, 3) := by decide +kernel
theorem dX4_when_45 : decode cX4_when 45 = .ok (.iload_n 2, 1) := by decide +kernel
theorem dX4_when_46 : decode cX4_when 46 = .ok (.if_icmp .ne 6, 3) := by decide +kernel
theorem dX4_when_49 : decode cX4_when 49 = .ok (.iload 4, 2) := by decide +kernel
theorem dX4_when_51 : decode cX4_when 51 = .ok (.ireturn, 1) := by decide +kernel
theorem dX4_when_52 : decode cX4_when 52 = .ok (.aload_n 0, 1) := by decide +kernel
theorem dX4_when_53 : decode cX4_when 53 = .ok (.getfield 16, 3) := by decide +kernel
theorem dX4_when_56 : decode cX4_when 56 = .ok (.invokevirtual 136, 3) := by decide +kernel
theorem dX4_when_59 : decode cX4_when 59 = .ok (.iinc 4 1, 3) := by decide +kernel
theorem dX4_when_62 : decode cX4_when 62 = .ok (.goto (-29), 3) := by decide +kernel
theorem dX4_when_65 : decode cX4_when 65 = .ok (.aload_n 0, 1) := by decide +kernel
theorem dX4_when_66 : decode cX4_when 66 = .ok (.ldc 139, 2) := by decide +kernel
theorem dX4_when_68 : decode cX4_when 68 = .ok (.invokevirtual 49, 3) := by decide +kernel
theorem dX4_when_71 : decode cX4_when 71 = .ok (.ireturn, 1) := by decide +kernel
set_option maxRecDepth 20000 in
set_option maxHeartbeats 4000000 in
theorem l_X4_when {K : Cx} {n8 k : Nat} {x : Int32} {t : Nat → Int32} {m : TM} (hT : Iv n8 t) (hk8 : k < 8) : ∀ (n : Nat) (j : Nat), 201 - j < n → j ≤ 201 → XX RX4 cX4_when 5 (some .int) 4 87 K 33 [some (.ref 0), some (.int (nI k)), some (.int x), some (.ref (13 + 4 + k)), some (.int (nI j))] [] (sr m 13 (dysC n8 (j) t)) (fun r1 m1 => r1 = (some (.int (ansN (srch (fun q => decide (dysC n8 q t (12 + 7 * k + 4) = x)) (201 - j) j)))) ∧ m1 = ansM m n8 t (srch (fun q => decide (dysC n8 q t (12 + 7 * k + 4) = x)) (201 - j) j)) := by
  intro n
  induction n with
  | zero => intro j hlt; exact absurd hlt (Nat.not_lt_zero _)
  | succ n ih =>
    intro j hlt hj
    refine x_iload (q := 35) dX4_when_33 rfl rfl ?_
    refine x_sipush (q := 38) (v := 200) dX4_when_35 rfl (by decide) ?_
    refine x_icmp_gt (q := 41) (t := 65) dX4_when_38 rfl (by decide) (fun h38 => ?_) (fun h38 => ?_)
    · have e : j = 201 := by
        have h9 : 200 < j := (jnI_lt (a := 200) (b := j) (by omega) (by omega)).mp h38
        omega
      subst e
      refine x_aload_n (q := 66) dX4_when_65 rfl rfl ?_
      refine x_ldc (q := 68) dX4_when_66 rfl kc_X4_139 ?_
      refine x_callV1v (q := 71) dX4_when_68 rfl ml_X4_49 mv_X4_finding rv4 rfl (c_X4_finding (w := 3) (by decide) (by decide)) (Nat.le_of_ble_eq_true rfl) ⟨by decide, by decide⟩ ?_
      refine x_ireturn dX4_when_71 rfl rfl ?_
      exact ⟨rfl, rfl⟩
    have hjn : j < 201 := by
      have h9 : ¬ 200 < j := fun q => h38 ((jnI_lt (a := 200) (b := j) (by omega) (by omega)).mpr q)
      omega
    have e1 : 201 - j = (201 - (j + 1)) + 1 := by omega
    rw [e1]
    simp only [srch]
    refine x_aload_n (q := 42) dX4_when_41 rfl rfl ?_
    refine x_getIr (q := 45) dX4_when_42 rfl fl_X4_133 (ob1 isC_13 hk8 4 (by decide)) ?_
    refine x_iload_n (q := 46) dX4_when_45 rfl rfl ?_
    refine x_icmp_ne (q := 49) (t := 52) dX4_when_46 rfl (by decide) (fun h46 => ?_) (fun h46 => ?_)
    · refine x_aload_n (q := 53) dX4_when_52 rfl rfl ?_
      refine x_getR (q := 56) dX4_when_53 rfl fl_X4_16 (or4_trial) ?_
      refine x_callV0n (q := 59) dX4_when_56 rfl ml_X4_136 mv_X0_passDay (rv0 isC_13) rfl (c_X0_passDay isC_13 (hT.days j).2.1 hT.1 (hT.days j).td) (Nat.le_of_ble_eq_true rfl) ⟨by decide, by decide⟩ ?_
      refine x_iinc (q := 62) (v := nI (j + 1)) dX4_when_59 rfl rfl (jnI_s j) (by decide) rfl rfl ?_
      refine x_goto (q := 33) dX4_when_62 (by decide) ?_
      rw [if_neg (by rw [decide_eq_true_iff]; exact h46)]
      have key := ih (j + 1) (by omega) (by omega)
      rw [dysC_s] at key
      exact key
    refine x_iload (q := 51) dX4_when_49 rfl rfl ?_
    refine x_ireturn dX4_when_51 rfl rfl ?_
    rw [if_pos (decide_eq_true h46)]
    exact ⟨rfl, rfl⟩
set_option maxRecDepth 20000 in
set_option maxHeartbeats 4000000 in
theorem c_X4_when {K : Cx} {p x : Int32} {n8 : Nat} {m : TM} (hI : Iv n8 (m.1 1)) : CT yX4_when cX4_when 5 (some .int) 4 87 K [.ref 0, .int p, .int x] (m) (some (.int ((if (outI p 0 (m.1 1 1 - 1) || outI x 1 2) = true then -1000001 else ansN (srch (fun q => decide (dysC n8 q (T0 m n8) (12 + 7 * cl p + 4) = x)) 201 0))))) ((if (outI p 0 (m.1 1 1 - 1) || outI x 1 2) = true then fnd m 0 else ansM m n8 (T0 m n8) (srch (fun q => decide (dysC n8 q (T0 m n8) (12 + 7 * cl p + 4) = x)) 201 0))) := by
  refine ct_ofd (n := 2) (by decide +kernel) rfl rfl ?_
  show XX RX4 cX4_when 5 (some .int) 4 87 K 0 [some (.ref 0), some (.int p), some (.int x), none, none] [] (m) (fun r1 m1 => r1 = (some (.int ((if (outI p 0 (m.1 1 1 - 1) || outI x 1 2) = true then -1000001 else ansN (srch (fun q => decide (dysC n8 q (T0 m n8) (12 + 7 * cl p + 4) = x)) 201 0))))) ∧ m1 = (if (outI p 0 (m.1 1 1 - 1) || outI x 1 2) = true then fnd m 0 else ansM m n8 (T0 m n8) (srch (fun q => decide (dysC n8 q (T0 m n8) (12 + 7 * cl p + 4) = x)) 201 0)))
  refine x_aload_n (q := 1) dX4_when_0 rfl rfl ?_
  refine x_iload_n (q := 2) dX4_when_1 rfl rfl ?_
  refine x_callV1v (q := 5) dX4_when_2 rfl ml_X4_76 mv_X4_isNoParcel rv4 rfl c_X4_isNoParcel (Nat.le_of_ble_eq_true rfl) ⟨by decide, by decide⟩ ?_
  refine x_ifB_ne (q := 8) (t := 17) dX4_when_5 rfl (by decide) (fun h5 => ?_) (fun h5 => ?_)
  · refine x_aload_n (q := 18) dX4_when_17 rfl rfl ?_
    refine x_ldc (q := 20) dX4_when_18 rfl kc_X4_48 ?_
    refine x_callV1v (q := 23) dX4_when_20 rfl ml_X4_49 mv_X4_finding rv4 rfl (c_X4_finding (w := 0) (by decide) (by decide)) (Nat.le_of_ble_eq_true rfl) ⟨by decide, by decide⟩ ?_
    refine x_ireturn dX4_when_23 rfl rfl ?_
    exact ⟨by simp [h5], by simp [h5]⟩
  refine x_iload_n (q := 9) dX4_when_8 rfl rfl ?_
  refine x_iconst (q := 10) (v := 1) dX4_when_9 rfl (by decide) ?_
  refine x_iconst (q := 11) (v := 2) dX4_when_10 rfl (by decide) ?_
  refine x_callS3v (q := 14) dX4_when_11 rfl ml_X4_44 ms_X4_isOut c_X4_isOut (Nat.le_of_ble_eq_true rfl) ⟨by decide, by decide⟩ ?_
  refine x_ifB_eq (q := 17) (t := 24) dX4_when_14 rfl (by decide) (fun h14 => ?_) (fun h14 => ?_)
  · obtain ⟨k, hk, rfl⟩ : ∃ k, k < n8 ∧ p = nI k := ⟨cl p, (par_k hI.2.1 hI.1 h5).2, par_nI hI.2.1 hI.1 h5⟩
    have hk8 : k < 8 := by have := hI.1; omega
    have ek : cl (nI k) = k := jnI_clamp (by omega)
    have hT : Iv n8 (T0 m n8) := iv_bc hI
    refine x_aload_n (q := 25) dX4_when_24 rfl rfl ?_
    refine x_iload_n (q := 26) dX4_when_25 rfl rfl ?_
    refine x_callV1v (q := 29) dX4_when_26 rfl ml_X4_126 mv_X4_tried rv4 rfl (p_X4_tried hI hk8) (Nat.le_of_ble_eq_true rfl) ⟨by decide, by decide⟩ ?_
    refine x_astore_n (q := 30) dX4_when_29 rfl (by decide) rfl rfl ?_
    refine x_iconst (q := 31) (v := 0) dX4_when_30 rfl (by decide) ?_
    refine x_istore (q := 33) dX4_when_31 rfl (by decide) rfl rfl ?_
    simp only [h5, h14, ek, Bool.false_eq_true, Bool.or_false, Bool.false_or, Bool.or_true, Bool.true_or, Bool.or_self, Bool.not_true, Bool.not_false, if_false, if_true]
    exact l_X4_when hT hk8 202 0 (by omega) (by omega)
  refine x_aload_n (q := 18) dX4_when_17 rfl rfl ?_
  refine x_ldc (q := 20) dX4_when_18 rfl kc_X4_48 ?_
  refine x_callV1v (q := 23) dX4_when_20 rfl ml_X4_49 mv_X4_finding rv4 rfl (c_X4_finding (w := 0) (by decide) (by decide)) (Nat.le_of_ble_eq_true rfl) ⟨by decide, by decide⟩ ?_
  refine x_ireturn dX4_when_23 rfl rfl ?_
  exact ⟨by simp [h5, h14], by simp [h5, h14]⟩
theorem dX4_cleared_0 : decode cX4_cleared 0 = .ok (.aload_n 0, 1) := by decide +kernel
theorem dX4_cleared_1 : decode cX4_cleared 1 = .ok (.getfield 16, 3) := by decide +kernel
theorem dX4_cleared_4 : decode cX4_cleared 4 = .ok (.aload_n 0, 1) := by decide +kernel
theorem dX4_cleared_5 : decode cX4_cleared 5 = .ok (.getfield 12, 3) := by decide +kernel
theorem dX4_cleared_8 : decode cX4_cleared 8 = .ok (.invokevirtual 129, 3) := by decide +kernel
theorem dX4_cleared_11 : decode cX4_cleared 11 = .ok (.iconst 0, 1) := by decide +kernel
theorem dX4_cleared_12 : decode cX4_cleared 12 = .ok (.istore_n 1, 1) := by decide +kernel
theorem dX4_cleared_13 : decode cX4_cleared 13 = .ok (.iload_n 1, 1) := by decide +kernel
theorem dX4_cleared_14 : decode cX4_cleared 14 = .ok (.sipush 200, 3) := by decide +kernel
theorem dX4_cleared_17 : decode cX4_cleared 17 = .ok (.if_icmp .gt 29, 3) := by decide +kernel
theorem dX4_cleared_20 : decode cX4_cleared 20 = .ok (.aload_n 0, 1) := by decide +kernel
theorem dX4_cleared_21 : decode cX4_cleared 21 = .ok (.getfield 16, 3) := by decide +kernel
theorem dX4_cleared_24 : decode cX4_cleared 24 = .ok (.iconst 0, 1) := by decide +kernel
theorem dX4_cleared_25 : decode cX4_cleared 25 = .ok (.invokevirtual 113, 3) := by decide +kernel
theorem dX4_cleared_28 : decode cX4_cleared 28 = .ok (.ifCond .ne 5, 3) := by decide +kernel
theorem dX4_cleared_31 : decode cX4_cleared 31 = .ok (.iload_n 1, 1) := by decide +kernel
theorem dX4_cleared_32 : decode cX4_cleared 32 = .ok (.ireturn, 1) := by decide +kernel
theorem dX4_cleared_33 : decode cX4_cleared 33 = .ok (.aload_n 0, 1) := by decide +kernel
theorem dX4_cleared_34 : decode cX4_cleared 34 = .ok (.getfield 16, 3) := by decide +kernel
theorem dX4_cleared_37 : decode cX4_cleared 37 = .ok (.invokevirtual 136, 3) := by decide +kernel
theorem dX4_cleared_40 : decode cX4_cleared 40 = .ok (.iinc 1 1, 3) := by decide +kernel
theorem dX4_cleared_43 : decode cX4_cleared 43 = .ok (.goto (-30), 3) := by decide +kernel
theorem dX4_cleared_46 : decode cX4_cleared 46 = .ok (.aload_n 0, 1) := by decide +kernel
theorem dX4_cleared_47 : decode cX4_cleared 47 = .ok (.ldc 139, 2) := by decide +kernel
theorem dX4_cleared_49 : decode cX4_cleared 49 = .ok (.invokevirtual 49, 3) := by decide +kernel
theorem dX4_cleared_52 : decode cX4_cleared 52 = .ok (.ireturn, 1) := by decide +kernel
set_option maxRecDepth 20000 in
set_option maxHeartbeats 4000000 in
theorem l_X4_cleared {K : Cx} {n8 : Nat} {t : Nat → Int32} {m : TM} (hT : Iv n8 t) : ∀ (n : Nat) (j : Nat), 201 - j < n → j ≤ 201 → XX RX4 cX4_cleared 2 (some .int) 4 87 K 13 [some (.ref 0), some (.int (nI j))] [] (sr m 13 (dysC n8 (j) t)) (fun r1 m1 => r1 = (some (.int (ansN (srch (fun q => decide (thF (dysC n8 q t) 0 n8 = 0)) (201 - j) j)))) ∧ m1 = ansM m n8 t (srch (fun q => decide (thF (dysC n8 q t) 0 n8 = 0)) (201 - j) j)) := by
  intro n
  induction n with
  | zero => intro j hlt; exact absurd hlt (Nat.not_lt_zero _)
  | succ n ih =>
    intro j hlt hj
    refine x_iload_n (q := 14) dX4_cleared_13 rfl rfl ?_
    refine x_sipush (q := 17) (v := 200) dX4_cleared_14 rfl (by decide) ?_
    refine x_icmp_gt (q := 20) (t := 46) dX4_cleared_17 rfl (by decide) (fun h17 => ?_) (fun h17 => ?_)
    · have e : j = 201 := by
        have h9 : 200 < j := (jnI_lt (a := 200) (b := j) (by omega) (by omega)).mp h17
        omega
      subst e
      refine x_aload_n (q := 47) dX4_cleared_46 rfl rfl ?_
      refine x_ldc (q := 49) dX4_cleared_47 rfl kc_X4_139 ?_
      refine x_callV1v (q := 52) dX4_cleared_49 rfl ml_X4_49 mv_X4_finding rv4 rfl (c_X4_finding (w := 3) (by decide) (by decide)) (Nat.le_of_ble_eq_true rfl) ⟨by decide, by decide⟩ ?_
      refine x_ireturn dX4_cleared_52 rfl rfl ?_
      exact ⟨rfl, rfl⟩
    have hjn : j < 201 := by
      have h9 : ¬ 200 < j := fun q => h17 ((jnI_lt (a := 200) (b := j) (by omega) (by omega)).mpr q)
      omega
    have e1 : 201 - j = (201 - (j + 1)) + 1 := by omega
    rw [e1]
    simp only [srch]
    refine x_aload_n (q := 21) dX4_cleared_20 rfl rfl ?_
    refine x_getR (q := 24) dX4_cleared_21 rfl fl_X4_16 (or4_trial) ?_
    refine x_iconst (q := 25) (v := 0) dX4_cleared_24 rfl (by decide) ?_
    refine x_callV1v (q := 28) dX4_cleared_25 rfl ml_X4_113 mv_X0_allThatAre (rv0 isC_13) rfl (c_X0_allThatAre isC_13 (hT.days j).2.1 hT.1) (Nat.le_of_ble_eq_true rfl) ⟨by decide, by decide⟩ ?_
    refine x_if_ne (q := 31) (t := 33) dX4_cleared_28 rfl (by decide) (fun h28 => ?_) (fun h28 => ?_)
    · refine x_aload_n (q := 34) dX4_cleared_33 rfl rfl ?_
      refine x_getR (q := 37) dX4_cleared_34 rfl fl_X4_16 (or4_trial) ?_
      refine x_callV0n (q := 40) dX4_cleared_37 rfl ml_X4_136 mv_X0_passDay (rv0 isC_13) rfl (c_X0_passDay isC_13 (hT.days j).2.1 hT.1 (hT.days j).td) (Nat.le_of_ble_eq_true rfl) ⟨by decide, by decide⟩ ?_
      refine x_iinc (q := 43) (v := nI (j + 1)) dX4_cleared_40 rfl rfl (jnI_s j) (by decide) rfl rfl ?_
      refine x_goto (q := 13) dX4_cleared_43 (by decide) ?_
      rw [if_neg (by rw [decide_eq_true_iff]; exact h28)]
      have key := ih (j + 1) (by omega) (by omega)
      rw [dysC_s] at key
      exact key
    refine x_iload_n (q := 32) dX4_cleared_31 rfl rfl ?_
    refine x_ireturn dX4_cleared_32 rfl rfl ?_
    rw [if_pos (decide_eq_true h28)]
    exact ⟨rfl, rfl⟩
set_option maxRecDepth 20000 in
set_option maxHeartbeats 4000000 in
theorem c_X4_cleared {K : Cx} {n8 : Nat} {m : TM} (hI : Iv n8 (m.1 1)) : CT yX4_cleared cX4_cleared 2 (some .int) 4 87 K [.ref 0] (m) (some (.int (ansN (srch (fun q => decide (thF (dysC n8 q (T0 m n8)) 0 n8 = 0)) 201 0)))) (ansM m n8 (T0 m n8) (srch (fun q => decide (thF (dysC n8 q (T0 m n8)) 0 n8 = 0)) 201 0)) := by
  refine ct_ofd (n := 1) (by decide +kernel) rfl rfl ?_
  show XX RX4 cX4_cleared 2 (some .int) 4 87 K 0 [some (.ref 0), none] [] (m) (fun r1 m1 => r1 = (some (.int (ansN (srch (fun q => decide (thF (dysC n8 q (T0 m n8)) 0 n8 = 0)) 201 0)))) ∧ m1 = ansM m n8 (T0 m n8) (srch (fun q => decide (thF (dysC n8 q (T0 m n8)) 0 n8 = 0)) 201 0))
  refine x_aload_n (q := 1) dX4_cleared_0 rfl rfl ?_
  refine x_getR (q := 4) dX4_cleared_1 rfl fl_X4_16 (or4_trial) ?_
  refine x_aload_n (q := 5) dX4_cleared_4 rfl rfl ?_
  refine x_getR (q := 8) dX4_cleared_5 rfl fl_X4_12 (or4_coast) ?_
  refine x_callV1n (q := 11) dX4_cleared_8 rfl ml_X4_129 mv_X0_becomeAs (rv0 isC_13) rfl (p_X0_becomeAs isC_13 isC_1 (by decide) hI.2.1 hI.1) (Nat.le_of_ble_eq_true rfl) ⟨by decide, by decide⟩ ?_
  refine x_iconst (q := 12) (v := 0) dX4_cleared_11 rfl (by decide) ?_
  refine x_istore_n (q := 13) dX4_cleared_12 rfl (by decide) rfl rfl ?_
  have hT : Iv n8 (T0 m n8) := iv_bc hI
  exact l_X4_cleared hT 202 0 (by omega) (by omega)
theorem dX4_paid_0 : decode cX4_paid 0 = .ok (.iload_n 1, 1) := by decide +kernel
theorem dX4_paid_1 : decode cX4_paid 1 = .ok (.iconst 0, 1) := by decide +kernel
theorem dX4_paid_2 : decode cX4_paid 2 = .ok (.ldc 107, 2) := by decide +kernel
theorem dX4_paid_4 : decode cX4_paid 4 = .ok (.invokestatic 44, 3) := by decide +kernel
theorem dX4_paid_7 : decode cX4_paid 7 = .ok (.ifCond .eq 10, 3) := by decide +kernel
theorem dX4_paid_10 : decode cX4_paid 10 = .ok (.aload_n 0, 1) := by decide +kernel
theorem dX4_paid_11 : decode cX4_paid 11 = .ok (.ldc 48, 2) := by decide +kernel
theorem dX4_paid_13 : decode cX4_paid 13 = .ok (.invokevirtual 49, 3) := by decide +kernel
theorem dX4_paid_16 : decode cX4_paid 16 = .ok (.ireturn, 1) := by decide +kernel
theorem dX4_paid_17 : decode cX4_paid 17 = .ok (.aload_n 0, 1) := by decide +kernel
theorem dX4_paid_18 : decode cX4_paid 18 = .ok (.getfield 16, 3) := by decide +kernel
theorem dX4_paid_21 : decode cX4_paid 21 = .ok (.aload_n 0, 1) := by decide +kernel
theorem dX4_paid_22 : decode cX4_paid 22 = .ok (.getfield 12, 3) := by decide +kernel
theorem dX4_paid_25 : decode cX4_paid 25 = .ok (.invokevirtual 129, 3) := by decide +kernel
theorem dX4_paid_28 : decode cX4_paid 28 = .ok (.iconst 0, 1) := by decide +kernel
theorem dX4_paid_29 : decode cX4_paid 29 = .ok (.istore_n 2, 1) := by decide +kernel
theorem dX4_paid_30 : decode cX4_paid 30 = .ok (.iload_n 2, 1) := by decide +kernel
theorem dX4_paid_31 : decode cX4_paid 31 = .ok (.sipush 200, 3) := by decide +kernel
theorem dX4_paid_34 : decode cX4_paid 34 = .ok (.if_icmp .gt 29, 3) := by decide +kernel
theorem dX4_paid_37 : decode cX4_paid 37 = .ok (.aload_n 0, 1) := by decide +kernel
theorem dX4_paid_38 : decode cX4_paid 38 = .ok (.getfield 16, 3) := by decide +kernel
theorem dX4_paid_41 : decode cX4_paid 41 = .ok (.getfield 116, 3) := by decide +kernel
theorem dX4_paid_44 : decode cX4_paid 44 = .ok (.iload_n 1, 1) := by decide +kernel
theorem dX4_paid_45 : decode cX4_paid 45 = .ok (.if_icmp .lt 5, 3) := by decide +kernel
theorem dX4_paid_48 : decode cX4_paid 48 = .ok (.iload_n 2, 1) := by decide +kernel
theorem dX4_paid_49 : decode cX4_paid 49 = .ok (.ireturn, 1) := by decide +kernel
theorem dX4_paid_50 : decode cX4_paid 50 = .ok (.aload_n 0, 1) := by decide +kernel
theorem dX4_paid_51 : decode cX4_paid 51 = .ok (.getfield 16, 3) := by decide +kernel
theorem dX4_paid_54 : decode cX4_paid 54 = .ok (.invokevirtual 136, 3) := by decide +kernel
theorem dX4_paid_57 : decode cX4_paid 57 = .ok (.iinc 2 1, 3) := by decide +kernel
theorem dX4_paid_60 : decode cX4_paid 60 = .ok (.goto (-30), 3) := by decide +kernel
theorem dX4_paid_63 : decode cX4_paid 63 = .ok (.aload_n 0, 1) := by decide +kernel
theorem dX4_paid_64 : decode cX4_paid 64 = .ok (.ldc 139, 2) := by decide +kernel
theorem dX4_paid_66 : decode cX4_paid 66 = .ok (.invokevirtual 49, 3) := by decide +kernel
theorem dX4_paid_69 : decode cX4_paid 69 = .ok (.ireturn, 1) := by decide +kernel
set_option maxRecDepth 20000 in
set_option maxHeartbeats 4000000 in
theorem l_X4_paid {K : Cx} {n8 : Nat} {x : Int32} {t : Nat → Int32} {m : TM} (hT : Iv n8 t) : ∀ (n : Nat) (j : Nat), 201 - j < n → j ≤ 201 → XX RX4 cX4_paid 3 (some .int) 4 87 K 30 [some (.ref 0), some (.int x), some (.int (nI j))] [] (sr m 13 (dysC n8 (j) t)) (fun r1 m1 => r1 = (some (.int (ansN (srch (fun q => !decide (dysC n8 q t 3 < x)) (201 - j) j)))) ∧ m1 = ansM m n8 t (srch (fun q => !decide (dysC n8 q t 3 < x)) (201 - j) j)) := by
  intro n
  induction n with
  | zero => intro j hlt; exact absurd hlt (Nat.not_lt_zero _)
  | succ n ih =>
    intro j hlt hj
    refine x_iload_n (q := 31) dX4_paid_30 rfl rfl ?_
    refine x_sipush (q := 34) (v := 200) dX4_paid_31 rfl (by decide) ?_
    refine x_icmp_gt (q := 37) (t := 63) dX4_paid_34 rfl (by decide) (fun h34 => ?_) (fun h34 => ?_)
    · have e : j = 201 := by
        have h9 : 200 < j := (jnI_lt (a := 200) (b := j) (by omega) (by omega)).mp h34
        omega
      subst e
      refine x_aload_n (q := 64) dX4_paid_63 rfl rfl ?_
      refine x_ldc (q := 66) dX4_paid_64 rfl kc_X4_139 ?_
      refine x_callV1v (q := 69) dX4_paid_66 rfl ml_X4_49 mv_X4_finding rv4 rfl (c_X4_finding (w := 3) (by decide) (by decide)) (Nat.le_of_ble_eq_true rfl) ⟨by decide, by decide⟩ ?_
      refine x_ireturn dX4_paid_69 rfl rfl ?_
      exact ⟨rfl, rfl⟩
    have hjn : j < 201 := by
      have h9 : ¬ 200 < j := fun q => h34 ((jnI_lt (a := 200) (b := j) (by omega) (by omega)).mpr q)
      omega
    have e1 : 201 - j = (201 - (j + 1)) + 1 := by omega
    rw [e1]
    simp only [srch]
    refine x_aload_n (q := 38) dX4_paid_37 rfl rfl ?_
    refine x_getR (q := 41) dX4_paid_38 rfl fl_X4_16 (or4_trial) ?_
    refine x_getIr (q := 44) dX4_paid_41 rfl fl_X4_116 (ob0_amber isC_13) ?_
    refine x_iload_n (q := 45) dX4_paid_44 rfl rfl ?_
    refine x_icmp_lt (q := 48) (t := 50) dX4_paid_45 rfl (by decide) (fun h45 => ?_) (fun h45 => ?_)
    · refine x_aload_n (q := 51) dX4_paid_50 rfl rfl ?_
      refine x_getR (q := 54) dX4_paid_51 rfl fl_X4_16 (or4_trial) ?_
      refine x_callV0n (q := 57) dX4_paid_54 rfl ml_X4_136 mv_X0_passDay (rv0 isC_13) rfl (c_X0_passDay isC_13 (hT.days j).2.1 hT.1 (hT.days j).td) (Nat.le_of_ble_eq_true rfl) ⟨by decide, by decide⟩ ?_
      refine x_iinc (q := 60) (v := nI (j + 1)) dX4_paid_57 rfl rfl (jnI_s j) (by decide) rfl rfl ?_
      refine x_goto (q := 30) dX4_paid_60 (by decide) ?_
      rw [if_neg (by rw [decide_eq_true h45]; decide)]
      have key := ih (j + 1) (by omega) (by omega)
      rw [dysC_s] at key
      exact key
    refine x_iload_n (q := 49) dX4_paid_48 rfl rfl ?_
    refine x_ireturn dX4_paid_49 rfl rfl ?_
    rw [if_pos (by rw [decide_eq_false h45]; rfl)]
    exact ⟨rfl, rfl⟩
set_option maxRecDepth 20000 in
set_option maxHeartbeats 4000000 in
theorem c_X4_paid {K : Cx} {x : Int32} {n8 : Nat} {m : TM} (hI : Iv n8 (m.1 1)) : CT yX4_paid cX4_paid 3 (some .int) 4 87 K [.ref 0, .int x] (m) (some (.int ((if (outI x 0 99999) = true then -1000001 else ansN (srch (fun q => !decide (dysC n8 q (T0 m n8) 3 < x)) 201 0))))) ((if (outI x 0 99999) = true then fnd m 0 else ansM m n8 (T0 m n8) (srch (fun q => !decide (dysC n8 q (T0 m n8) 3 < x)) 201 0))) := by
  refine ct_ofd (n := 1) (by decide +kernel) rfl rfl ?_
  show XX RX4 cX4_paid 3 (some .int) 4 87 K 0 [some (.ref 0), some (.int x), none] [] (m) (fun r1 m1 => r1 = (some (.int ((if (outI x 0 99999) = true then -1000001 else ansN (srch (fun q => !decide (dysC n8 q (T0 m n8) 3 < x)) 201 0))))) ∧ m1 = (if (outI x 0 99999) = true then fnd m 0 else ansM m n8 (T0 m n8) (srch (fun q => !decide (dysC n8 q (T0 m n8) 3 < x)) 201 0)))
  refine x_iload_n (q := 1) dX4_paid_0 rfl rfl ?_
  refine x_iconst (q := 2) (v := 0) dX4_paid_1 rfl (by decide) ?_
  refine x_ldc (q := 4) dX4_paid_2 rfl kc_X4_107 ?_
  refine x_callS3v (q := 7) dX4_paid_4 rfl ml_X4_44 ms_X4_isOut c_X4_isOut (Nat.le_of_ble_eq_true rfl) ⟨by decide, by decide⟩ ?_
  refine x_ifB_eq (q := 10) (t := 17) dX4_paid_7 rfl (by decide) (fun h7 => ?_) (fun h7 => ?_)
  · refine x_aload_n (q := 18) dX4_paid_17 rfl rfl ?_
    refine x_getR (q := 21) dX4_paid_18 rfl fl_X4_16 (or4_trial) ?_
    refine x_aload_n (q := 22) dX4_paid_21 rfl rfl ?_
    refine x_getR (q := 25) dX4_paid_22 rfl fl_X4_12 (or4_coast) ?_
    refine x_callV1n (q := 28) dX4_paid_25 rfl ml_X4_129 mv_X0_becomeAs (rv0 isC_13) rfl (p_X0_becomeAs isC_13 isC_1 (by decide) hI.2.1 hI.1) (Nat.le_of_ble_eq_true rfl) ⟨by decide, by decide⟩ ?_
    refine x_iconst (q := 29) (v := 0) dX4_paid_28 rfl (by decide) ?_
    refine x_istore_n (q := 30) dX4_paid_29 rfl (by decide) rfl rfl ?_
    simp only [h7, Bool.false_eq_true, Bool.or_false, Bool.false_or, Bool.or_true, Bool.true_or, Bool.or_self, Bool.not_true, Bool.not_false, if_false, if_true]
    have hT : Iv n8 (T0 m n8) := iv_bc hI
    exact l_X4_paid hT 202 0 (by omega) (by omega)
  refine x_aload_n (q := 11) dX4_paid_10 rfl rfl ?_
  refine x_ldc (q := 13) dX4_paid_11 rfl kc_X4_48 ?_
  refine x_callV1v (q := 16) dX4_paid_13 rfl ml_X4_49 mv_X4_finding rv4 rfl (c_X4_finding (w := 0) (by decide) (by decide)) (Nat.le_of_ble_eq_true rfl) ⟨by decide, by decide⟩ ?_
  refine x_ireturn dX4_paid_16 rfl rfl ?_
  exact ⟨by simp [h7], by simp [h7]⟩
