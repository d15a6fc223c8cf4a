/-! the class's own calls -/
def fnd (m : TM) (w : Nat) : TM := st1 m 40 w (m.1 40 w + 1)
def fnm (m : TM) (w : Nat) : TM := st1 m 53 w (m.1 53 w + 1)
def cl (i : Int32) : Nat := i.toNatClampNeg
theorem ix_out {i c : Int32} {n : Nat} (h : outI i 0 c = false) (hc : c.toInt < n) : IX i (cl i) n := by
  unfold outI at h
  rw [Bool.or_eq_false_iff] at h
  exact ix_le (of_decide_eq_false h.1) (of_decide_eq_false h.2) hc
theorem par_k {p x : Int32} {n : Nat} (hn : x = nI n) (h8 : n ≤ 8) (h : outI p 0 (x - 1) = false) : IX p (cl p) 8 ∧ cl p < n := by
  unfold outI at h
  rw [Bool.or_eq_false_iff] at h
  have h1 := of_decide_eq_false h.1
  have h2 := of_decide_eq_false h.2
  have e := toInt_clamp h1
  cases n with
  | zero =>
    exfalso
    subst hn
    rw [Int32.lt_iff_toInt_lt] at h1 h2
    have z : (nI 0 - 1 : Int32).toInt = -1 := by decide
    rw [z] at h2
    have z0 : (0 : Int32).toInt = 0 := by decide
    rw [z0] at h1
    omega
  | succ k =>
    subst hn
    rw [nI_pred, Int32.lt_iff_toInt_lt, jnI_toInt (by omega)] at h2
    have hk : cl p < k + 1 := by unfold cl; omega
    exact ⟨⟨h1, rfl, by omega⟩, hk⟩
theorem par_nI {p x : Int32} {n : Nat} (hn : x = nI n) (h8 : n ≤ 8) (h : outI p 0 (x - 1) = false) : p = nI (cl p) := jnI_of (par_k hn h8 h).1.1
theorem sw_out {x : Int32} (h0 : ¬ x = 0) (h1 : ¬ x = 1) (h2 : ¬ x = 2) (h3 : ¬ x = 3) (h4 : ¬ x = 4) (h5 : ¬ x = 5) (h6 : ¬ x = 6) (h7 : ¬ x = 7) : outI x 0 7 = true := by
  have n0 := lv_neT h0 (a := 0) (by decide)
  have n1 := lv_neT h1 (a := 1) (by decide)
  have n2 := lv_neT h2 (a := 2) (by decide)
  have n3 := lv_neT h3 (a := 3) (by decide)
  have n4 := lv_neT h4 (a := 4) (by decide)
  have n5 := lv_neT h5 (a := 5) (by decide)
  have n6 := lv_neT h6 (a := 6) (by decide)
  have n7 := lv_neT h7 (a := 7) (by decide)
  unfold outI
  rw [Bool.or_eq_true, decide_eq_true_iff, decide_eq_true_iff, Int32.lt_iff_toInt_lt, Int32.lt_iff_toInt_lt]
  have z0 : (0 : Int32).toInt = 0 := by decide
  have z7 : (7 : Int32).toInt = 7 := by decide
  rw [z0, z7]
  omega
theorem p_X0_tideOfDay {K : Cx} {b : Nat} {m : TM} (hb : isC b) (ht : TD (m.1 b)) : CT yX0_tideOfDay cX0_tideOfDay 1 (some .int) 0 0 K [.ref b] m (some (.int (tdF (m.1 b)))) (m) := by
  have h := c_X0_tideOfDay (K := K) (m := m) (s := m.1 b) hb ht
  rw [sr_self] at h
  exact h
theorem p_X0_allThatAre {K : Cx} {b : Nat} {m : TM} {n8 : Nat} {x : Int32} (hb : isC b) (hn : m.1 b 1 = nI n8) (h8 : n8 ≤ 8) : CT yX0_allThatAre cX0_allThatAre 4 (some .int) 0 0 K [.ref b, .int x] m (some (.int (thF (m.1 b) x n8))) (m) := by
  have h := c_X0_allThatAre (K := K) (m := m) (s := m.1 b) (x := x) hb hn h8
  rw [sr_self] at h
  exact h
theorem p_X0_lyingOn {K : Cx} {b : Nat} {m : TM} {n8 : Nat} {x : Int32} (hb : isC b) (hn : m.1 b 1 = nI n8) (h8 : n8 ≤ 8) : CT yX0_lyingOn cX0_lyingOn 4 (some .int) 0 0 K [.ref b, .int x] m (some (.int (lyF (m.1 b) x n8))) (m) := by
  have h := c_X0_lyingOn (K := K) (m := m) (s := m.1 b) (x := x) hb hn h8
  rw [sr_self] at h
  exact h
theorem p_X0_weightThatLies {K : Cx} {b : Nat} {m : TM} {n8 : Nat} (hb : isC b) (hn : m.1 b 1 = nI n8) (h8 : n8 ≤ 8) : CT yX0_weightThatLies cX0_weightThatLies 3 (some .int) 0 0 K [.ref b] m (some (.int (weF (m.1 b) n8))) (m) := by
  have h := c_X0_weightThatLies (K := K) (m := m) (s := m.1 b) hb hn h8
  rw [sr_self] at h
  exact h
theorem p_X0_spotsThatHold {K : Cx} {b : Nat} {m : TM} (hb : isC b) : CT yX0_spotsThatHold cX0_spotsThatHold 6 (some .int) 0 0 K [.ref b] m (some (.int (spF (m.1 b) 10))) (m) := by
  have h := c_X0_spotsThatHold (K := K) (m := m) (s := m.1 b) hb
  rw [sr_self] at h
  exact h
theorem p_X0_passDay {K : Cx} {b : Nat} {m : TM} {n8 : Nat} (hb : isC b) (hI : Iv n8 (m.1 b)) : CT yX0_passDay cX0_passDay 4 none 3 64 K [.ref b] m none (sr m b (dyC (m.1 b) n8)) := by
  have h := c_X0_passDay (K := K) (m := m) (s := m.1 b) hb hI.2.1 hI.1 hI.td
  rw [sr_self] at h
  exact h
theorem p_X0_passDays {K : Cx} {b : Nat} {m : TM} {n8 c : Nat} (hb : isC b) (hc : c ≤ 1000) (hI : Iv n8 (m.1 b)) : CT yX0_passDays cX0_passDays 3 none 4 87 K [.ref b, .int (nI c)] m none (sr m b (dysC n8 c (m.1 b))) := by
  have h := c_X0_passDays (K := K) (m := m) (s := m.1 b) hb hc hI
  rw [sr_self] at h
  exact h
theorem p_X0_becomeAs {K : Cx} {b : Nat} {m : TM} {b2 n8 : Nat} (hb : isC b) (h2 : isC b2) (hne : b2 ≠ b) (hn : m.1 b2 1 = nI n8) (h8 : n8 ≤ 8) : CT yX0_becomeAs cX0_becomeAs 3 none 1 30 K [.ref b, .ref b2] m none (sr m b (bcF (m.1 b) (m.1 b2) n8)) := by
  have h := c_X0_becomeAs (K := K) (m := m) (s := m.1 b) hb h2 hne hn h8
  rw [sr_self] at h
  exact h
theorem p_X0_lay {K : Cx} {b : Nat} {m : TM} {n8 : Nat} {x : Int32} (hb : isC b) (hn : m.1 b 1 = nI n8) (h8 : n8 < 8) : CT yX0_lay cX0_lay 3 (some (.object "SeaParcels$Parcel")) 1 21 K [.ref b, .int x] m (some (.ref (b + 4 + n8))) (sr m b (upd (newF (m.1 b) n8 x) 1 (nI (n8 + 1)))) := by
  have h := c_X0_lay (K := K) (m := m) (s := m.1 b) (x := x) hb hn h8
  rw [sr_self] at h
  exact h
theorem p_X0_layN {K : Cx} {b : Nat} {m : TM} {x : Int32} (hb : isC b) (hn : m.1 b 1 = nI 8) : CT yX0_lay cX0_lay 3 (some (.object "SeaParcels$Parcel")) 1 21 K [.ref b, .int x] m (some .null) m := by
  have h := c_X0_layN (K := K) (m := m) (s := m.1 b) (x := x) hb hn
  rw [sr_self] at h
  exact h
theorem p_X0_nextDraw {K : Cx} {b : Nat} {m : TM} (hb : isC b) : CT yX0_nextDraw cX0_nextDraw 1 (some .int) 0 0 K [.ref b] m (some (.int (dr (m.1 b 2)))) (sr m b (upd (m.1 b) 2 (nz (m.1 b 2)))) := by
  have h := c_X0_nextDraw (K := K) (m := m) (s := m.1 b) hb
  rw [sr_self] at h
  exact h
theorem p_X1_told {K : Cx} {b : Nat} {m : TM} {k : Nat} {x : Int32} (hb : isC b) (hk : k < 8) : CT yX1_told cX1_told 2 (some .int) 1 22 K [.ref (b + 4 + k), .int x] m (some (.int (tld (m.1 b) k x))) (m) := by
  have h := c_X1_told (K := K) (m := m) (s := m.1 b) (x := x) hb hk
  rw [sr_self] at h
  exact h
theorem p_X1_put {K : Cx} {b : Nat} {m : TM} {k : Nat} {x v : Int32} (hb : isC b) (hk : k < 8) : CT yX1_put cX1_put 3 none 0 0 K [.ref (b + 4 + k), .int x, .int v] m none (sr m b (ptF (m.1 b) k x v)) := by
  have h := c_X1_put (K := K) (m := m) (s := m.1 b) (x := x) (v := v) hb hk
  rw [sr_self] at h
  exact h
theorem p_X1_isSignedFor {K : Cx} {b : Nat} {m : TM} {k : Nat} {t d : Int32} (hb : isC b) (hk : k < 8) : CT yX1_isSignedFor cX1_isSignedFor 3 (some .boolean) 1 20 K [.ref (b + 4 + k), .int t, .int d] m (some (.int (bI (sg (m.1 b (12 + 7 * k + 0)) (m.1 b (12 + 7 * k + 1)) (m.1 b (12 + 7 * k + 2)) (m.1 b (12 + 7 * k + 6)) d t)))) (m) := by
  have h := c_X1_isSignedFor (K := K) (m := m) (s := m.1 b) (t := t) (d := d) hb hk
  rw [sr_self] at h
  exact h
theorem p_X1_isA {K : Cx} {b : Nat} {m : TM} {k : Nat} {so : Int32} (hb : isC b) (hk : k < 8) : CT yX1_isA cX1_isA 4 (some .boolean) 1 20 K [.ref (b + 4 + k), .int so] m (some (.int (bI (anc 7 (m.1 b (12 + 7 * k + 0)) so)))) (m) := by
  have h := c_X1_isA (K := K) (m := m) (s := m.1 b) (so := so) hb hk
  rw [sr_self] at h
  exact h
theorem dX4_finding_0 : decode cX4_finding 0 = .ok (.ldc 48, 2) := by decide +kernel
theorem dX4_finding_2 : decode cX4_finding 2 = .ok (.iload_n 1, 1) := by decide +kernel
theorem dX4_finding_3 : decode cX4_finding 3 = .ok (.isub, 1) := by decide +kernel
theorem dX4_finding_4 : decode cX4_finding 4 = .ok (.istore_n 2, 1) := by decide +kernel
theorem dX4_finding_5 : decode cX4_finding 5 = .ok (.iload_n 2, 1) := by decide +kernel
theorem dX4_finding_6 : decode cX4_finding 6 = .ok (.iconst 0, 1) := by decide +kernel
theorem dX4_finding_7 : decode cX4_finding 7 = .ok (.bipush 6, 2) := by decide +kernel
theorem dX4_finding_9 : decode cX4_finding 9 = .ok (.invokestatic 44, 3) := by decide +kernel
theorem dX4_finding_12 : decode cX4_finding 12 = .ok (.ifCond .ne 13, 3) := by decide +kernel
theorem dX4_finding_15 : decode cX4_finding 15 = .ok (.aload_n 0, 1) := by decide +kernel
theorem dX4_finding_16 : decode cX4_finding 16 = .ok (.getfield 39, 3) := by decide +kernel
theorem dX4_finding_19 : decode cX4_finding 19 = .ok (.iload_n 2, 1) := by decide +kernel
theorem dX4_finding_20 : decode cX4_finding 20 = .ok (.dup2, 1) := by decide +kernel
theorem dX4_finding_21 : decode cX4_finding 21 = .ok (.iaload, 1) := by decide +kernel
theorem dX4_finding_22 : decode cX4_finding 22 = .ok (.iconst 1, 1) := by decide +kernel
theorem dX4_finding_23 : decode cX4_finding 23 = .ok (.iadd, 1) := by decide +kernel
theorem dX4_finding_24 : decode cX4_finding 24 = .ok (.iastore, 1) := by decide +kernel
theorem dX4_finding_25 : decode cX4_finding 25 = .ok (.iload_n 1, 1) := by decide +kernel
theorem dX4_finding_26 : decode cX4_finding 26 = .ok (.ireturn, 1) := by decide +kernel
set_option maxRecDepth 20000 in
set_option maxHeartbeats 4000000 in
theorem c_X4_finding {K : Cx} {x : Int32} {w : Nat} {m : TM} (hx : -1000001 - x = nI w) (hw : w < 7) : CT yX4_finding cX4_finding 3 (some .int) 1 22 K [.ref 0, .int x] (m) (some (.int (x))) (fnd m w) := by
  refine ct_ofd (n := 1) (by decide +kernel) rfl rfl ?_
  show XX RX4 cX4_finding 3 (some .int) 1 22 K 0 [some (.ref 0), some (.int x), none] [] (m) (fun r1 m1 => r1 = (some (.int (x))) ∧ m1 = fnd m w)
  refine x_ldc (q := 2) dX4_finding_0 rfl kc_X4_48 ?_
  refine x_iload_n (q := 3) dX4_finding_2 rfl rfl ?_
  refine x_isub (q := 4) dX4_finding_3 rfl ?_
  refine x_istore_n (q := 5) dX4_finding_4 rfl (by decide) rfl rfl ?_
  refine x_iload_n (q := 6) dX4_finding_5 rfl rfl ?_
  refine x_iconst (q := 7) (v := 0) dX4_finding_6 rfl (by decide) ?_
  refine x_bipush (q := 9) (v := 6) dX4_finding_7 rfl (by decide) ?_
  refine x_callS3v (q := 12) dX4_finding_9 rfl ml_X4_44 ms_X4_isOut c_X4_isOut (Nat.le_of_ble_eq_true rfl) ⟨by decide, by decide⟩ ?_
  refine x_ifB_ne (q := 15) (t := 25) dX4_finding_12 rfl (by decide) (fun h12 => ?_) (fun h12 => ?_)
  · refine x_iload_n (q := 26) dX4_finding_25 rfl rfl ?_
    refine x_ireturn dX4_finding_26 rfl rfl ?_
    exfalso
    rw [hx] at h12
    have h1 := jnI_nneg (k := w) (by omega)
    have h2 : ¬ (6 : Int32) < nI w := fun q => absurd ((jnI_lt (a := 6) (by omega) (by omega)).mp q) (by omega)
    simp [outI, h1, h2] at h12
  refine x_aload_n (q := 16) dX4_finding_15 rfl rfl ?_
  refine x_getR (q := 19) dX4_finding_16 rfl fl_X4_39 (or4_found) ?_
  refine x_iload_n (q := 20) dX4_finding_19 rfl rfl ?_
  refine x_dup2 (q := 21) dX4_finding_20 rfl rfl rfl ?_
  refine x_iald (q := 22) dX4_finding_21 rfl (ar_40) (by rw [hx]; exact ix_nI hw (by decide)) (Nat.zero_add _) ?_
  refine x_iconst (q := 23) (v := 1) dX4_finding_22 rfl (by decide) ?_
  refine x_iadd (q := 24) dX4_finding_23 rfl ?_
  refine x_iast (q := 25) dX4_finding_24 rfl (ar_40) (by rw [hx]; exact ix_nI hw (by decide)) (Nat.zero_add _) rfl ?_
  refine x_iload_n (q := 26) dX4_finding_25 rfl rfl ?_
  refine x_ireturn dX4_finding_26 rfl rfl ?_
  exact ⟨rfl, rfl⟩
theorem dX4_tide_0 : decode cX4_tide 0 = .ok (.iload_n 1, 1) := by decide +kernel
theorem dX4_tide_1 : decode cX4_tide 1 = .ok (.iconst 0, 1) := by decide +kernel
theorem dX4_tide_2 : decode cX4_tide 2 = .ok (.iconst 5, 1) := by decide +kernel
theorem dX4_tide_3 : decode cX4_tide 3 = .ok (.invokestatic 44, 3) := by decide +kernel
theorem dX4_tide_6 : decode cX4_tide 6 = .ok (.ifCond .ne 13, 3) := by decide +kernel
theorem dX4_tide_9 : decode cX4_tide 9 = .ok (.iload_n 2, 1) := by decide +kernel
theorem dX4_tide_10 : decode cX4_tide 10 = .ok (.iconst 0, 1) := by decide +kernel
theorem dX4_tide_11 : decode cX4_tide 11 = .ok (.bipush 20, 2) := by decide +kernel
theorem dX4_tide_13 : decode cX4_tide 13 = .ok (.invokestatic 44, 3) := by decide +kernel
theorem dX4_tide_16 : decode cX4_tide 16 = .ok (.ifCond .eq 10, 3) := by decide +kernel
theorem dX4_tide_19 : decode cX4_tide 19 = .ok (.aload_n 0, 1) := by decide +kernel
theorem dX4_tide_20 : decode cX4_tide 20 = .ok (.ldc 48, 2) := by decide +kernel
theorem dX4_tide_22 : decode cX4_tide 22 = .ok (.invokevirtual 49, 3) := by decide +kernel
theorem dX4_tide_25 : decode cX4_tide 25 = .ok (.ireturn, 1) := by decide +kernel
theorem dX4_tide_26 : decode cX4_tide 26 = .ok (.aload_n 0, 1) := by decide +kernel
theorem dX4_tide_27 : decode cX4_tide 27 = .ok (.getfield 12, 3) := by decide +kernel
theorem dX4_tide_30 : decode cX4_tide 30 = .ok (.getfield 53, 3) := by decide +kernel
theorem dX4_tide_33 : decode cX4_tide 33 = .ok (.iload_n 1, 1) := by decide +kernel
theorem dX4_tide_34 : decode cX4_tide 34 = .ok (.iaload, 1) := by decide +kernel
theorem dX4_tide_35 : decode cX4_tide 35 = .ok (.istore_n 3, 1) := by decide +kernel
theorem dX4_tide_36 : decode cX4_tide 36 = .ok (.aload_n 0, 1) := by decide +kernel
theorem dX4_tide_37 : decode cX4_tide 37 = .ok (.getfield 12, 3) := by decide +kernel
theorem dX4_tide_40 : decode cX4_tide 40 = .ok (.getfield 53, 3) := by decide +kernel
theorem dX4_tide_43 : decode cX4_tide 43 = .ok (.iload_n 1, 1) := by decide +kernel
theorem dX4_tide_44 : decode cX4_tide 44 = .ok (.iload_n 2, 1) := by decide +kernel
theorem dX4_tide_45 : decode cX4_tide 45 = .ok (.iastore, 1) := by decide +kernel
theorem dX4_tide_46 : decode cX4_tide 46 = .ok (.iload_n 3, 1) := by decide +kernel
theorem dX4_tide_47 : decode cX4_tide 47 = .ok (.ireturn, 1) := by decide +kernel
set_option maxRecDepth 20000 in
set_option maxHeartbeats 4000000 in
theorem c_X4_tide {K : Cx} {i v : Int32} {m : TM} : CT yX4_tide cX4_tide 4 (some .int) 2 44 K [.ref 0, .int i, .int v] (m) (some (.int ((if (outI i 0 5 || outI v 0 20) = true then (-1000001) else m.1 1 (6 + cl i))))) ((if (outI i 0 5 || outI v 0 20) = true then fnd m 0 else sr m 1 (upd (m.1 1) (6 + cl i) v))) := by
  refine ct_ofd (n := 1) (by decide +kernel) rfl rfl ?_
  show XX RX4 cX4_tide 4 (some .int) 2 44 K 0 [some (.ref 0), some (.int i), some (.int v), none] [] (m) (fun r1 m1 => r1 = (some (.int ((if (outI i 0 5 || outI v 0 20) = true then (-1000001) else m.1 1 (6 + cl i))))) ∧ m1 = (if (outI i 0 5 || outI v 0 20) = true then fnd m 0 else sr m 1 (upd (m.1 1) (6 + cl i) v)))
  refine x_iload_n (q := 1) dX4_tide_0 rfl rfl ?_
  refine x_iconst (q := 2) (v := 0) dX4_tide_1 rfl (by decide) ?_
  refine x_iconst (q := 3) (v := 5) dX4_tide_2 rfl (by decide) ?_
  refine x_callS3v (q := 6) dX4_tide_3 rfl ml_X4_44 ms_X4_isOut c_X4_isOut (Nat.le_of_ble_eq_true rfl) ⟨by decide, by decide⟩ ?_
  refine x_ifB_ne (q := 9) (t := 19) dX4_tide_6 rfl (by decide) (fun h6 => ?_) (fun h6 => ?_)
  · refine x_aload_n (q := 20) dX4_tide_19 rfl rfl ?_
    refine x_ldc (q := 22) dX4_tide_20 rfl kc_X4_48 ?_
    refine x_callV1v (q := 25) dX4_tide_22 rfl ml_X4_49 mv_X4_finding rv4 rfl (c_X4_finding (w := 0) (by decide) (by decide)) (Nat.le_of_ble_eq_true rfl) ⟨by decide, by decide⟩ ?_
    refine x_ireturn dX4_tide_25 rfl rfl ?_
    exact ⟨by simp [h6, st1_eq], by simp [h6, st1_eq]⟩
  refine x_iload_n (q := 10) dX4_tide_9 rfl rfl ?_
  refine x_iconst (q := 11) (v := 0) dX4_tide_10 rfl (by decide) ?_
  refine x_bipush (q := 13) (v := 20) dX4_tide_11 rfl (by decide) ?_
  refine x_callS3v (q := 16) dX4_tide_13 rfl ml_X4_44 ms_X4_isOut c_X4_isOut (Nat.le_of_ble_eq_true rfl) ⟨by decide, by decide⟩ ?_
  refine x_ifB_eq (q := 19) (t := 26) dX4_tide_16 rfl (by decide) (fun h16 => ?_) (fun h16 => ?_)
  · refine x_aload_n (q := 27) dX4_tide_26 rfl rfl ?_
    refine x_getR (q := 30) dX4_tide_27 rfl fl_X4_12 (or4_coast) ?_
    refine x_getR (q := 33) dX4_tide_30 rfl fl_X4_53 (or0_list isC_1) ?_
    refine x_iload_n (q := 34) dX4_tide_33 rfl rfl ?_
    refine x_iald (q := 35) dX4_tide_34 rfl (ar_list isC_1) (ix_out h6 (by decide)) rfl ?_
    refine x_istore_n (q := 36) dX4_tide_35 rfl (by decide) rfl rfl ?_
    refine x_aload_n (q := 37) dX4_tide_36 rfl rfl ?_
    refine x_getR (q := 40) dX4_tide_37 rfl fl_X4_12 (or4_coast) ?_
    refine x_getR (q := 43) dX4_tide_40 rfl fl_X4_53 (or0_list isC_1) ?_
    refine x_iload_n (q := 44) dX4_tide_43 rfl rfl ?_
    refine x_iload_n (q := 45) dX4_tide_44 rfl rfl ?_
    refine x_iast (q := 46) dX4_tide_45 rfl (ar_list isC_1) (ix_out h6 (by decide)) rfl rfl ?_
    refine x_iload_n (q := 47) dX4_tide_46 rfl rfl ?_
    refine x_ireturn dX4_tide_47 rfl rfl ?_
    exact ⟨by simp [h6, h16, st1_eq], by simp [h6, h16, st1_eq]⟩
  refine x_aload_n (q := 20) dX4_tide_19 rfl rfl ?_
  refine x_ldc (q := 22) dX4_tide_20 rfl kc_X4_48 ?_
  refine x_callV1v (q := 25) dX4_tide_22 rfl ml_X4_49 mv_X4_finding rv4 rfl (c_X4_finding (w := 0) (by decide) (by decide)) (Nat.le_of_ble_eq_true rfl) ⟨by decide, by decide⟩ ?_
  refine x_ireturn dX4_tide_25 rfl rfl ?_
  exact ⟨by simp [h6, h16, st1_eq], by simp [h6, h16, st1_eq]⟩
theorem dX4_listed_0 : decode cX4_listed 0 = .ok (.iload_n 1, 1) := by decide +kernel
theorem dX4_listed_1 : decode cX4_listed 1 = .ok (.iconst 0, 1) := by decide +kernel
theorem dX4_listed_2 : decode cX4_listed 2 = .ok (.iconst 5, 1) := by decide +kernel
theorem dX4_listed_3 : decode cX4_listed 3 = .ok (.invokestatic 44, 3) := by decide +kernel
theorem dX4_listed_6 : decode cX4_listed 6 = .ok (.ifCond .eq 10, 3) := by decide +kernel
theorem dX4_listed_9 : decode cX4_listed 9 = .ok (.aload_n 0, 1) := by decide +kernel
theorem dX4_listed_10 : decode cX4_listed 10 = .ok (.ldc 48, 2) := by decide +kernel
theorem dX4_listed_12 : decode cX4_listed 12 = .ok (.invokevirtual 49, 3) := by decide +kernel
theorem dX4_listed_15 : decode cX4_listed 15 = .ok (.ireturn, 1) := by decide +kernel
theorem dX4_listed_16 : decode cX4_listed 16 = .ok (.aload_n 0, 1) := by decide +kernel
theorem dX4_listed_17 : decode cX4_listed 17 = .ok (.getfield 12, 3) := by decide +kernel
theorem dX4_listed_20 : decode cX4_listed 20 = .ok (.getfield 53, 3) := by decide +kernel
theorem dX4_listed_23 : decode cX4_listed 23 = .ok (.iload_n 1, 1) := by decide +kernel
theorem dX4_listed_24 : decode cX4_listed 24 = .ok (.iaload, 1) := by decide +kernel
theorem dX4_listed_25 : decode cX4_listed 25 = .ok (.ireturn, 1) := by decide +kernel
set_option maxRecDepth 20000 in
set_option maxHeartbeats 4000000 in
theorem c_X4_listed {K : Cx} {i : Int32} {m : TM} : CT yX4_listed cX4_listed 2 (some .int) 2 44 K [.ref 0, .int i] (m) (some (.int ((if (outI i 0 5) = true then (-1000001) else m.1 1 (6 + cl i))))) ((if (outI i 0 5) = true then fnd m 0 else m)) := by
  refine ct_ofd (n := 0) (by decide +kernel) rfl rfl ?_
  show XX RX4 cX4_listed 2 (some .int) 2 44 K 0 [some (.ref 0), some (.int i)] [] (m) (fun r1 m1 => r1 = (some (.int ((if (outI i 0 5) = true then (-1000001) else m.1 1 (6 + cl i))))) ∧ m1 = (if (outI i 0 5) = true then fnd m 0 else m))
  refine x_iload_n (q := 1) dX4_listed_0 rfl rfl ?_
  refine x_iconst (q := 2) (v := 0) dX4_listed_1 rfl (by decide) ?_
  refine x_iconst (q := 3) (v := 5) dX4_listed_2 rfl (by decide) ?_
  refine x_callS3v (q := 6) dX4_listed_3 rfl ml_X4_44 ms_X4_isOut c_X4_isOut (Nat.le_of_ble_eq_true rfl) ⟨by decide, by decide⟩ ?_
  refine x_ifB_eq (q := 9) (t := 16) dX4_listed_6 rfl (by decide) (fun h6 => ?_) (fun h6 => ?_)
  · refine x_aload_n (q := 17) dX4_listed_16 rfl rfl ?_
    refine x_getR (q := 20) dX4_listed_17 rfl fl_X4_12 (or4_coast) ?_
    refine x_getR (q := 23) dX4_listed_20 rfl fl_X4_53 (or0_list isC_1) ?_
    refine x_iload_n (q := 24) dX4_listed_23 rfl rfl ?_
    refine x_iald (q := 25) dX4_listed_24 rfl (ar_list isC_1) (ix_out h6 (by decide)) rfl ?_
    refine x_ireturn dX4_listed_25 rfl rfl ?_
    exact ⟨by simp [h6], by simp [h6]⟩
  refine x_aload_n (q := 10) dX4_listed_9 rfl rfl ?_
  refine x_ldc (q := 12) dX4_listed_10 rfl kc_X4_48 ?_
  refine x_callV1v (q := 15) dX4_listed_12 rfl ml_X4_49 mv_X4_finding rv4 rfl (c_X4_finding (w := 0) (by decide) (by decide)) (Nat.le_of_ble_eq_true rfl) ⟨by decide, by decide⟩ ?_
  refine x_ireturn dX4_listed_15 rfl rfl ?_
  exact ⟨by simp [h6], by simp [h6]⟩
theorem dX4_set_0 : decode cX4_set 0 = .ok (.iload_n 1, 1) := by decide +kernel
theorem dX4_set_1 : decode cX4_set 1 = .ok (.ifCond .ne 32, 3) := by decide +kernel
theorem dX4_set_4 : decode cX4_set 4 = .ok (.iload_n 2, 1) := by decide +kernel
theorem dX4_set_5 : decode cX4_set 5 = .ok (.iconst 0, 1) := by decide +kernel
theorem dX4_set_6 : decode cX4_set 6 = .ok (.sipush 9999, 3) := by decide +kernel
theorem dX4_set_9 : decode cX4_set 9 = .ok (.invokestatic 44, 3) := by decide +kernel
theorem dX4_set_12 : decode cX4_set 12 = .ok (.ifCond .ne 21, 3) := by decide +kernel
theorem dX4_set_15 : decode cX4_set 15 = .ok (.aload_n 0, 1) := by decide +kernel
theorem dX4_set_16 : decode cX4_set 16 = .ok (.getfield 12, 3) := by decide +kernel
theorem dX4_set_19 : decode cX4_set 19 = .ok (.getfield 56, 3) := by decide +kernel
theorem dX4_set_22 : decode cX4_set 22 = .ok (.istore_n 3, 1) := by decide +kernel
theorem dX4_set_23 : decode cX4_set 23 = .ok (.aload_n 0, 1) := by decide +kernel
theorem dX4_set_24 : decode cX4_set 24 = .ok (.getfield 12, 3) := by decide +kernel
theorem dX4_set_27 : decode cX4_set 27 = .ok (.iload_n 2, 1) := by decide +kernel
theorem dX4_set_28 : decode cX4_set 28 = .ok (.putfield 56, 3) := by decide +kernel
theorem dX4_set_31 : decode cX4_set 31 = .ok (.iload_n 3, 1) := by decide +kernel
theorem dX4_set_32 : decode cX4_set 32 = .ok (.ireturn, 1) := by decide +kernel
theorem dX4_set_33 : decode cX4_set 33 = .ok (.iload_n 1, 1) := by decide +kernel
theorem dX4_set_34 : decode cX4_set 34 = .ok (.iconst 1, 1) := by decide +kernel
theorem dX4_set_35 : decode cX4_set 35 = .ok (.if_icmp .ne 31, 3) := by decide +kernel
theorem dX4_set_38 : decode cX4_set 38 = .ok (.iload_n 2, 1) := by decide +kernel
theorem dX4_set_39 : decode cX4_set 39 = .ok (.iconst 0, 1) := by decide +kernel
theorem dX4_set_40 : decode cX4_set 40 = .ok (.bipush 9, 2) := by decide +kernel
theorem dX4_set_42 : decode cX4_set 42 = .ok (.invokestatic 44, 3) := by decide +kernel
theorem dX4_set_45 : decode cX4_set 45 = .ok (.ifCond .ne 21, 3) := by decide +kernel
theorem dX4_set_48 : decode cX4_set 48 = .ok (.aload_n 0, 1) := by decide +kernel
theorem dX4_set_49 : decode cX4_set 49 = .ok (.getfield 12, 3) := by decide +kernel
theorem dX4_set_52 : decode cX4_set 52 = .ok (.getfield 60, 3) := by decide +kernel
theorem dX4_set_55 : decode cX4_set 55 = .ok (.istore_n 3, 1) := by decide +kernel
theorem dX4_set_56 : decode cX4_set 56 = .ok (.aload_n 0, 1) := by decide +kernel
theorem dX4_set_57 : decode cX4_set 57 = .ok (.getfield 12, 3) := by decide +kernel
theorem dX4_set_60 : decode cX4_set 60 = .ok (.iload_n 2, 1) := by decide +kernel
theorem dX4_set_61 : decode cX4_set 61 = .ok (.putfield 60, 3) := by decide +kernel
theorem dX4_set_64 : decode cX4_set 64 = .ok (.iload_n 3, 1) := by decide +kernel
theorem dX4_set_65 : decode cX4_set 65 = .ok (.ireturn, 1) := by decide +kernel
theorem dX4_set_66 : decode cX4_set 66 = .ok (.aload_n 0, 1) := by decide +kernel
theorem dX4_set_67 : decode cX4_set 67 = .ok (.ldc 48, 2) := by decide +kernel
theorem dX4_set_69 : decode cX4_set 69 = .ok (.invokevirtual 49, 3) := by decide +kernel
theorem dX4_set_72 : decode cX4_set 72 = .ok (.ireturn, 1) := by decide +kernel
set_option maxRecDepth 20000 in
set_option maxHeartbeats 4000000 in
theorem c_X4_set {K : Cx} {x v : Int32} {m : TM} : CT yX4_set cX4_set 4 (some .int) 2 44 K [.ref 0, .int x, .int v] (m) (some (.int ((if ((decide (x = 0) && !outI v 0 9999)) = true then m.1 1 4 else (if ((decide (x = 1) && !outI v 0 9)) = true then m.1 1 5 else (-1000001)))))) ((if ((decide (x = 0) && !outI v 0 9999)) = true then sr m 1 (upd (m.1 1) 4 v) else (if ((decide (x = 1) && !outI v 0 9)) = true then sr m 1 (upd (m.1 1) 5 v) else fnd m 0))) := by
  refine ct_ofd (n := 1) (by decide +kernel) rfl rfl ?_
  show XX RX4 cX4_set 4 (some .int) 2 44 K 0 [some (.ref 0), some (.int x), some (.int v), none] [] (m) (fun r1 m1 => r1 = (some (.int ((if ((decide (x = 0) && !outI v 0 9999)) = true then m.1 1 4 else (if ((decide (x = 1) && !outI v 0 9)) = true then m.1 1 5 else (-1000001)))))) ∧ m1 = (if ((decide (x = 0) && !outI v 0 9999)) = true then sr m 1 (upd (m.1 1) 4 v) else (if ((decide (x = 1) && !outI v 0 9)) = true then sr m 1 (upd (m.1 1) 5 v) else fnd m 0)))
  refine x_iload_n (q := 1) dX4_set_0 rfl rfl ?_
  refine x_if_ne (q := 4) (t := 33) dX4_set_1 rfl (by decide) (fun h1 => ?_) (fun h1 => ?_)
  · refine x_iload_n (q := 34) dX4_set_33 rfl rfl ?_
    refine x_iconst (q := 35) (v := 1) dX4_set_34 rfl (by decide) ?_
    refine x_icmp_ne (q := 38) (t := 66) dX4_set_35 rfl (by decide) (fun h35 => ?_) (fun h35 => ?_)
    · refine x_aload_n (q := 67) dX4_set_66 rfl rfl ?_
      refine x_ldc (q := 69) dX4_set_67 rfl kc_X4_48 ?_
      refine x_callV1v (q := 72) dX4_set_69 rfl ml_X4_49 mv_X4_finding rv4 rfl (c_X4_finding (w := 0) (by decide) (by decide)) (Nat.le_of_ble_eq_true rfl) ⟨by decide, by decide⟩ ?_
      refine x_ireturn dX4_set_72 rfl rfl ?_
      exact ⟨by simp [h1, h35, st1_eq], by simp [h1, h35, st1_eq]⟩
    refine x_iload_n (q := 39) dX4_set_38 rfl rfl ?_
    refine x_iconst (q := 40) (v := 0) dX4_set_39 rfl (by decide) ?_
    refine x_bipush (q := 42) (v := 9) dX4_set_40 rfl (by decide) ?_
    refine x_callS3v (q := 45) dX4_set_42 rfl ml_X4_44 ms_X4_isOut c_X4_isOut (Nat.le_of_ble_eq_true rfl) ⟨by decide, by decide⟩ ?_
    refine x_ifB_ne (q := 48) (t := 66) dX4_set_45 rfl (by decide) (fun h45 => ?_) (fun h45 => ?_)
    · refine x_aload_n (q := 67) dX4_set_66 rfl rfl ?_
      refine x_ldc (q := 69) dX4_set_67 rfl kc_X4_48 ?_
      refine x_callV1v (q := 72) dX4_set_69 rfl ml_X4_49 mv_X4_finding rv4 rfl (c_X4_finding (w := 0) (by decide) (by decide)) (Nat.le_of_ble_eq_true rfl) ⟨by decide, by decide⟩ ?_
      refine x_ireturn dX4_set_72 rfl rfl ?_
      exact ⟨by simp [h1, h35, h45, st1_eq], by simp [h1, h35, h45, st1_eq]⟩
    refine x_aload_n (q := 49) dX4_set_48 rfl rfl ?_
    refine x_getR (q := 52) dX4_set_49 rfl fl_X4_12 (or4_coast) ?_
    refine x_getI (q := 55) dX4_set_52 rfl fl_X4_60 (ob0_storm isC_1) ?_
    refine x_istore_n (q := 56) dX4_set_55 rfl (by decide) rfl rfl ?_
    refine x_aload_n (q := 57) dX4_set_56 rfl rfl ?_
    refine x_getR (q := 60) dX4_set_57 rfl fl_X4_12 (or4_coast) ?_
    refine x_iload_n (q := 61) dX4_set_60 rfl rfl ?_
    refine x_putI (q := 64) dX4_set_61 rfl fl_X4_60 (ob0_storm isC_1) rfl rfl rfl rfl ?_
    refine x_iload_n (q := 65) dX4_set_64 rfl rfl ?_
    refine x_ireturn dX4_set_65 rfl rfl ?_
    exact ⟨by simp [h1, h35, h45, st1_eq], by simp [h1, h35, h45, st1_eq]⟩
  refine x_iload_n (q := 5) dX4_set_4 rfl rfl ?_
  refine x_iconst (q := 6) (v := 0) dX4_set_5 rfl (by decide) ?_
  refine x_sipush (q := 9) (v := 9999) dX4_set_6 rfl (by decide) ?_
  refine x_callS3v (q := 12) dX4_set_9 rfl ml_X4_44 ms_X4_isOut c_X4_isOut (Nat.le_of_ble_eq_true rfl) ⟨by decide, by decide⟩ ?_
  refine x_ifB_ne (q := 15) (t := 33) dX4_set_12 rfl (by decide) (fun h12 => ?_) (fun h12 => ?_)
  · refine x_iload_n (q := 34) dX4_set_33 rfl rfl ?_
    refine x_iconst (q := 35) (v := 1) dX4_set_34 rfl (by decide) ?_
    refine x_icmp_ne (q := 38) (t := 66) dX4_set_35 rfl (by decide) (fun h35 => ?_) (fun h35 => ?_)
    · refine x_aload_n (q := 67) dX4_set_66 rfl rfl ?_
      refine x_ldc (q := 69) dX4_set_67 rfl kc_X4_48 ?_
      refine x_callV1v (q := 72) dX4_set_69 rfl ml_X4_49 mv_X4_finding rv4 rfl (c_X4_finding (w := 0) (by decide) (by decide)) (Nat.le_of_ble_eq_true rfl) ⟨by decide, by decide⟩ ?_
      refine x_ireturn dX4_set_72 rfl rfl ?_
      exact ⟨by simp [h1, h12, h35, st1_eq], by simp [h1, h12, h35, st1_eq]⟩
    refine x_iload_n (q := 39) dX4_set_38 rfl rfl ?_
    refine x_iconst (q := 40) (v := 0) dX4_set_39 rfl (by decide) ?_
    refine x_bipush (q := 42) (v := 9) dX4_set_40 rfl (by decide) ?_
    refine x_callS3v (q := 45) dX4_set_42 rfl ml_X4_44 ms_X4_isOut c_X4_isOut (Nat.le_of_ble_eq_true rfl) ⟨by decide, by decide⟩ ?_
    refine x_ifB_ne (q := 48) (t := 66) dX4_set_45 rfl (by decide) (fun h45 => ?_) (fun h45 => ?_)
    · refine x_aload_n (q := 67) dX4_set_66 rfl rfl ?_
      refine x_ldc (q := 69) dX4_set_67 rfl kc_X4_48 ?_
      refine x_callV1v (q := 72) dX4_set_69 rfl ml_X4_49 mv_X4_finding rv4 rfl (c_X4_finding (w := 0) (by decide) (by decide)) (Nat.le_of_ble_eq_true rfl) ⟨by decide, by decide⟩ ?_
      refine x_ireturn dX4_set_72 rfl rfl ?_
      exact absurd (h1.symm.trans h35) (by decide)
    refine x_aload_n (q := 49) dX4_set_48 rfl rfl ?_
    refine x_getR (q := 52) dX4_set_49 rfl fl_X4_12 (or4_coast) ?_
    refine x_getI (q := 55) dX4_set_52 rfl fl_X4_60 (ob0_storm isC_1) ?_
    refine x_istore_n (q := 56) dX4_set_55 rfl (by decide) rfl rfl ?_
    refine x_aload_n (q := 57) dX4_set_56 rfl rfl ?_
    refine x_getR (q := 60) dX4_set_57 rfl fl_X4_12 (or4_coast) ?_
    refine x_iload_n (q := 61) dX4_set_60 rfl rfl ?_
    refine x_putI (q := 64) dX4_set_61 rfl fl_X4_60 (ob0_storm isC_1) rfl rfl rfl rfl ?_
    refine x_iload_n (q := 65) dX4_set_64 rfl rfl ?_
    refine x_ireturn dX4_set_65 rfl rfl ?_
    exact absurd (h1.symm.trans h35) (by decide)
  refine x_aload_n (q := 16) dX4_set_15 rfl rfl ?_
  refine x_getR (q := 19) dX4_set_16 rfl fl_X4_12 (or4_coast) ?_
  refine x_getI (q := 22) dX4_set_19 rfl fl_X4_56 (ob0_late isC_1) ?_
  refine x_istore_n (q := 23) dX4_set_22 rfl (by decide) rfl rfl ?_
  refine x_aload_n (q := 24) dX4_set_23 rfl rfl ?_
  refine x_getR (q := 27) dX4_set_24 rfl fl_X4_12 (or4_coast) ?_
  refine x_iload_n (q := 28) dX4_set_27 rfl rfl ?_
  refine x_putI (q := 31) dX4_set_28 rfl fl_X4_56 (ob0_late isC_1) rfl rfl rfl rfl ?_
  refine x_iload_n (q := 32) dX4_set_31 rfl rfl ?_
  refine x_ireturn dX4_set_32 rfl rfl ?_
  exact ⟨by simp [h1, h12, st1_eq], by simp [h1, h12, st1_eq]⟩
theorem dX4_parcel_0 : decode cX4_parcel 0 = .ok (.iload_n 1, 1) := by decide +kernel
theorem dX4_parcel_1 : decode cX4_parcel 1 = .ok (.iconst 0, 1) := by decide +kernel
theorem dX4_parcel_2 : decode cX4_parcel 2 = .ok (.bipush 6, 2) := by decide +kernel
theorem dX4_parcel_4 : decode cX4_parcel 4 = .ok (.invokestatic 44, 3) := by decide +kernel
theorem dX4_parcel_7 : decode cX4_parcel 7 = .ok (.ifCond .ne 13, 3) := by decide +kernel
theorem dX4_parcel_10 : decode cX4_parcel 10 = .ok (.iload_n 2, 1) := by decide +kernel
theorem dX4_parcel_11 : decode cX4_parcel 11 = .ok (.iconst 0, 1) := by decide +kernel
theorem dX4_parcel_12 : decode cX4_parcel 12 = .ok (.bipush 20, 2) := by decide +kernel
theorem dX4_parcel_14 : decode cX4_parcel 14 = .ok (.invokestatic 44, 3) := by decide +kernel
theorem dX4_parcel_17 : decode cX4_parcel 17 = .ok (.ifCond .eq 10, 3) := by decide +kernel
theorem dX4_parcel_20 : decode cX4_parcel 20 = .ok (.aload_n 0, 1) := by decide +kernel
theorem dX4_parcel_21 : decode cX4_parcel 21 = .ok (.ldc 48, 2) := by decide +kernel
theorem dX4_parcel_23 : decode cX4_parcel 23 = .ok (.invokevirtual 49, 3) := by decide +kernel
theorem dX4_parcel_26 : decode cX4_parcel 26 = .ok (.ireturn, 1) := by decide +kernel
theorem dX4_parcel_27 : decode cX4_parcel 27 = .ok (.aload_n 0, 1) := by decide +kernel
theorem dX4_parcel_28 : decode cX4_parcel 28 = .ok (.getfield 12, 3) := by decide +kernel
theorem dX4_parcel_31 : decode cX4_parcel 31 = .ok (.iload_n 1, 1) := by decide +kernel
theorem dX4_parcel_32 : decode cX4_parcel 32 = .ok (.invokevirtual 63, 3) := by decide +kernel
theorem dX4_parcel_35 : decode cX4_parcel 35 = .ok (.astore_n 3, 1) := by decide +kernel
theorem dX4_parcel_36 : decode cX4_parcel 36 = .ok (.aload_n 3, 1) := by decide +kernel
theorem dX4_parcel_37 : decode cX4_parcel 37 = .ok (.ifnonnull 10, 3) := by decide +kernel
theorem dX4_parcel_40 : decode cX4_parcel 40 = .ok (.aload_n 0, 1) := by decide +kernel
theorem dX4_parcel_41 : decode cX4_parcel 41 = .ok (.ldc 67, 2) := by decide +kernel
theorem dX4_parcel_43 : decode cX4_parcel 43 = .ok (.invokevirtual 49, 3) := by decide +kernel
theorem dX4_parcel_46 : decode cX4_parcel 46 = .ok (.ireturn, 1) := by decide +kernel
theorem dX4_parcel_47 : decode cX4_parcel 47 = .ok (.aload_n 3, 1) := by decide +kernel
theorem dX4_parcel_48 : decode cX4_parcel 48 = .ok (.iload_n 2, 1) := by decide +kernel
theorem dX4_parcel_49 : decode cX4_parcel 49 = .ok (.putfield 68, 3) := by decide +kernel
theorem dX4_parcel_52 : decode cX4_parcel 52 = .ok (.aload_n 0, 1) := by decide +kernel
theorem dX4_parcel_53 : decode cX4_parcel 53 = .ok (.getfield 12, 3) := by decide +kernel
theorem dX4_parcel_56 : decode cX4_parcel 56 = .ok (.getfield 73, 3) := by decide +kernel
theorem dX4_parcel_59 : decode cX4_parcel 59 = .ok (.iconst 1, 1) := by decide +kernel
theorem dX4_parcel_60 : decode cX4_parcel 60 = .ok (.isub, 1) := by decide +kernel
theorem dX4_parcel_61 : decode cX4_parcel 61 = .ok (.ireturn, 1) := by decide +kernel
set_option maxRecDepth 20000 in
set_option maxHeartbeats 4000000 in
theorem c_X4_parcel {K : Cx} {x v : Int32} {n8 : Nat} {m : TM} (hn : m.1 1 1 = nI n8) (h8 : n8 < 8) : CT yX4_parcel cX4_parcel 4 (some .int) 2 44 K [.ref 0, .int x, .int v] (m) (some (.int ((if (outI x 0 6 || outI v 0 20) = true then (-1000001) else nI n8)))) ((if (outI x 0 6 || outI v 0 20) = true then fnd m 0 else sr m 1 (upd (upd (newF (m.1 1) n8 x) 1 (nI (n8 + 1))) (12 + 7 * n8 + 1) v))) := by
  refine ct_ofd (n := 1) (by decide +kernel) rfl rfl ?_
  show XX RX4 cX4_parcel 4 (some .int) 2 44 K 0 [some (.ref 0), some (.int x), some (.int v), none] [] (m) (fun r1 m1 => r1 = (some (.int ((if (outI x 0 6 || outI v 0 20) = true then (-1000001) else nI n8)))) ∧ m1 = (if (outI x 0 6 || outI v 0 20) = true then fnd m 0 else sr m 1 (upd (upd (newF (m.1 1) n8 x) 1 (nI (n8 + 1))) (12 + 7 * n8 + 1) v)))
  refine x_iload_n (q := 1) dX4_parcel_0 rfl rfl ?_
  refine x_iconst (q := 2) (v := 0) dX4_parcel_1 rfl (by decide) ?_
  refine x_bipush (q := 4) (v := 6) dX4_parcel_2 rfl (by decide) ?_
  refine x_callS3v (q := 7) dX4_parcel_4 rfl ml_X4_44 ms_X4_isOut c_X4_isOut (Nat.le_of_ble_eq_true rfl) ⟨by decide, by decide⟩ ?_
  refine x_ifB_ne (q := 10) (t := 20) dX4_parcel_7 rfl (by decide) (fun h7 => ?_) (fun h7 => ?_)
  · refine x_aload_n (q := 21) dX4_parcel_20 rfl rfl ?_
    refine x_ldc (q := 23) dX4_parcel_21 rfl kc_X4_48 ?_
    refine x_callV1v (q := 26) dX4_parcel_23 rfl ml_X4_49 mv_X4_finding rv4 rfl (c_X4_finding (w := 0) (by decide) (by decide)) (Nat.le_of_ble_eq_true rfl) ⟨by decide, by decide⟩ ?_
    refine x_ireturn dX4_parcel_26 rfl rfl ?_
    exact ⟨by simp [h7], by simp [h7]⟩
  refine x_iload_n (q := 11) dX4_parcel_10 rfl rfl ?_
  refine x_iconst (q := 12) (v := 0) dX4_parcel_11 rfl (by decide) ?_
  refine x_bipush (q := 14) (v := 20) dX4_parcel_12 rfl (by decide) ?_
  refine x_callS3v (q := 17) dX4_parcel_14 rfl ml_X4_44 ms_X4_isOut c_X4_isOut (Nat.le_of_ble_eq_true rfl) ⟨by decide, by decide⟩ ?_
  refine x_ifB_eq (q := 20) (t := 27) dX4_parcel_17 rfl (by decide) (fun h17 => ?_) (fun h17 => ?_)
  · refine x_aload_n (q := 28) dX4_parcel_27 rfl rfl ?_
    refine x_getR (q := 31) dX4_parcel_28 rfl fl_X4_12 (or4_coast) ?_
    refine x_iload_n (q := 32) dX4_parcel_31 rfl rfl ?_
    refine x_callV1v (q := 35) dX4_parcel_32 rfl ml_X4_63 mv_X0_lay (rv0 isC_1) rfl (p_X0_lay isC_1 hn h8) (Nat.le_of_ble_eq_true rfl) ⟨by decide, by decide⟩ ?_
    refine x_astore_n (q := 36) dX4_parcel_35 rfl (by decide) rfl rfl ?_
    refine x_aload_n (q := 37) dX4_parcel_36 rfl rfl ?_
    refine x_ifnonnull (q := 47) dX4_parcel_37 (by decide) ?_
    refine x_aload_n (q := 48) dX4_parcel_47 rfl rfl ?_
    refine x_iload_n (q := 49) dX4_parcel_48 rfl rfl ?_
    refine x_putIr (q := 52) dX4_parcel_49 rfl fl_X4_68 (ob1 isC_1 h8 1 (by decide)) rfl rfl rfl  ?_
    refine x_aload_n (q := 53) dX4_parcel_52 rfl rfl ?_
    refine x_getR (q := 56) dX4_parcel_53 rfl fl_X4_12 (or4_coast) ?_
    refine x_getIr (q := 59) dX4_parcel_56 rfl fl_X4_73 (ob0_laid isC_1) ?_
    refine x_iconst (q := 60) (v := 1) dX4_parcel_59 rfl (by decide) ?_
    refine x_isub (q := 61) dX4_parcel_60 rfl ?_
    refine x_ireturn dX4_parcel_61 rfl rfl ?_
    refine ⟨?_, ?_⟩
    · rw [upd_ne (by omega), upd_self, nI_pred]
      simp [h7, h17]
    · simp [h7, h17]
  refine x_aload_n (q := 21) dX4_parcel_20 rfl rfl ?_
  refine x_ldc (q := 23) dX4_parcel_21 rfl kc_X4_48 ?_
  refine x_callV1v (q := 26) dX4_parcel_23 rfl ml_X4_49 mv_X4_finding rv4 rfl (c_X4_finding (w := 0) (by decide) (by decide)) (Nat.le_of_ble_eq_true rfl) ⟨by decide, by decide⟩ ?_
  refine x_ireturn dX4_parcel_26 rfl rfl ?_
  exact ⟨by simp [h7, h17], by simp [h7, h17]⟩
set_option maxRecDepth 20000 in
set_option maxHeartbeats 4000000 in
theorem c_X4_parcelN {K : Cx} {x v : Int32} {m : TM} (hn : m.1 1 1 = nI 8) : CT yX4_parcel cX4_parcel 4 (some .int) 2 44 K [.ref 0, .int x, .int v] (m) (some (.int ((if (outI x 0 6 || outI v 0 20) = true then (-1000001) else -1000002)))) ((if (outI x 0 6 || outI v 0 20) = true then fnd m 0 else fnd m 1)) := by
  refine ct_ofd (n := 1) (by decide +kernel) rfl rfl ?_
  show XX RX4 cX4_parcel 4 (some .int) 2 44 K 0 [some (.ref 0), some (.int x), some (.int v), none] [] (m) (fun r1 m1 => r1 = (some (.int ((if (outI x 0 6 || outI v 0 20) = true then (-1000001) else -1000002)))) ∧ m1 = (if (outI x 0 6 || outI v 0 20) = true then fnd m 0 else fnd m 1))
  refine x_iload_n (q := 1) dX4_parcel_0 rfl rfl ?_
  refine x_iconst (q := 2) (v := 0) dX4_parcel_1 rfl (by decide) ?_
  refine x_bipush (q := 4) (v := 6) dX4_parcel_2 rfl (by decide) ?_
  refine x_callS3v (q := 7) dX4_parcel_4 rfl ml_X4_44 ms_X4_isOut c_X4_isOut (Nat.le_of_ble_eq_true rfl) ⟨by decide, by decide⟩ ?_
  refine x_ifB_ne (q := 10) (t := 20) dX4_parcel_7 rfl (by decide) (fun h7 => ?_) (fun h7 => ?_)
  · refine x_aload_n (q := 21) dX4_parcel_20 rfl rfl ?_
    refine x_ldc (q := 23) dX4_parcel_21 rfl kc_X4_48 ?_
    refine x_callV1v (q := 26) dX4_parcel_23 rfl ml_X4_49 mv_X4_finding rv4 rfl (c_X4_finding (w := 0) (by decide) (by decide)) (Nat.le_of_ble_eq_true rfl) ⟨by decide, by decide⟩ ?_
    refine x_ireturn dX4_parcel_26 rfl rfl ?_
    exact ⟨by simp [h7], by simp [h7]⟩
  refine x_iload_n (q := 11) dX4_parcel_10 rfl rfl ?_
  refine x_iconst (q := 12) (v := 0) dX4_parcel_11 rfl (by decide) ?_
  refine x_bipush (q := 14) (v := 20) dX4_parcel_12 rfl (by decide) ?_
  refine x_callS3v (q := 17) dX4_parcel_14 rfl ml_X4_44 ms_X4_isOut c_X4_isOut (Nat.le_of_ble_eq_true rfl) ⟨by decide, by decide⟩ ?_
  refine x_ifB_eq (q := 20) (t := 27) dX4_parcel_17 rfl (by decide) (fun h17 => ?_) (fun h17 => ?_)
  · refine x_aload_n (q := 28) dX4_parcel_27 rfl rfl ?_
    refine x_getR (q := 31) dX4_parcel_28 rfl fl_X4_12 (or4_coast) ?_
    refine x_iload_n (q := 32) dX4_parcel_31 rfl rfl ?_
    refine x_callV1v (q := 35) dX4_parcel_32 rfl ml_X4_63 mv_X0_lay (rv0 isC_1) rfl (p_X0_layN isC_1 hn) (Nat.le_of_ble_eq_true rfl) ⟨by decide, by decide⟩ ?_
    refine x_astore_nN (q := 36) dX4_parcel_35 rfl (by decide) rfl rfl ?_
    refine x_aload_nN (q := 37) dX4_parcel_36 rfl rfl ?_
    refine x_ifnonnullN (q := 40) dX4_parcel_37 rfl ?_
    refine x_aload_n (q := 41) dX4_parcel_40 rfl rfl ?_
    refine x_ldc (q := 43) dX4_parcel_41 rfl kc_X4_67 ?_
    refine x_callV1v (q := 46) dX4_parcel_43 rfl ml_X4_49 mv_X4_finding rv4 rfl (c_X4_finding (w := 1) (by decide) (by decide)) (Nat.le_of_ble_eq_true rfl) ⟨by decide, by decide⟩ ?_
    refine x_ireturn dX4_parcel_46 rfl rfl ?_
    exact ⟨by simp [h7, h17], by simp [h7, h17]⟩
  refine x_aload_n (q := 21) dX4_parcel_20 rfl rfl ?_
  refine x_ldc (q := 23) dX4_parcel_21 rfl kc_X4_48 ?_
  refine x_callV1v (q := 26) dX4_parcel_23 rfl ml_X4_49 mv_X4_finding rv4 rfl (c_X4_finding (w := 0) (by decide) (by decide)) (Nat.le_of_ble_eq_true rfl) ⟨by decide, by decide⟩ ?_
  refine x_ireturn dX4_parcel_26 rfl rfl ?_
  exact ⟨by simp [h7, h17], by simp [h7, h17]⟩
theorem dX4_of_0 : decode cX4_of 0 = .ok (.aload_n 0, 1) := by decide +kernel
theorem dX4_of_1 : decode cX4_of 1 = .ok (.iload_n 1, 1) := by decide +kernel
theorem dX4_of_2 : decode cX4_of 2 = .ok (.invokevirtual 76, 3) := by decide +kernel
theorem dX4_of_5 : decode cX4_of 5 = .ok (.ifCond .ne 13, 3) := by decide +kernel
theorem dX4_of_8 : decode cX4_of 8 = .ok (.iload_n 2, 1) := by decide +kernel
theorem dX4_of_9 : decode cX4_of 9 = .ok (.iconst 0, 1) := by decide +kernel
theorem dX4_of_10 : decode cX4_of 10 = .ok (.bipush 10, 2) := by decide +kernel
theorem dX4_of_12 : decode cX4_of 12 = .ok (.invokestatic 44, 3) := by decide +kernel
theorem dX4_of_15 : decode cX4_of 15 = .ok (.ifCond .eq 10, 3) := by decide +kernel
theorem dX4_of_18 : decode cX4_of 18 = .ok (.aload_n 0, 1) := by decide +kernel
theorem dX4_of_19 : decode cX4_of 19 = .ok (.ldc 48, 2) := by decide +kernel
theorem dX4_of_21 : decode cX4_of 21 = .ok (.invokevirtual 49, 3) := by decide +kernel
theorem dX4_of_24 : decode cX4_of 24 = .ok (.ireturn, 1) := by decide +kernel
theorem dX4_of_25 : decode cX4_of 25 = .ok (.aload_n 0, 1) := by decide +kernel
theorem dX4_of_26 : decode cX4_of 26 = .ok (.getfield 12, 3) := by decide +kernel
theorem dX4_of_29 : decode cX4_of 29 = .ok (.getfield 80, 3) := by decide +kernel
theorem dX4_of_32 : decode cX4_of 32 = .ok (.iload_n 1, 1) := by decide +kernel
theorem dX4_of_33 : decode cX4_of 33 = .ok (.aaload, 1) := by decide +kernel
theorem dX4_of_34 : decode cX4_of 34 = .ok (.iload_n 2, 1) := by decide +kernel
theorem dX4_of_35 : decode cX4_of 35 = .ok (.invokevirtual 84, 3) := by decide +kernel
theorem dX4_of_38 : decode cX4_of 38 = .ok (.ireturn, 1) := by decide +kernel
set_option maxRecDepth 20000 in
set_option maxHeartbeats 4000000 in
theorem c_X4_of {K : Cx} {p x : Int32} {n8 : Nat} {m : TM} (hI : Iv n8 (m.1 1)) : CT yX4_of cX4_of 3 (some .int) 2 44 K [.ref 0, .int p, .int x] (m) (some (.int ((if (outI p 0 (m.1 1 1 - 1) || outI x 0 10) = true then (-1000001) else tld (m.1 1) (cl p) x)))) ((if (outI p 0 (m.1 1 1 - 1) || outI x 0 10) = true then fnd m 0 else m)) := by
  refine ct_ofd (n := 0) (by decide +kernel) rfl rfl ?_
  show XX RX4 cX4_of 3 (some .int) 2 44 K 0 [some (.ref 0), some (.int p), some (.int x)] [] (m) (fun r1 m1 => r1 = (some (.int ((if (outI p 0 (m.1 1 1 - 1) || outI x 0 10) = true then (-1000001) else tld (m.1 1) (cl p) x)))) ∧ m1 = (if (outI p 0 (m.1 1 1 - 1) || outI x 0 10) = true then fnd m 0 else m))
  refine x_aload_n (q := 1) dX4_of_0 rfl rfl ?_
  refine x_iload_n (q := 2) dX4_of_1 rfl rfl ?_
  refine x_callV1v (q := 5) dX4_of_2 rfl ml_X4_76 mv_X4_isNoParcel rv4 rfl c_X4_isNoParcel (Nat.le_of_ble_eq_true rfl) ⟨by decide, by decide⟩ ?_
  refine x_ifB_ne (q := 8) (t := 18) dX4_of_5 rfl (by decide) (fun h5 => ?_) (fun h5 => ?_)
  · refine x_aload_n (q := 19) dX4_of_18 rfl rfl ?_
    refine x_ldc (q := 21) dX4_of_19 rfl kc_X4_48 ?_
    refine x_callV1v (q := 24) dX4_of_21 rfl ml_X4_49 mv_X4_finding rv4 rfl (c_X4_finding (w := 0) (by decide) (by decide)) (Nat.le_of_ble_eq_true rfl) ⟨by decide, by decide⟩ ?_
    refine x_ireturn dX4_of_24 rfl rfl ?_
    exact ⟨by simp [h5], by simp [h5]⟩
  refine x_iload_n (q := 9) dX4_of_8 rfl rfl ?_
  refine x_iconst (q := 10) (v := 0) dX4_of_9 rfl (by decide) ?_
  refine x_bipush (q := 12) (v := 10) dX4_of_10 rfl (by decide) ?_
  refine x_callS3v (q := 15) dX4_of_12 rfl ml_X4_44 ms_X4_isOut c_X4_isOut (Nat.le_of_ble_eq_true rfl) ⟨by decide, by decide⟩ ?_
  refine x_ifB_eq (q := 18) (t := 25) dX4_of_15 rfl (by decide) (fun h15 => ?_) (fun h15 => ?_)
  · refine x_aload_n (q := 26) dX4_of_25 rfl rfl ?_
    refine x_getR (q := 29) dX4_of_26 rfl fl_X4_12 (or4_coast) ?_
    refine x_getR (q := 32) dX4_of_29 rfl fl_X4_80 (or0_slip isC_1) ?_
    refine x_iload_n (q := 33) dX4_of_32 rfl rfl ?_
    refine x_slip (q := 34) dX4_of_33 rfl isC_1 (par_k hI.2.1 hI.1 h5).1 ?_
    refine x_iload_n (q := 35) dX4_of_34 rfl rfl ?_
    refine x_callV1v (q := 38) dX4_of_35 rfl ml_X4_84 mv_X1_told (rv1 isC_1 (par_k hI.2.1 hI.1 h5).1.2.2) rfl (p_X1_told isC_1 (par_k hI.2.1 hI.1 h5).1.2.2) (Nat.le_of_ble_eq_true rfl) ⟨by decide, by decide⟩ ?_
    refine x_ireturn dX4_of_38 rfl rfl ?_
    exact ⟨by simp [h5, h15], by simp [h5, h15]⟩
  refine x_aload_n (q := 19) dX4_of_18 rfl rfl ?_
  refine x_ldc (q := 21) dX4_of_19 rfl kc_X4_48 ?_
  refine x_callV1v (q := 24) dX4_of_21 rfl ml_X4_49 mv_X4_finding rv4 rfl (c_X4_finding (w := 0) (by decide) (by decide)) (Nat.le_of_ble_eq_true rfl) ⟨by decide, by decide⟩ ?_
  refine x_ireturn dX4_of_24 rfl rfl ?_
  exact ⟨by simp [h5, h15], by simp [h5, h15]⟩
theorem dX4_change_0 : decode cX4_change 0 = .ok (.aload_n 0, 1) := by decide +kernel
theorem dX4_change_1 : decode cX4_change 1 = .ok (.iload_n 1, 1) := by decide +kernel
theorem dX4_change_2 : decode cX4_change 2 = .ok (.invokevirtual 76, 3) := by decide +kernel
theorem dX4_change_5 : decode cX4_change 5 = .ok (.ifCond .ne 28, 3) := by decide +kernel
theorem dX4_change_8 : decode cX4_change 8 = .ok (.iload_n 2, 1) := by decide +kernel
theorem dX4_change_9 : decode cX4_change 9 = .ok (.iconst 0, 1) := by decide +kernel
theorem dX4_change_10 : decode cX4_change 10 = .ok (.bipush 6, 2) := by decide +kernel
theorem dX4_change_12 : decode cX4_change 12 = .ok (.invokestatic 44, 3) := by decide +kernel
theorem dX4_change_15 : decode cX4_change 15 = .ok (.ifCond .ne 18, 3) := by decide +kernel
theorem dX4_change_18 : decode cX4_change 18 = .ok (.iload_n 3, 1) := by decide +kernel
theorem dX4_change_19 : decode cX4_change 19 = .ok (.iload_n 2, 1) := by decide +kernel
theorem dX4_change_20 : decode cX4_change 20 = .ok (.invokestatic 87, 3) := by decide +kernel
theorem dX4_change_23 : decode cX4_change 23 = .ok (.iload_n 2, 1) := by decide +kernel
theorem dX4_change_24 : decode cX4_change 24 = .ok (.invokestatic 90, 3) := by decide +kernel
theorem dX4_change_27 : decode cX4_change 27 = .ok (.invokestatic 44, 3) := by decide +kernel
theorem dX4_change_30 : decode cX4_change 30 = .ok (.ifCond .eq 10, 3) := by decide +kernel
theorem dX4_change_33 : decode cX4_change 33 = .ok (.aload_n 0, 1) := by decide +kernel
theorem dX4_change_34 : decode cX4_change 34 = .ok (.ldc 48, 2) := by decide +kernel
theorem dX4_change_36 : decode cX4_change 36 = .ok (.invokevirtual 49, 3) := by decide +kernel
theorem dX4_change_39 : decode cX4_change 39 = .ok (.ireturn, 1) := by decide +kernel
theorem dX4_change_40 : decode cX4_change 40 = .ok (.aload_n 0, 1) := by decide +kernel
theorem dX4_change_41 : decode cX4_change 41 = .ok (.getfield 12, 3) := by decide +kernel
theorem dX4_change_44 : decode cX4_change 44 = .ok (.getfield 80, 3) := by decide +kernel
theorem dX4_change_47 : decode cX4_change 47 = .ok (.iload_n 1, 1) := by decide +kernel
theorem dX4_change_48 : decode cX4_change 48 = .ok (.aaload, 1) := by decide +kernel
theorem dX4_change_49 : decode cX4_change 49 = .ok (.iload_n 2, 1) := by decide +kernel
theorem dX4_change_50 : decode cX4_change 50 = .ok (.invokevirtual 84, 3) := by decide +kernel
theorem dX4_change_53 : decode cX4_change 53 = .ok (.istore 4, 2) := by decide +kernel
theorem dX4_change_55 : decode cX4_change 55 = .ok (.aload_n 0, 1) := by decide +kernel
theorem dX4_change_56 : decode cX4_change 56 = .ok (.getfield 12, 3) := by decide +kernel
theorem dX4_change_59 : decode cX4_change 59 = .ok (.getfield 80, 3) := by decide +kernel
theorem dX4_change_62 : decode cX4_change 62 = .ok (.iload_n 1, 1) := by decide +kernel
theorem dX4_change_63 : decode cX4_change 63 = .ok (.aaload, 1) := by decide +kernel
theorem dX4_change_64 : decode cX4_change 64 = .ok (.iload_n 2, 1) := by decide +kernel
theorem dX4_change_65 : decode cX4_change 65 = .ok (.iload_n 3, 1) := by decide +kernel
theorem dX4_change_66 : decode cX4_change 66 = .ok (.invokevirtual 93, 3) := by decide +kernel
theorem dX4_change_69 : decode cX4_change 69 = .ok (.iload 4, 2) := by decide +kernel
theorem dX4_change_71 : decode cX4_change 71 = .ok (.ireturn, 1) := by decide +kernel
set_option maxRecDepth 20000 in
set_option maxHeartbeats 4000000 in
theorem c_X4_change {K : Cx} {p x v : Int32} {n8 : Nat} {m : TM} (hI : Iv n8 (m.1 1)) : CT yX4_change cX4_change 5 (some .int) 2 44 K [.ref 0, .int p, .int x, .int v] (m) (some (.int ((if (outI p 0 (m.1 1 1 - 1) || outI x 0 6 || outI v (lst x) (mst x)) = true then (-1000001) else tld (m.1 1) (cl p) x)))) ((if (outI p 0 (m.1 1 1 - 1) || outI x 0 6 || outI v (lst x) (mst x)) = true then fnd m 0 else sr m 1 (ptF (m.1 1) (cl p) x v))) := by
  refine ct_ofd (n := 1) (by decide +kernel) rfl rfl ?_
  show XX RX4 cX4_change 5 (some .int) 2 44 K 0 [some (.ref 0), some (.int p), some (.int x), some (.int v), none] [] (m) (fun r1 m1 => r1 = (some (.int ((if (outI p 0 (m.1 1 1 - 1) || outI x 0 6 || outI v (lst x) (mst x)) = true then (-1000001) else tld (m.1 1) (cl p) x)))) ∧ m1 = (if (outI p 0 (m.1 1 1 - 1) || outI x 0 6 || outI v (lst x) (mst x)) = true then fnd m 0 else sr m 1 (ptF (m.1 1) (cl p) x v)))
  refine x_aload_n (q := 1) dX4_change_0 rfl rfl ?_
  refine x_iload_n (q := 2) dX4_change_1 rfl rfl ?_
  refine x_callV1v (q := 5) dX4_change_2 rfl ml_X4_76 mv_X4_isNoParcel rv4 rfl c_X4_isNoParcel (Nat.le_of_ble_eq_true rfl) ⟨by decide, by decide⟩ ?_
  refine x_ifB_ne (q := 8) (t := 33) dX4_change_5 rfl (by decide) (fun h5 => ?_) (fun h5 => ?_)
  · refine x_aload_n (q := 34) dX4_change_33 rfl rfl ?_
    refine x_ldc (q := 36) dX4_change_34 rfl kc_X4_48 ?_
    refine x_callV1v (q := 39) dX4_change_36 rfl ml_X4_49 mv_X4_finding rv4 rfl (c_X4_finding (w := 0) (by decide) (by decide)) (Nat.le_of_ble_eq_true rfl) ⟨by decide, by decide⟩ ?_
    refine x_ireturn dX4_change_39 rfl rfl ?_
    exact ⟨by simp [h5], by simp [h5]⟩
  refine x_iload_n (q := 9) dX4_change_8 rfl rfl ?_
  refine x_iconst (q := 10) (v := 0) dX4_change_9 rfl (by decide) ?_
  refine x_bipush (q := 12) (v := 6) dX4_change_10 rfl (by decide) ?_
  refine x_callS3v (q := 15) dX4_change_12 rfl ml_X4_44 ms_X4_isOut c_X4_isOut (Nat.le_of_ble_eq_true rfl) ⟨by decide, by decide⟩ ?_
  refine x_ifB_ne (q := 18) (t := 33) dX4_change_15 rfl (by decide) (fun h15 => ?_) (fun h15 => ?_)
  · refine x_aload_n (q := 34) dX4_change_33 rfl rfl ?_
    refine x_ldc (q := 36) dX4_change_34 rfl kc_X4_48 ?_
    refine x_callV1v (q := 39) dX4_change_36 rfl ml_X4_49 mv_X4_finding rv4 rfl (c_X4_finding (w := 0) (by decide) (by decide)) (Nat.le_of_ble_eq_true rfl) ⟨by decide, by decide⟩ ?_
    refine x_ireturn dX4_change_39 rfl rfl ?_
    exact ⟨by simp [h5, h15], by simp [h5, h15]⟩
  refine x_iload_n (q := 19) dX4_change_18 rfl rfl ?_
  refine x_iload_n (q := 20) dX4_change_19 rfl rfl ?_
  refine x_callS1v (q := 23) dX4_change_20 rfl ml_X4_87 ms_X1_least c_X1_least (Nat.le_of_ble_eq_true rfl) ⟨by decide, by decide⟩ ?_
  refine x_iload_n (q := 24) dX4_change_23 rfl rfl ?_
  refine x_callS1v (q := 27) dX4_change_24 rfl ml_X4_90 ms_X1_most c_X1_most (Nat.le_of_ble_eq_true rfl) ⟨by decide, by decide⟩ ?_
  refine x_callS3v (q := 30) dX4_change_27 rfl ml_X4_44 ms_X4_isOut c_X4_isOut (Nat.le_of_ble_eq_true rfl) ⟨by decide, by decide⟩ ?_
  refine x_ifB_eq (q := 33) (t := 40) dX4_change_30 rfl (by decide) (fun h30 => ?_) (fun h30 => ?_)
  · refine x_aload_n (q := 41) dX4_change_40 rfl rfl ?_
    refine x_getR (q := 44) dX4_change_41 rfl fl_X4_12 (or4_coast) ?_
    refine x_getR (q := 47) dX4_change_44 rfl fl_X4_80 (or0_slip isC_1) ?_
    refine x_iload_n (q := 48) dX4_change_47 rfl rfl ?_
    refine x_slip (q := 49) dX4_change_48 rfl isC_1 (par_k hI.2.1 hI.1 h5).1 ?_
    refine x_iload_n (q := 50) dX4_change_49 rfl rfl ?_
    refine x_callV1v (q := 53) dX4_change_50 rfl ml_X4_84 mv_X1_told (rv1 isC_1 (par_k hI.2.1 hI.1 h5).1.2.2) rfl (p_X1_told isC_1 (par_k hI.2.1 hI.1 h5).1.2.2) (Nat.le_of_ble_eq_true rfl) ⟨by decide, by decide⟩ ?_
    refine x_istore (q := 55) dX4_change_53 rfl (by decide) rfl rfl ?_
    refine x_aload_n (q := 56) dX4_change_55 rfl rfl ?_
    refine x_getR (q := 59) dX4_change_56 rfl fl_X4_12 (or4_coast) ?_
    refine x_getR (q := 62) dX4_change_59 rfl fl_X4_80 (or0_slip isC_1) ?_
    refine x_iload_n (q := 63) dX4_change_62 rfl rfl ?_
    refine x_slip (q := 64) dX4_change_63 rfl isC_1 (par_k hI.2.1 hI.1 h5).1 ?_
    refine x_iload_n (q := 65) dX4_change_64 rfl rfl ?_
    refine x_iload_n (q := 66) dX4_change_65 rfl rfl ?_
    refine x_callV2n (q := 69) dX4_change_66 rfl ml_X4_93 mv_X1_put (rv1 isC_1 (par_k hI.2.1 hI.1 h5).1.2.2) rfl (p_X1_put isC_1 (par_k hI.2.1 hI.1 h5).1.2.2) (Nat.le_of_ble_eq_true rfl) ⟨by decide, by decide⟩ ?_
    refine x_iload (q := 71) dX4_change_69 rfl rfl ?_
    refine x_ireturn dX4_change_71 rfl rfl ?_
    exact ⟨by simp [h5, h15, h30], by simp [h5, h15, h30]⟩
  refine x_aload_n (q := 34) dX4_change_33 rfl rfl ?_
  refine x_ldc (q := 36) dX4_change_34 rfl kc_X4_48 ?_
  refine x_callV1v (q := 39) dX4_change_36 rfl ml_X4_49 mv_X4_finding rv4 rfl (c_X4_finding (w := 0) (by decide) (by decide)) (Nat.le_of_ble_eq_true rfl) ⟨by decide, by decide⟩ ?_
  refine x_ireturn dX4_change_39 rfl rfl ?_
  exact ⟨by simp [h5, h15, h30], by simp [h5, h15, h30]⟩
theorem dX4_signs_0 : decode cX4_signs 0 = .ok (.aload_n 0, 1) := by decide +kernel
theorem dX4_signs_1 : decode cX4_signs 1 = .ok (.iload_n 1, 1) := by decide +kernel
theorem dX4_signs_2 : decode cX4_signs 2 = .ok (.invokevirtual 76, 3) := by decide +kernel
theorem dX4_signs_5 : decode cX4_signs 5 = .ok (.ifCond .ne 13, 3) := by decide +kernel
theorem dX4_signs_8 : decode cX4_signs 8 = .ok (.iload_n 2, 1) := by decide +kernel
theorem dX4_signs_9 : decode cX4_signs 9 = .ok (.iconst 0, 1) := by decide +kernel
theorem dX4_signs_10 : decode cX4_signs 10 = .ok (.bipush 29, 2) := by decide +kernel
theorem dX4_signs_12 : decode cX4_signs 12 = .ok (.invokestatic 44, 3) := by decide +kernel
theorem dX4_signs_15 : decode cX4_signs 15 = .ok (.ifCond .eq 10, 3) := by decide +kernel
theorem dX4_signs_18 : decode cX4_signs 18 = .ok (.aload_n 0, 1) := by decide +kernel
theorem dX4_signs_19 : decode cX4_signs 19 = .ok (.ldc 48, 2) := by decide +kernel
theorem dX4_signs_21 : decode cX4_signs 21 = .ok (.invokevirtual 49, 3) := by decide +kernel
theorem dX4_signs_24 : decode cX4_signs 24 = .ok (.ireturn, 1) := by decide +kernel
theorem dX4_signs_25 : decode cX4_signs 25 = .ok (.aload_n 0, 1) := by decide +kernel
theorem dX4_signs_26 : decode cX4_signs 26 = .ok (.getfield 12, 3) := by decide +kernel
theorem dX4_signs_29 : decode cX4_signs 29 = .ok (.getfield 80, 3) := by decide +kernel
theorem dX4_signs_32 : decode cX4_signs 32 = .ok (.iload_n 1, 1) := by decide +kernel
theorem dX4_signs_33 : decode cX4_signs 33 = .ok (.aaload, 1) := by decide +kernel
theorem dX4_signs_34 : decode cX4_signs 34 = .ok (.iload_n 2, 1) := by decide +kernel
theorem dX4_signs_35 : decode cX4_signs 35 = .ok (.aload_n 0, 1) := by decide +kernel
theorem dX4_signs_36 : decode cX4_signs 36 = .ok (.getfield 12, 3) := by decide +kernel
theorem dX4_signs_39 : decode cX4_signs 39 = .ok (.getfield 97, 3) := by decide +kernel
theorem dX4_signs_42 : decode cX4_signs 42 = .ok (.invokevirtual 100, 3) := by decide +kernel
theorem dX4_signs_45 : decode cX4_signs 45 = .ok (.ifCond .eq 7, 3) := by decide +kernel
theorem dX4_signs_48 : decode cX4_signs 48 = .ok (.iconst 1, 1) := by decide +kernel
theorem dX4_signs_49 : decode cX4_signs 49 = .ok (.goto 4, 3) := by decide +kernel
theorem dX4_signs_52 : decode cX4_signs 52 = .ok (.iconst 0, 1) := by decide +kernel
theorem dX4_signs_53 : decode cX4_signs 53 = .ok (.ireturn, 1) := by decide +kernel
set_option maxRecDepth 20000 in
set_option maxHeartbeats 4000000 in
theorem c_X4_signs {K : Cx} {p t : Int32} {n8 : Nat} {m : TM} (hI : Iv n8 (m.1 1)) : CT yX4_signs cX4_signs 3 (some .int) 2 44 K [.ref 0, .int p, .int t] (m) (some (.int ((if (outI p 0 (m.1 1 1 - 1) || outI t 0 29) = true then (-1000001) else bI (sg (m.1 1 (12 + 7 * cl p + 0)) (m.1 1 (12 + 7 * cl p + 1)) (m.1 1 (12 + 7 * cl p + 2)) (m.1 1 (12 + 7 * cl p + 6)) (m.1 1 0) t))))) ((if (outI p 0 (m.1 1 1 - 1) || outI t 0 29) = true then fnd m 0 else m)) := by
  refine ct_ofd (n := 0) (by decide +kernel) rfl rfl ?_
  show XX RX4 cX4_signs 3 (some .int) 2 44 K 0 [some (.ref 0), some (.int p), some (.int t)] [] (m) (fun r1 m1 => r1 = (some (.int ((if (outI p 0 (m.1 1 1 - 1) || outI t 0 29) = true then (-1000001) else bI (sg (m.1 1 (12 + 7 * cl p + 0)) (m.1 1 (12 + 7 * cl p + 1)) (m.1 1 (12 + 7 * cl p + 2)) (m.1 1 (12 + 7 * cl p + 6)) (m.1 1 0) t))))) ∧ m1 = (if (outI p 0 (m.1 1 1 - 1) || outI t 0 29) = true then fnd m 0 else m))
  refine x_aload_n (q := 1) dX4_signs_0 rfl rfl ?_
  refine x_iload_n (q := 2) dX4_signs_1 rfl rfl ?_
  refine x_callV1v (q := 5) dX4_signs_2 rfl ml_X4_76 mv_X4_isNoParcel rv4 rfl c_X4_isNoParcel (Nat.le_of_ble_eq_true rfl) ⟨by decide, by decide⟩ ?_
  refine x_ifB_ne (q := 8) (t := 18) dX4_signs_5 rfl (by decide) (fun h5 => ?_) (fun h5 => ?_)
  · refine x_aload_n (q := 19) dX4_signs_18 rfl rfl ?_
    refine x_ldc (q := 21) dX4_signs_19 rfl kc_X4_48 ?_
    refine x_callV1v (q := 24) dX4_signs_21 rfl ml_X4_49 mv_X4_finding rv4 rfl (c_X4_finding (w := 0) (by decide) (by decide)) (Nat.le_of_ble_eq_true rfl) ⟨by decide, by decide⟩ ?_
    refine x_ireturn dX4_signs_24 rfl rfl ?_
    exact ⟨by simp [h5], by simp [h5]⟩
  refine x_iload_n (q := 9) dX4_signs_8 rfl rfl ?_
  refine x_iconst (q := 10) (v := 0) dX4_signs_9 rfl (by decide) ?_
  refine x_bipush (q := 12) (v := 29) dX4_signs_10 rfl (by decide) ?_
  refine x_callS3v (q := 15) dX4_signs_12 rfl ml_X4_44 ms_X4_isOut c_X4_isOut (Nat.le_of_ble_eq_true rfl) ⟨by decide, by decide⟩ ?_
  refine x_ifB_eq (q := 18) (t := 25) dX4_signs_15 rfl (by decide) (fun h15 => ?_) (fun h15 => ?_)
  · refine x_aload_n (q := 26) dX4_signs_25 rfl rfl ?_
    refine x_getR (q := 29) dX4_signs_26 rfl fl_X4_12 (or4_coast) ?_
    refine x_getR (q := 32) dX4_signs_29 rfl fl_X4_80 (or0_slip isC_1) ?_
    refine x_iload_n (q := 33) dX4_signs_32 rfl rfl ?_
    refine x_slip (q := 34) dX4_signs_33 rfl isC_1 (par_k hI.2.1 hI.1 h5).1 ?_
    refine x_iload_n (q := 35) dX4_signs_34 rfl rfl ?_
    refine x_aload_n (q := 36) dX4_signs_35 rfl rfl ?_
    refine x_getR (q := 39) dX4_signs_36 rfl fl_X4_12 (or4_coast) ?_
    refine x_getI (q := 42) dX4_signs_39 rfl fl_X4_97 (ob0_day isC_1) ?_
    refine x_callV2v (q := 45) dX4_signs_42 rfl ml_X4_100 mv_X1_isSignedFor (rv1 isC_1 (par_k hI.2.1 hI.1 h5).1.2.2) rfl (p_X1_isSignedFor isC_1 (par_k hI.2.1 hI.1 h5).1.2.2) (Nat.le_of_ble_eq_true rfl) ⟨by decide, by decide⟩ ?_
    refine x_ifB_eq (q := 48) (t := 52) dX4_signs_45 rfl (by decide) (fun h45 => ?_) (fun h45 => ?_)
    · refine x_iconst (q := 53) (v := 0) dX4_signs_52 rfl (by decide) ?_
      refine x_ireturn dX4_signs_53 rfl rfl ?_
      exact ⟨by rw [h45]; simp [h5, h15, bI], by simp [h5, h15]⟩
    refine x_iconst (q := 49) (v := 1) dX4_signs_48 rfl (by decide) ?_
    refine x_goto (q := 53) dX4_signs_49 (by decide) ?_
    refine x_ireturn dX4_signs_53 rfl rfl ?_
    exact ⟨by rw [h45]; simp [h5, h15, bI], by simp [h5, h15]⟩
  refine x_aload_n (q := 19) dX4_signs_18 rfl rfl ?_
  refine x_ldc (q := 21) dX4_signs_19 rfl kc_X4_48 ?_
  refine x_callV1v (q := 24) dX4_signs_21 rfl ml_X4_49 mv_X4_finding rv4 rfl (c_X4_finding (w := 0) (by decide) (by decide)) (Nat.le_of_ble_eq_true rfl) ⟨by decide, by decide⟩ ?_
  refine x_ireturn dX4_signs_24 rfl rfl ?_
  exact ⟨by simp [h5, h15], by simp [h5, h15]⟩
theorem dX4_onLine_0 : decode cX4_onLine 0 = .ok (.iload_n 1, 1) := by decide +kernel
theorem dX4_onLine_1 : decode cX4_onLine 1 = .ok (.iconst 0, 1) := by decide +kernel
theorem dX4_onLine_2 : decode cX4_onLine 2 = .ok (.bipush 20, 2) := by decide +kernel
theorem dX4_onLine_4 : decode cX4_onLine 4 = .ok (.invokestatic 44, 3) := by decide +kernel
theorem dX4_onLine_7 : decode cX4_onLine 7 = .ok (.ifCond .eq 10, 3) := by decide +kernel
theorem dX4_onLine_10 : decode cX4_onLine 10 = .ok (.aload_n 0, 1) := by decide +kernel
theorem dX4_onLine_11 : decode cX4_onLine 11 = .ok (.ldc 48, 2) := by decide +kernel
theorem dX4_onLine_13 : decode cX4_onLine 13 = .ok (.invokevirtual 49, 3) := by decide +kernel
theorem dX4_onLine_16 : decode cX4_onLine 16 = .ok (.ireturn, 1) := by decide +kernel
theorem dX4_onLine_17 : decode cX4_onLine 17 = .ok (.aload_n 0, 1) := by decide +kernel
theorem dX4_onLine_18 : decode cX4_onLine 18 = .ok (.getfield 12, 3) := by decide +kernel
theorem dX4_onLine_21 : decode cX4_onLine 21 = .ok (.iload_n 1, 1) := by decide +kernel
theorem dX4_onLine_22 : decode cX4_onLine 22 = .ok (.invokevirtual 104, 3) := by decide +kernel
theorem dX4_onLine_25 : decode cX4_onLine 25 = .ok (.ireturn, 1) := by decide +kernel
set_option maxRecDepth 20000 in
set_option maxHeartbeats 4000000 in
theorem c_X4_onLine {K : Cx} {x : Int32} {n8 : Nat} {m : TM} (hI : Iv n8 (m.1 1)) : CT yX4_onLine cX4_onLine 2 (some .int) 2 44 K [.ref 0, .int x] (m) (some (.int ((if (outI x 0 20) = true then (-1000001) else lyF (m.1 1) x n8)))) ((if (outI x 0 20) = true then fnd m 0 else m)) := by
  refine ct_ofd (n := 0) (by decide +kernel) rfl rfl ?_
  show XX RX4 cX4_onLine 2 (some .int) 2 44 K 0 [some (.ref 0), some (.int x)] [] (m) (fun r1 m1 => r1 = (some (.int ((if (outI x 0 20) = true then (-1000001) else lyF (m.1 1) x n8)))) ∧ m1 = (if (outI x 0 20) = true then fnd m 0 else m))
  refine x_iload_n (q := 1) dX4_onLine_0 rfl rfl ?_
  refine x_iconst (q := 2) (v := 0) dX4_onLine_1 rfl (by decide) ?_
  refine x_bipush (q := 4) (v := 20) dX4_onLine_2 rfl (by decide) ?_
  refine x_callS3v (q := 7) dX4_onLine_4 rfl ml_X4_44 ms_X4_isOut c_X4_isOut (Nat.le_of_ble_eq_true rfl) ⟨by decide, by decide⟩ ?_
  refine x_ifB_eq (q := 10) (t := 17) dX4_onLine_7 rfl (by decide) (fun h7 => ?_) (fun h7 => ?_)
  · refine x_aload_n (q := 18) dX4_onLine_17 rfl rfl ?_
    refine x_getR (q := 21) dX4_onLine_18 rfl fl_X4_12 (or4_coast) ?_
    refine x_iload_n (q := 22) dX4_onLine_21 rfl rfl ?_
    refine x_callV1v (q := 25) dX4_onLine_22 rfl ml_X4_104 mv_X0_lyingOn (rv0 isC_1) rfl (p_X0_lyingOn isC_1 hI.2.1 hI.1) (Nat.le_of_ble_eq_true rfl) ⟨by decide, by decide⟩ ?_
    refine x_ireturn dX4_onLine_25 rfl rfl ?_
    exact ⟨by simp [h7], by simp [h7]⟩
  refine x_aload_n (q := 11) dX4_onLine_10 rfl rfl ?_
  refine x_ldc (q := 13) dX4_onLine_11 rfl kc_X4_48 ?_
  refine x_callV1v (q := 16) dX4_onLine_13 rfl ml_X4_49 mv_X4_finding rv4 rfl (c_X4_finding (w := 0) (by decide) (by decide)) (Nat.le_of_ble_eq_true rfl) ⟨by decide, by decide⟩ ?_
  refine x_ireturn dX4_onLine_16 rfl rfl ?_
  exact ⟨by simp [h7], by simp [h7]⟩
theorem dX4_now_0 : decode cX4_now 0 = .ok (.iload_n 1, 1) := by decide +kernel
theorem dX4_now_1 : decode cX4_now 1 = .ok (.tableswitch 114 0 7 #[47, 55, 63, 71, 80, 89, 98, 106], 47) := by decide +kernel
theorem dX4_now_48 : decode cX4_now 48 = .ok (.aload_n 0, 1) := by decide +kernel
theorem dX4_now_49 : decode cX4_now 49 = .ok (.getfield 12, 3) := by decide +kernel
theorem dX4_now_52 : decode cX4_now 52 = .ok (.getfield 97, 3) := by decide +kernel
theorem dX4_now_55 : decode cX4_now 55 = .ok (.ireturn, 1) := by decide +kernel
theorem dX4_now_56 : decode cX4_now 56 = .ok (.aload_n 0, 1) := by decide +kernel
theorem dX4_now_57 : decode cX4_now 57 = .ok (.getfield 12, 3) := by decide +kernel
theorem dX4_now_60 : decode cX4_now 60 = .ok (.getfield 116, 3) := by decide +kernel
theorem dX4_now_63 : decode cX4_now 63 = .ok (.ireturn, 1) := by decide +kernel
theorem dX4_now_64 : decode cX4_now 64 = .ok (.aload_n 0, 1) := by decide +kernel
theorem dX4_now_65 : decode cX4_now 65 = .ok (.getfield 12, 3) := by decide +kernel
theorem dX4_now_68 : decode cX4_now 68 = .ok (.getfield 56, 3) := by decide +kernel
theorem dX4_now_71 : decode cX4_now 71 = .ok (.ireturn, 1) := by decide +kernel
theorem dX4_now_72 : decode cX4_now 72 = .ok (.aload_n 0, 1) := by decide +kernel
theorem dX4_now_73 : decode cX4_now 73 = .ok (.getfield 12, 3) := by decide +kernel
theorem dX4_now_76 : decode cX4_now 76 = .ok (.iconst 0, 1) := by decide +kernel
theorem dX4_now_77 : decode cX4_now 77 = .ok (.invokevirtual 113, 3) := by decide +kernel
theorem dX4_now_80 : decode cX4_now 80 = .ok (.ireturn, 1) := by decide +kernel
theorem dX4_now_81 : decode cX4_now 81 = .ok (.aload_n 0, 1) := by decide +kernel
theorem dX4_now_82 : decode cX4_now 82 = .ok (.getfield 12, 3) := by decide +kernel
theorem dX4_now_85 : decode cX4_now 85 = .ok (.iconst 1, 1) := by decide +kernel
theorem dX4_now_86 : decode cX4_now 86 = .ok (.invokevirtual 113, 3) := by decide +kernel
theorem dX4_now_89 : decode cX4_now 89 = .ok (.ireturn, 1) := by decide +kernel
theorem dX4_now_90 : decode cX4_now 90 = .ok (.aload_n 0, 1) := by decide +kernel
theorem dX4_now_91 : decode cX4_now 91 = .ok (.getfield 12, 3) := by decide +kernel
theorem dX4_now_94 : decode cX4_now 94 = .ok (.iconst 2, 1) := by decide +kernel
theorem dX4_now_95 : decode cX4_now 95 = .ok (.invokevirtual 113, 3) := by decide +kernel
theorem dX4_now_98 : decode cX4_now 98 = .ok (.ireturn, 1) := by decide +kernel
theorem dX4_now_99 : decode cX4_now 99 = .ok (.aload_n 0, 1) := by decide +kernel
theorem dX4_now_100 : decode cX4_now 100 = .ok (.getfield 12, 3) := by decide +kernel
theorem dX4_now_103 : decode cX4_now 103 = .ok (.invokevirtual 119, 3) := by decide +kernel
theorem dX4_now_106 : decode cX4_now 106 = .ok (.ireturn, 1) := by decide +kernel
theorem dX4_now_107 : decode cX4_now 107 = .ok (.aload_n 0, 1) := by decide +kernel
theorem dX4_now_108 : decode cX4_now 108 = .ok (.getfield 12, 3) := by decide +kernel
theorem dX4_now_111 : decode cX4_now 111 = .ok (.invokevirtual 123, 3) := by decide +kernel
theorem dX4_now_114 : decode cX4_now 114 = .ok (.ireturn, 1) := by decide +kernel
theorem dX4_now_115 : decode cX4_now 115 = .ok (.aload_n 0, 1) := by decide +kernel
theorem dX4_now_116 : decode cX4_now 116 = .ok (.ldc 48, 2) := by decide +kernel
theorem dX4_now_118 : decode cX4_now 118 = .ok (.invokevirtual 49, 3) := by decide +kernel
theorem dX4_now_121 : decode cX4_now 121 = .ok (.ireturn, 1) := by decide +kernel
set_option maxRecDepth 20000 in
set_option maxHeartbeats 4000000 in
theorem c_X4_now {K : Cx} {x : Int32} {n8 : Nat} {m : TM} (hI : Iv n8 (m.1 1)) : CT yX4_now cX4_now 2 (some .int) 2 44 K [.ref 0, .int x] (m) (some (.int (if x = 0 then m.1 1 0 else if x = 1 then m.1 1 3 else if x = 2 then m.1 1 4 else if x = 3 then thF (m.1 1) 0 n8 else if x = 4 then thF (m.1 1) 1 n8 else if x = 5 then thF (m.1 1) 2 n8 else if x = 6 then tdF (m.1 1) else if x = 7 then weF (m.1 1) n8 else -1000001))) (if outI x 0 7 = true then fnd m 0 else m) := by
  refine ct_ofd (n := 0) (by decide +kernel) rfl rfl ?_
  show XX RX4 cX4_now 2 (some .int) 2 44 K 0 [some (.ref 0), some (.int x)] [] (m) (fun r1 m1 => r1 = (some (.int (if x = 0 then m.1 1 0 else if x = 1 then m.1 1 3 else if x = 2 then m.1 1 4 else if x = 3 then thF (m.1 1) 0 n8 else if x = 4 then thF (m.1 1) 1 n8 else if x = 5 then thF (m.1 1) 2 n8 else if x = 6 then tdF (m.1 1) else if x = 7 then weF (m.1 1) n8 else -1000001))) ∧ m1 = if outI x 0 7 = true then fnd m 0 else m)
  refine x_iload_n (q := 1) dX4_now_0 rfl rfl ?_
  by_cases h1_0 : x = 0
  · refine x_tswC (q := 48) (k := 0) dX4_now_1 h1_0 (by decide) (by decide) rfl (by decide) ?_
    refine x_aload_n (q := 49) dX4_now_48 rfl rfl ?_
    refine x_getR (q := 52) dX4_now_49 rfl fl_X4_12 (or4_coast) ?_
    refine x_getI (q := 55) dX4_now_52 rfl fl_X4_97 (ob0_day isC_1) ?_
    refine x_ireturn dX4_now_55 rfl rfl ?_
    exact ⟨by simp [h1_0], by rw [h1_0]; rfl⟩
  by_cases h1_1 : x = 1
  · refine x_tswC (q := 56) (k := 1) dX4_now_1 h1_1 (by decide) (by decide) rfl (by decide) ?_
    refine x_aload_n (q := 57) dX4_now_56 rfl rfl ?_
    refine x_getR (q := 60) dX4_now_57 rfl fl_X4_12 (or4_coast) ?_
    refine x_getI (q := 63) dX4_now_60 rfl fl_X4_116 (ob0_amber isC_1) ?_
    refine x_ireturn dX4_now_63 rfl rfl ?_
    exact ⟨by simp [h1_0, h1_1], by rw [h1_1]; rfl⟩
  by_cases h1_2 : x = 2
  · refine x_tswC (q := 64) (k := 2) dX4_now_1 h1_2 (by decide) (by decide) rfl (by decide) ?_
    refine x_aload_n (q := 65) dX4_now_64 rfl rfl ?_
    refine x_getR (q := 68) dX4_now_65 rfl fl_X4_12 (or4_coast) ?_
    refine x_getI (q := 71) dX4_now_68 rfl fl_X4_56 (ob0_late isC_1) ?_
    refine x_ireturn dX4_now_71 rfl rfl ?_
    exact ⟨by simp [h1_0, h1_1, h1_2], by rw [h1_2]; rfl⟩
  by_cases h1_3 : x = 3
  · refine x_tswC (q := 72) (k := 3) dX4_now_1 h1_3 (by decide) (by decide) rfl (by decide) ?_
    refine x_aload_n (q := 73) dX4_now_72 rfl rfl ?_
    refine x_getR (q := 76) dX4_now_73 rfl fl_X4_12 (or4_coast) ?_
    refine x_iconst (q := 77) (v := 0) dX4_now_76 rfl (by decide) ?_
    refine x_callV1v (q := 80) dX4_now_77 rfl ml_X4_113 mv_X0_allThatAre (rv0 isC_1) rfl (p_X0_allThatAre isC_1 hI.2.1 hI.1) (Nat.le_of_ble_eq_true rfl) ⟨by decide, by decide⟩ ?_
    refine x_ireturn dX4_now_80 rfl rfl ?_
    exact ⟨by simp [h1_0, h1_1, h1_2, h1_3], by rw [h1_3]; rfl⟩
  by_cases h1_4 : x = 4
  · refine x_tswC (q := 81) (k := 4) dX4_now_1 h1_4 (by decide) (by decide) rfl (by decide) ?_
    refine x_aload_n (q := 82) dX4_now_81 rfl rfl ?_
    refine x_getR (q := 85) dX4_now_82 rfl fl_X4_12 (or4_coast) ?_
    refine x_iconst (q := 86) (v := 1) dX4_now_85 rfl (by decide) ?_
    refine x_callV1v (q := 89) dX4_now_86 rfl ml_X4_113 mv_X0_allThatAre (rv0 isC_1) rfl (p_X0_allThatAre isC_1 hI.2.1 hI.1) (Nat.le_of_ble_eq_true rfl) ⟨by decide, by decide⟩ ?_
    refine x_ireturn dX4_now_89 rfl rfl ?_
    exact ⟨by simp [h1_0, h1_1, h1_2, h1_3, h1_4], by rw [h1_4]; rfl⟩
  by_cases h1_5 : x = 5
  · refine x_tswC (q := 90) (k := 5) dX4_now_1 h1_5 (by decide) (by decide) rfl (by decide) ?_
    refine x_aload_n (q := 91) dX4_now_90 rfl rfl ?_
    refine x_getR (q := 94) dX4_now_91 rfl fl_X4_12 (or4_coast) ?_
    refine x_iconst (q := 95) (v := 2) dX4_now_94 rfl (by decide) ?_
    refine x_callV1v (q := 98) dX4_now_95 rfl ml_X4_113 mv_X0_allThatAre (rv0 isC_1) rfl (p_X0_allThatAre isC_1 hI.2.1 hI.1) (Nat.le_of_ble_eq_true rfl) ⟨by decide, by decide⟩ ?_
    refine x_ireturn dX4_now_98 rfl rfl ?_
    exact ⟨by simp [h1_0, h1_1, h1_2, h1_3, h1_4, h1_5], by rw [h1_5]; rfl⟩
  by_cases h1_6 : x = 6
  · refine x_tswC (q := 99) (k := 6) dX4_now_1 h1_6 (by decide) (by decide) rfl (by decide) ?_
    refine x_aload_n (q := 100) dX4_now_99 rfl rfl ?_
    refine x_getR (q := 103) dX4_now_100 rfl fl_X4_12 (or4_coast) ?_
    refine x_callV0v (q := 106) dX4_now_103 rfl ml_X4_119 mv_X0_tideOfDay (rv0 isC_1) rfl (p_X0_tideOfDay isC_1 hI.td) (Nat.le_of_ble_eq_true rfl) ⟨by decide, by decide⟩ ?_
    refine x_ireturn dX4_now_106 rfl rfl ?_
    exact ⟨by simp [h1_0, h1_1, h1_2, h1_3, h1_4, h1_5, h1_6], by rw [h1_6]; rfl⟩
  by_cases h1_7 : x = 7
  · refine x_tswC (q := 107) (k := 7) dX4_now_1 h1_7 (by decide) (by decide) rfl (by decide) ?_
    refine x_aload_n (q := 108) dX4_now_107 rfl rfl ?_
    refine x_getR (q := 111) dX4_now_108 rfl fl_X4_12 (or4_coast) ?_
    refine x_callV0v (q := 114) dX4_now_111 rfl ml_X4_123 mv_X0_weightThatLies (rv0 isC_1) rfl (p_X0_weightThatLies isC_1 hI.2.1 hI.1) (Nat.le_of_ble_eq_true rfl) ⟨by decide, by decide⟩ ?_
    refine x_ireturn dX4_now_114 rfl rfl ?_
    exact ⟨by simp [h1_0, h1_1, h1_2, h1_3, h1_4, h1_5, h1_6, h1_7], by rw [h1_7]; rfl⟩
  refine x_tswD (q := 115) dX4_now_1 (by have n0 := lv_neT h1_0 (a := 0) (by decide); have n1 := lv_neT h1_1 (a := 1) (by decide); have n2 := lv_neT h1_2 (a := 2) (by decide); have n3 := lv_neT h1_3 (a := 3) (by decide); have n4 := lv_neT h1_4 (a := 4) (by decide); have n5 := lv_neT h1_5 (a := 5) (by decide); have n6 := lv_neT h1_6 (a := 6) (by decide); have n7 := lv_neT h1_7 (a := 7) (by decide); omega) (by decide) ?_
  refine x_aload_n (q := 116) dX4_now_115 rfl rfl ?_
  refine x_ldc (q := 118) dX4_now_116 rfl kc_X4_48 ?_
  refine x_callV1v (q := 121) dX4_now_118 rfl ml_X4_49 mv_X4_finding rv4 rfl (c_X4_finding (w := 0) (by decide) (by decide)) (Nat.le_of_ble_eq_true rfl) ⟨by decide, by decide⟩ ?_
  refine x_ireturn dX4_now_121 rfl rfl ?_
  exact ⟨by simp [h1_0, h1_1, h1_2, h1_3, h1_4, h1_5, h1_6, h1_7], by rw [if_pos (sw_out h1_0 h1_1 h1_2 h1_3 h1_4 h1_5 h1_6 h1_7)]⟩
theorem dX4_seed_0 : decode cX4_seed 0 = .ok (.aload_n 0, 1) := by decide +kernel
theorem dX4_seed_1 : decode cX4_seed 1 = .ok (.getfield 12, 3) := by decide +kernel
theorem dX4_seed_4 : decode cX4_seed 4 = .ok (.getfield 163, 3) := by decide +kernel
theorem dX4_seed_7 : decode cX4_seed 7 = .ok (.istore_n 2, 1) := by decide +kernel
theorem dX4_seed_8 : decode cX4_seed 8 = .ok (.aload_n 0, 1) := by decide +kernel
theorem dX4_seed_9 : decode cX4_seed 9 = .ok (.getfield 12, 3) := by decide +kernel
theorem dX4_seed_12 : decode cX4_seed 12 = .ok (.iload_n 1, 1) := by decide +kernel
theorem dX4_seed_13 : decode cX4_seed 13 = .ok (.putfield 163, 3) := by decide +kernel
theorem dX4_seed_16 : decode cX4_seed 16 = .ok (.iload_n 2, 1) := by decide +kernel
theorem dX4_seed_17 : decode cX4_seed 17 = .ok (.ireturn, 1) := by decide +kernel
set_option maxRecDepth 20000 in
set_option maxHeartbeats 4000000 in
theorem c_X4_seed {K : Cx} {v : Int32} {m : TM} : CT yX4_seed cX4_seed 3 (some .int) 0 0 K [.ref 0, .int v] (m) (some (.int (m.1 1 2))) (sr m 1 (upd (m.1 1) 2 v)) := by
  refine ct_ofd (n := 1) (by decide +kernel) rfl rfl ?_
  show XX RX4 cX4_seed 3 (some .int) 0 0 K 0 [some (.ref 0), some (.int v), none] [] (m) (fun r1 m1 => r1 = (some (.int (m.1 1 2))) ∧ m1 = sr m 1 (upd (m.1 1) 2 v))
  refine x_aload_n (q := 1) dX4_seed_0 rfl rfl ?_
  refine x_getR (q := 4) dX4_seed_1 rfl fl_X4_12 (or4_coast) ?_
  refine x_getI (q := 7) dX4_seed_4 rfl fl_X4_163 (ob0_z isC_1) ?_
  refine x_istore_n (q := 8) dX4_seed_7 rfl (by decide) rfl rfl ?_
  refine x_aload_n (q := 9) dX4_seed_8 rfl rfl ?_
  refine x_getR (q := 12) dX4_seed_9 rfl fl_X4_12 (or4_coast) ?_
  refine x_iload_n (q := 13) dX4_seed_12 rfl rfl ?_
  refine x_putI (q := 16) dX4_seed_13 rfl fl_X4_163 (ob0_z isC_1) rfl rfl rfl rfl ?_
  refine x_iload_n (q := 17) dX4_seed_16 rfl rfl ?_
  refine x_ireturn dX4_seed_17 rfl rfl ?_
  exact ⟨rfl, st1_eq⟩
theorem dX4_wipe_0 : decode cX4_wipe 0 = .ok (.aload_n 0, 1) := by decide +kernel
theorem dX4_wipe_1 : decode cX4_wipe 1 = .ok (.getfield 29, 3) := by decide +kernel
theorem dX4_wipe_4 : decode cX4_wipe 4 = .ok (.getfield 166, 3) := by decide +kernel
theorem dX4_wipe_7 : decode cX4_wipe 7 = .ok (.istore_n 1, 1) := by decide +kernel
theorem dX4_wipe_8 : decode cX4_wipe 8 = .ok (.aload_n 0, 1) := by decide +kernel
theorem dX4_wipe_9 : decode cX4_wipe 9 = .ok (.getfield 29, 3) := by decide +kernel
theorem dX4_wipe_12 : decode cX4_wipe 12 = .ok (.iconst 0, 1) := by decide +kernel
theorem dX4_wipe_13 : decode cX4_wipe 13 = .ok (.putfield 166, 3) := by decide +kernel
theorem dX4_wipe_16 : decode cX4_wipe 16 = .ok (.iload_n 1, 1) := by decide +kernel
theorem dX4_wipe_17 : decode cX4_wipe 17 = .ok (.ireturn, 1) := by decide +kernel
set_option maxRecDepth 20000 in
set_option maxHeartbeats 4000000 in
theorem c_X4_wipe {K : Cx} {m : TM} : CT yX4_wipe cX4_wipe 2 (some .int) 0 0 K [.ref 0] (m) (some (.int (m.1 37 1))) (st1 m 37 1 0) := by
  refine ct_ofd (n := 1) (by decide +kernel) rfl rfl ?_
  show XX RX4 cX4_wipe 2 (some .int) 0 0 K 0 [some (.ref 0), none] [] (m) (fun r1 m1 => r1 = (some (.int (m.1 37 1))) ∧ m1 = st1 m 37 1 0)
  refine x_aload_n (q := 1) dX4_wipe_0 rfl rfl ?_
  refine x_getR (q := 4) dX4_wipe_1 rfl fl_X4_29 (or4_tape) ?_
  refine x_getI (q := 7) dX4_wipe_4 rfl fl_X4_166 (ob3_length) ?_
  refine x_istore_n (q := 8) dX4_wipe_7 rfl (by decide) rfl rfl ?_
  refine x_aload_n (q := 9) dX4_wipe_8 rfl rfl ?_
  refine x_getR (q := 12) dX4_wipe_9 rfl fl_X4_29 (or4_tape) ?_
  refine x_iconst (q := 13) (v := 0) dX4_wipe_12 rfl (by decide) ?_
  refine x_putI (q := 16) dX4_wipe_13 rfl fl_X4_166 (ob3_length) rfl rfl rfl rfl ?_
  refine x_iload_n (q := 17) dX4_wipe_16 rfl rfl ?_
  refine x_ireturn dX4_wipe_17 rfl rfl ?_
  exact ⟨rfl, rfl⟩
theorem dX4_hold_0 : decode cX4_hold 0 = .ok (.iload_n 1, 1) := by decide +kernel
theorem dX4_hold_1 : decode cX4_hold 1 = .ok (.iconst 0, 1) := by decide +kernel
theorem dX4_hold_2 : decode cX4_hold 2 = .ok (.bipush 9, 2) := by decide +kernel
theorem dX4_hold_4 : decode cX4_hold 4 = .ok (.invokestatic 44, 3) := by decide +kernel
theorem dX4_hold_7 : decode cX4_hold 7 = .ok (.ifCond .ne 16, 3) := by decide +kernel
theorem dX4_hold_10 : decode cX4_hold 10 = .ok (.iload_n 2, 1) := by decide +kernel
theorem dX4_hold_11 : decode cX4_hold 11 = .ok (.iconst (-1), 1) := by decide +kernel
theorem dX4_hold_12 : decode cX4_hold 12 = .ok (.if_icmp .eq 18, 3) := by decide +kernel
theorem dX4_hold_15 : decode cX4_hold 15 = .ok (.aload_n 0, 1) := by decide +kernel
theorem dX4_hold_16 : decode cX4_hold 16 = .ok (.iload_n 2, 1) := by decide +kernel
theorem dX4_hold_17 : decode cX4_hold 17 = .ok (.invokevirtual 76, 3) := by decide +kernel
theorem dX4_hold_20 : decode cX4_hold 20 = .ok (.ifCond .eq 10, 3) := by decide +kernel
theorem dX4_hold_23 : decode cX4_hold 23 = .ok (.aload_n 0, 1) := by decide +kernel
theorem dX4_hold_24 : decode cX4_hold 24 = .ok (.ldc 48, 2) := by decide +kernel
theorem dX4_hold_26 : decode cX4_hold 26 = .ok (.invokevirtual 49, 3) := by decide +kernel
theorem dX4_hold_29 : decode cX4_hold 29 = .ok (.ireturn, 1) := by decide +kernel
theorem dX4_hold_30 : decode cX4_hold 30 = .ok (.aload_n 0, 1) := by decide +kernel
theorem dX4_hold_31 : decode cX4_hold 31 = .ok (.getfield 12, 3) := by decide +kernel
theorem dX4_hold_34 : decode cX4_hold 34 = .ok (.getfield 177, 3) := by decide +kernel
theorem dX4_hold_37 : decode cX4_hold 37 = .ok (.iload_n 1, 1) := by decide +kernel
theorem dX4_hold_38 : decode cX4_hold 38 = .ok (.iload_n 2, 1) := by decide +kernel
theorem dX4_hold_39 : decode cX4_hold 39 = .ok (.iastore, 1) := by decide +kernel
theorem dX4_hold_40 : decode cX4_hold 40 = .ok (.iconst 1, 1) := by decide +kernel
theorem dX4_hold_41 : decode cX4_hold 41 = .ok (.ireturn, 1) := by decide +kernel
set_option maxRecDepth 20000 in
set_option maxHeartbeats 4000000 in
theorem c_X4_hold {K : Cx} {x p : Int32} {m : TM} : CT yX4_hold cX4_hold 3 (some .int) 2 44 K [.ref 0, .int x, .int p] (m) (some (.int ((if (outI x 0 9 || (!decide (p = -1) && outI p 0 (m.1 1 1 - 1))) = true then (-1000001) else 1)))) ((if (outI x 0 9 || (!decide (p = -1) && outI p 0 (m.1 1 1 - 1))) = true then fnd m 0 else sr m 1 (upd (m.1 1) (68 + cl x) p))) := by
  refine ct_ofd (n := 0) (by decide +kernel) rfl rfl ?_
  show XX RX4 cX4_hold 3 (some .int) 2 44 K 0 [some (.ref 0), some (.int x), some (.int p)] [] (m) (fun r1 m1 => r1 = (some (.int ((if (outI x 0 9 || (!decide (p = -1) && outI p 0 (m.1 1 1 - 1))) = true then (-1000001) else 1)))) ∧ m1 = (if (outI x 0 9 || (!decide (p = -1) && outI p 0 (m.1 1 1 - 1))) = true then fnd m 0 else sr m 1 (upd (m.1 1) (68 + cl x) p)))
  refine x_iload_n (q := 1) dX4_hold_0 rfl rfl ?_
  refine x_iconst (q := 2) (v := 0) dX4_hold_1 rfl (by decide) ?_
  refine x_bipush (q := 4) (v := 9) dX4_hold_2 rfl (by decide) ?_
  refine x_callS3v (q := 7) dX4_hold_4 rfl ml_X4_44 ms_X4_isOut c_X4_isOut (Nat.le_of_ble_eq_true rfl) ⟨by decide, by decide⟩ ?_
  refine x_ifB_ne (q := 10) (t := 23) dX4_hold_7 rfl (by decide) (fun h7 => ?_) (fun h7 => ?_)
  · refine x_aload_n (q := 24) dX4_hold_23 rfl rfl ?_
    refine x_ldc (q := 26) dX4_hold_24 rfl kc_X4_48 ?_
    refine x_callV1v (q := 29) dX4_hold_26 rfl ml_X4_49 mv_X4_finding rv4 rfl (c_X4_finding (w := 0) (by decide) (by decide)) (Nat.le_of_ble_eq_true rfl) ⟨by decide, by decide⟩ ?_
    refine x_ireturn dX4_hold_29 rfl rfl ?_
    exact ⟨by simp [h7, st1_eq], by simp [h7, st1_eq]⟩
  refine x_iload_n (q := 11) dX4_hold_10 rfl rfl ?_
  refine x_iconst (q := 12) (v := (-1)) dX4_hold_11 rfl (by decide) ?_
  refine x_icmp_eq (q := 15) (t := 30) dX4_hold_12 rfl (by decide) (fun h12 => ?_) (fun h12 => ?_)
  · refine x_aload_n (q := 31) dX4_hold_30 rfl rfl ?_
    refine x_getR (q := 34) dX4_hold_31 rfl fl_X4_12 (or4_coast) ?_
    refine x_getR (q := 37) dX4_hold_34 rfl fl_X4_177 (or0_spots isC_1) ?_
    refine x_iload_n (q := 38) dX4_hold_37 rfl rfl ?_
    refine x_iload_n (q := 39) dX4_hold_38 rfl rfl ?_
    refine x_iast (q := 40) dX4_hold_39 rfl (ar_spots isC_1) (ix_out h7 (by decide)) rfl rfl ?_
    refine x_iconst (q := 41) (v := 1) dX4_hold_40 rfl (by decide) ?_
    refine x_ireturn dX4_hold_41 rfl rfl ?_
    exact ⟨by simp [h7, h12, st1_eq], by simp [h7, h12, st1_eq]⟩
  refine x_aload_n (q := 16) dX4_hold_15 rfl rfl ?_
  refine x_iload_n (q := 17) dX4_hold_16 rfl rfl ?_
  refine x_callV1v (q := 20) dX4_hold_17 rfl ml_X4_76 mv_X4_isNoParcel rv4 rfl c_X4_isNoParcel (Nat.le_of_ble_eq_true rfl) ⟨by decide, by decide⟩ ?_
  refine x_ifB_eq (q := 23) (t := 30) dX4_hold_20 rfl (by decide) (fun h20 => ?_) (fun h20 => ?_)
  · refine x_aload_n (q := 31) dX4_hold_30 rfl rfl ?_
    refine x_getR (q := 34) dX4_hold_31 rfl fl_X4_12 (or4_coast) ?_
    refine x_getR (q := 37) dX4_hold_34 rfl fl_X4_177 (or0_spots isC_1) ?_
    refine x_iload_n (q := 38) dX4_hold_37 rfl rfl ?_
    refine x_iload_n (q := 39) dX4_hold_38 rfl rfl ?_
    refine x_iast (q := 40) dX4_hold_39 rfl (ar_spots isC_1) (ix_out h7 (by decide)) rfl rfl ?_
    refine x_iconst (q := 41) (v := 1) dX4_hold_40 rfl (by decide) ?_
    refine x_ireturn dX4_hold_41 rfl rfl ?_
    exact ⟨by simp [h7, h12, h20, st1_eq], by simp [h7, h12, h20, st1_eq]⟩
  refine x_aload_n (q := 24) dX4_hold_23 rfl rfl ?_
  refine x_ldc (q := 26) dX4_hold_24 rfl kc_X4_48 ?_
  refine x_callV1v (q := 29) dX4_hold_26 rfl ml_X4_49 mv_X4_finding rv4 rfl (c_X4_finding (w := 0) (by decide) (by decide)) (Nat.le_of_ble_eq_true rfl) ⟨by decide, by decide⟩ ?_
  refine x_ireturn dX4_hold_29 rfl rfl ?_
  exact ⟨by simp [h7, h12, h20, st1_eq], by simp [h7, h12, h20, st1_eq]⟩
theorem dX4_image_0 : decode cX4_image 0 = .ok (.aload_n 0, 1) := by decide +kernel
theorem dX4_image_1 : decode cX4_image 1 = .ok (.getfield 19, 3) := by decide +kernel
theorem dX4_image_4 : decode cX4_image 4 = .ok (.aload_n 0, 1) := by decide +kernel
theorem dX4_image_5 : decode cX4_image 5 = .ok (.getfield 12, 3) := by decide +kernel
theorem dX4_image_8 : decode cX4_image 8 = .ok (.invokevirtual 129, 3) := by decide +kernel
theorem dX4_image_11 : decode cX4_image 11 = .ok (.aload_n 0, 1) := by decide +kernel
theorem dX4_image_12 : decode cX4_image 12 = .ok (.iconst 1, 1) := by decide +kernel
theorem dX4_image_13 : decode cX4_image 13 = .ok (.putfield 22, 3) := by decide +kernel
theorem dX4_image_16 : decode cX4_image 16 = .ok (.iconst 1, 1) := by decide +kernel
theorem dX4_image_17 : decode cX4_image 17 = .ok (.ireturn, 1) := by decide +kernel
set_option maxRecDepth 20000 in
set_option maxHeartbeats 4000000 in
theorem c_X4_image {K : Cx} {n8 : Nat} {m : TM} (hI : Iv n8 (m.1 1)) : CT yX4_image cX4_image 1 (some .int) 2 52 K [.ref 0] (m) (some (.int (1))) (st1 (sr m 25 (bcF (m.1 25) (m.1 1) n8)) 0 3 1) := by
  refine ct_ofd (n := 0) (by decide +kernel) rfl rfl ?_
  show XX RX4 cX4_image 1 (some .int) 2 52 K 0 [some (.ref 0)] [] (m) (fun r1 m1 => r1 = (some (.int (1))) ∧ m1 = st1 (sr m 25 (bcF (m.1 25) (m.1 1) n8)) 0 3 1)
  refine x_aload_n (q := 1) dX4_image_0 rfl rfl ?_
  refine x_getR (q := 4) dX4_image_1 rfl fl_X4_19 (or4_kept) ?_
  refine x_aload_n (q := 5) dX4_image_4 rfl rfl ?_
  refine x_getR (q := 8) dX4_image_5 rfl fl_X4_12 (or4_coast) ?_
  refine x_callV1n (q := 11) dX4_image_8 rfl ml_X4_129 mv_X0_becomeAs (rv0 isC_25) rfl (p_X0_becomeAs isC_25 isC_1 (by decide) hI.2.1 hI.1) (Nat.le_of_ble_eq_true rfl) ⟨by decide, by decide⟩ ?_
  refine x_aload_n (q := 12) dX4_image_11 rfl rfl ?_
  refine x_iconst (q := 13) (v := 1) dX4_image_12 rfl (by decide) ?_
  refine x_putI (q := 16) dX4_image_13 rfl fl_X4_22 (ob4_keeps) rfl rfl rfl rfl ?_
  refine x_iconst (q := 17) (v := 1) dX4_image_16 rfl (by decide) ?_
  refine x_ireturn dX4_image_17 rfl rfl ?_
  exact ⟨rfl, rfl⟩
theorem dX4_undo_0 : decode cX4_undo 0 = .ok (.aload_n 0, 1) := by decide +kernel
theorem dX4_undo_1 : decode cX4_undo 1 = .ok (.getfield 22, 3) := by decide +kernel
theorem dX4_undo_4 : decode cX4_undo 4 = .ok (.ifCond .ne 10, 3) := by decide +kernel
theorem dX4_undo_7 : decode cX4_undo 7 = .ok (.aload_n 0, 1) := by decide +kernel
theorem dX4_undo_8 : decode cX4_undo 8 = .ok (.ldc 139, 2) := by decide +kernel
theorem dX4_undo_10 : decode cX4_undo 10 = .ok (.invokevirtual 49, 3) := by decide +kernel
theorem dX4_undo_13 : decode cX4_undo 13 = .ok (.ireturn, 1) := by decide +kernel
theorem dX4_undo_14 : decode cX4_undo 14 = .ok (.aload_n 0, 1) := by decide +kernel
theorem dX4_undo_15 : decode cX4_undo 15 = .ok (.getfield 12, 3) := by decide +kernel
theorem dX4_undo_18 : decode cX4_undo 18 = .ok (.aload_n 0, 1) := by decide +kernel
theorem dX4_undo_19 : decode cX4_undo 19 = .ok (.getfield 19, 3) := by decide +kernel
theorem dX4_undo_22 : decode cX4_undo 22 = .ok (.invokevirtual 129, 3) := by decide +kernel
theorem dX4_undo_25 : decode cX4_undo 25 = .ok (.aload_n 0, 1) := by decide +kernel
theorem dX4_undo_26 : decode cX4_undo 26 = .ok (.getfield 12, 3) := by decide +kernel
theorem dX4_undo_29 : decode cX4_undo 29 = .ok (.getfield 97, 3) := by decide +kernel
theorem dX4_undo_32 : decode cX4_undo 32 = .ok (.ireturn, 1) := by decide +kernel
set_option maxRecDepth 20000 in
set_option maxHeartbeats 4000000 in
theorem c_X4_undo {K : Cx} {n8 : Nat} {m : TM} (h0 : ¬ m.1 0 3 = 0) (hI : Iv n8 (m.1 25)) : CT yX4_undo cX4_undo 1 (some .int) 2 52 K [.ref 0] (m) (some (.int (m.1 25 0))) (sr m 1 (bcF (m.1 1) (m.1 25) n8)) := by
  refine ct_ofd (n := 0) (by decide +kernel) rfl rfl ?_
  show XX RX4 cX4_undo 1 (some .int) 2 52 K 0 [some (.ref 0)] [] (m) (fun r1 m1 => r1 = (some (.int (m.1 25 0))) ∧ m1 = sr m 1 (bcF (m.1 1) (m.1 25) n8))
  refine x_aload_n (q := 1) dX4_undo_0 rfl rfl ?_
  refine x_getI (q := 4) dX4_undo_1 rfl fl_X4_22 (ob4_keeps) ?_
  refine x_if_ne (q := 7) (t := 14) dX4_undo_4 rfl (by decide) (fun h4 => ?_) (fun h4 => ?_)
  · refine x_aload_n (q := 15) dX4_undo_14 rfl rfl ?_
    refine x_getR (q := 18) dX4_undo_15 rfl fl_X4_12 (or4_coast) ?_
    refine x_aload_n (q := 19) dX4_undo_18 rfl rfl ?_
    refine x_getR (q := 22) dX4_undo_19 rfl fl_X4_19 (or4_kept) ?_
    refine x_callV1n (q := 25) dX4_undo_22 rfl ml_X4_129 mv_X0_becomeAs (rv0 isC_1) rfl (p_X0_becomeAs isC_1 isC_25 (by decide) hI.2.1 hI.1) (Nat.le_of_ble_eq_true rfl) ⟨by decide, by decide⟩ ?_
    refine x_aload_n (q := 26) dX4_undo_25 rfl rfl ?_
    refine x_getR (q := 29) dX4_undo_26 rfl fl_X4_12 (or4_coast) ?_
    refine x_getI (q := 32) dX4_undo_29 rfl fl_X4_97 (ob0_day isC_1) ?_
    refine x_ireturn dX4_undo_32 rfl rfl ?_
    exact ⟨by rw [sr_at, (bcF_eqv hI.1).lo (by decide)], rfl⟩
  exact absurd h4 h0
set_option maxRecDepth 20000 in
set_option maxHeartbeats 4000000 in
theorem c_X4_undoN {K : Cx} {m : TM} (h0 : m.1 0 3 = 0) : CT yX4_undo cX4_undo 1 (some .int) 2 52 K [.ref 0] (m) (some (.int (-1000004))) (fnd m 3) := by
  refine ct_ofd (n := 0) (by decide +kernel) rfl rfl ?_
  show XX RX4 cX4_undo 1 (some .int) 2 52 K 0 [some (.ref 0)] [] (m) (fun r1 m1 => r1 = (some (.int (-1000004))) ∧ m1 = fnd m 3)
  refine x_aload_n (q := 1) dX4_undo_0 rfl rfl ?_
  refine x_getI (q := 4) dX4_undo_1 rfl fl_X4_22 (ob4_keeps) ?_
  refine x_if_ne (q := 7) (t := 14) dX4_undo_4 rfl (by decide) (fun h4 => ?_) (fun h4 => ?_)
  · exact absurd h0 h4
  refine x_aload_n (q := 8) dX4_undo_7 rfl rfl ?_
  refine x_ldc (q := 10) dX4_undo_8 rfl kc_X4_139 ?_
  refine x_callV1v (q := 13) dX4_undo_10 rfl ml_X4_49 mv_X4_finding rv4 rfl (c_X4_finding (w := 3) (by decide) (by decide)) (Nat.le_of_ble_eq_true rfl) ⟨by decide, by decide⟩ ?_
  refine x_ireturn dX4_undo_13 rfl rfl ?_
  exact ⟨rfl, rfl⟩
theorem dX4_tear_0 : decode cX4_tear 0 = .ok (.aload_n 0, 1) := by decide +kernel
theorem dX4_tear_1 : decode cX4_tear 1 = .ok (.getfield 22, 3) := by decide +kernel
theorem dX4_tear_4 : decode cX4_tear 4 = .ok (.ifCond .eq 7, 3) := by decide +kernel
theorem dX4_tear_7 : decode cX4_tear 7 = .ok (.iconst 1, 1) := by decide +kernel
theorem dX4_tear_8 : decode cX4_tear 8 = .ok (.goto 4, 3) := by decide +kernel
theorem dX4_tear_11 : decode cX4_tear 11 = .ok (.iconst 0, 1) := by decide +kernel
theorem dX4_tear_12 : decode cX4_tear 12 = .ok (.istore_n 1, 1) := by decide +kernel
theorem dX4_tear_13 : decode cX4_tear 13 = .ok (.aload_n 0, 1) := by decide +kernel
theorem dX4_tear_14 : decode cX4_tear 14 = .ok (.iconst 0, 1) := by decide +kernel
theorem dX4_tear_15 : decode cX4_tear 15 = .ok (.putfield 22, 3) := by decide +kernel
theorem dX4_tear_18 : decode cX4_tear 18 = .ok (.iload_n 1, 1) := by decide +kernel
theorem dX4_tear_19 : decode cX4_tear 19 = .ok (.ireturn, 1) := by decide +kernel
set_option maxRecDepth 20000 in
set_option maxHeartbeats 4000000 in
theorem c_X4_tear {K : Cx} {m : TM} : CT yX4_tear cX4_tear 2 (some .int) 0 0 K [.ref 0] (m) (some (.int (if m.1 0 3 = 0 then 0 else 1))) (st1 m 0 3 0) := by
  refine ct_ofd (n := 1) (by decide +kernel) rfl rfl ?_
  show XX RX4 cX4_tear 2 (some .int) 0 0 K 0 [some (.ref 0), none] [] (m) (fun r1 m1 => r1 = (some (.int (if m.1 0 3 = 0 then 0 else 1))) ∧ m1 = st1 m 0 3 0)
  refine x_aload_n (q := 1) dX4_tear_0 rfl rfl ?_
  refine x_getI (q := 4) dX4_tear_1 rfl fl_X4_22 (ob4_keeps) ?_
  refine x_if_eq (q := 7) (t := 11) dX4_tear_4 rfl (by decide) (fun h4 => ?_) (fun h4 => ?_)
  · refine x_iconst (q := 12) (v := 0) dX4_tear_11 rfl (by decide) ?_
    refine x_istore_n (q := 13) dX4_tear_12 rfl (by decide) rfl rfl ?_
    refine x_aload_n (q := 14) dX4_tear_13 rfl rfl ?_
    refine x_iconst (q := 15) (v := 0) dX4_tear_14 rfl (by decide) ?_
    refine x_putI (q := 18) dX4_tear_15 rfl fl_X4_22 (ob4_keeps) rfl rfl rfl rfl ?_
    refine x_iload_n (q := 19) dX4_tear_18 rfl rfl ?_
    refine x_ireturn dX4_tear_19 rfl rfl ?_
    exact ⟨by simp [h4], rfl⟩
  refine x_iconst (q := 8) (v := 1) dX4_tear_7 rfl (by decide) ?_
  refine x_goto (q := 12) dX4_tear_8 (by decide) ?_
  refine x_istore_n (q := 13) dX4_tear_12 rfl (by decide) rfl rfl ?_
  refine x_aload_n (q := 14) dX4_tear_13 rfl rfl ?_
  refine x_iconst (q := 15) (v := 0) dX4_tear_14 rfl (by decide) ?_
  refine x_putI (q := 18) dX4_tear_15 rfl fl_X4_22 (ob4_keeps) rfl rfl rfl rfl ?_
  refine x_iload_n (q := 19) dX4_tear_18 rfl rfl ?_
  refine x_ireturn dX4_tear_19 rfl rfl ?_
  exact ⟨by simp [h4], rfl⟩
theorem dX4_as_0 : decode cX4_as 0 = .ok (.iload_n 1, 1) := by decide +kernel
theorem dX4_as_1 : decode cX4_as 1 = .ok (.iconst 0, 1) := by decide +kernel
theorem dX4_as_2 : decode cX4_as 2 = .ok (.bipush 9, 2) := by decide +kernel
theorem dX4_as_4 : decode cX4_as 4 = .ok (.invokestatic 44, 3) := by decide +kernel
theorem dX4_as_7 : decode cX4_as 7 = .ok (.ifCond .ne 13, 3) := by decide +kernel
theorem dX4_as_10 : decode cX4_as 10 = .ok (.iload_n 2, 1) := by decide +kernel
theorem dX4_as_11 : decode cX4_as 11 = .ok (.iconst 0, 1) := by decide +kernel
theorem dX4_as_12 : decode cX4_as 12 = .ok (.bipush 6, 2) := by decide +kernel
theorem dX4_as_14 : decode cX4_as 14 = .ok (.invokestatic 44, 3) := by decide +kernel
theorem dX4_as_17 : decode cX4_as 17 = .ok (.ifCond .eq 10, 3) := by decide +kernel
theorem dX4_as_20 : decode cX4_as 20 = .ok (.aload_n 0, 1) := by decide +kernel
theorem dX4_as_21 : decode cX4_as 21 = .ok (.ldc 48, 2) := by decide +kernel
theorem dX4_as_23 : decode cX4_as 23 = .ok (.invokevirtual 49, 3) := by decide +kernel
theorem dX4_as_26 : decode cX4_as 26 = .ok (.ireturn, 1) := by decide +kernel
theorem dX4_as_27 : decode cX4_as 27 = .ok (.aload_n 0, 1) := by decide +kernel
theorem dX4_as_28 : decode cX4_as 28 = .ok (.getfield 12, 3) := by decide +kernel
theorem dX4_as_31 : decode cX4_as 31 = .ok (.getfield 177, 3) := by decide +kernel
theorem dX4_as_34 : decode cX4_as 34 = .ok (.iload_n 1, 1) := by decide +kernel
theorem dX4_as_35 : decode cX4_as 35 = .ok (.iaload, 1) := by decide +kernel
theorem dX4_as_36 : decode cX4_as 36 = .ok (.istore_n 3, 1) := by decide +kernel
theorem dX4_as_37 : decode cX4_as 37 = .ok (.aload_n 0, 1) := by decide +kernel
theorem dX4_as_38 : decode cX4_as 38 = .ok (.iload_n 3, 1) := by decide +kernel
theorem dX4_as_39 : decode cX4_as 39 = .ok (.invokevirtual 76, 3) := by decide +kernel
theorem dX4_as_42 : decode cX4_as 42 = .ok (.ifCond .eq 10, 3) := by decide +kernel
theorem dX4_as_45 : decode cX4_as 45 = .ok (.aload_n 0, 1) := by decide +kernel
theorem dX4_as_46 : decode cX4_as 46 = .ok (.ldc 180, 2) := by decide +kernel
theorem dX4_as_48 : decode cX4_as 48 = .ok (.invokevirtual 49, 3) := by decide +kernel
theorem dX4_as_51 : decode cX4_as 51 = .ok (.ireturn, 1) := by decide +kernel
theorem dX4_as_52 : decode cX4_as 52 = .ok (.aload_n 0, 1) := by decide +kernel
theorem dX4_as_53 : decode cX4_as 53 = .ok (.getfield 12, 3) := by decide +kernel
theorem dX4_as_56 : decode cX4_as 56 = .ok (.getfield 80, 3) := by decide +kernel
theorem dX4_as_59 : decode cX4_as 59 = .ok (.iload_n 3, 1) := by decide +kernel
theorem dX4_as_60 : decode cX4_as 60 = .ok (.aaload, 1) := by decide +kernel
theorem dX4_as_61 : decode cX4_as 61 = .ok (.iload_n 2, 1) := by decide +kernel
theorem dX4_as_62 : decode cX4_as 62 = .ok (.invokevirtual 181, 3) := by decide +kernel
theorem dX4_as_65 : decode cX4_as 65 = .ok (.ifCond .eq 7, 3) := by decide +kernel
theorem dX4_as_68 : decode cX4_as 68 = .ok (.iload_n 3, 1) := by decide +kernel
theorem dX4_as_69 : decode cX4_as 69 = .ok (.goto 9, 3) := by decide +kernel
theorem dX4_as_72 : decode cX4_as 72 = .ok (.aload_n 0, 1) := by decide +kernel
theorem dX4_as_73 : decode cX4_as 73 = .ok (.ldc 184, 2) := by decide +kernel
theorem dX4_as_75 : decode cX4_as 75 = .ok (.invokevirtual 49, 3) := by decide +kernel
theorem dX4_as_78 : decode cX4_as 78 = .ok (.ireturn, 1) := by decide +kernel
set_option maxRecDepth 20000 in
set_option maxHeartbeats 4000000 in
theorem c_X4_as {K : Cx} {x v : Int32} {n8 : Nat} {m : TM} (hI : Iv n8 (m.1 1)) : CT yX4_as cX4_as 4 (some .int) 2 44 K [.ref 0, .int x, .int v] (m) (some (.int (if (outI x 0 9 || outI v 0 6) = true then -1000001 else if outI (m.1 1 (68 + cl x)) 0 (m.1 1 1 - 1) = true then -1000006 else if anc 7 (m.1 1 (12 + 7 * cl (m.1 1 (68 + cl x)) + 0)) v = true then m.1 1 (68 + cl x) else -1000003))) (if (outI x 0 9 || outI v 0 6) = true then fnd m 0 else if outI (m.1 1 (68 + cl x)) 0 (m.1 1 1 - 1) = true then fnd m 5 else if anc 7 (m.1 1 (12 + 7 * cl (m.1 1 (68 + cl x)) + 0)) v = true then m else fnd m 2) := by
  refine ct_ofd (n := 1) (by decide +kernel) rfl rfl ?_
  show XX RX4 cX4_as 4 (some .int) 2 44 K 0 [some (.ref 0), some (.int x), some (.int v), none] [] (m) (fun r1 m1 => r1 = (some (.int (if (outI x 0 9 || outI v 0 6) = true then -1000001 else if outI (m.1 1 (68 + cl x)) 0 (m.1 1 1 - 1) = true then -1000006 else if anc 7 (m.1 1 (12 + 7 * cl (m.1 1 (68 + cl x)) + 0)) v = true then m.1 1 (68 + cl x) else -1000003))) ∧ m1 = if (outI x 0 9 || outI v 0 6) = true then fnd m 0 else if outI (m.1 1 (68 + cl x)) 0 (m.1 1 1 - 1) = true then fnd m 5 else if anc 7 (m.1 1 (12 + 7 * cl (m.1 1 (68 + cl x)) + 0)) v = true then m else fnd m 2)
  refine x_iload_n (q := 1) dX4_as_0 rfl rfl ?_
  refine x_iconst (q := 2) (v := 0) dX4_as_1 rfl (by decide) ?_
  refine x_bipush (q := 4) (v := 9) dX4_as_2 rfl (by decide) ?_
  refine x_callS3v (q := 7) dX4_as_4 rfl ml_X4_44 ms_X4_isOut c_X4_isOut (Nat.le_of_ble_eq_true rfl) ⟨by decide, by decide⟩ ?_
  refine x_ifB_ne (q := 10) (t := 20) dX4_as_7 rfl (by decide) (fun h7 => ?_) (fun h7 => ?_)
  · refine x_aload_n (q := 21) dX4_as_20 rfl rfl ?_
    refine x_ldc (q := 23) dX4_as_21 rfl kc_X4_48 ?_
    refine x_callV1v (q := 26) dX4_as_23 rfl ml_X4_49 mv_X4_finding rv4 rfl (c_X4_finding (w := 0) (by decide) (by decide)) (Nat.le_of_ble_eq_true rfl) ⟨by decide, by decide⟩ ?_
    refine x_ireturn dX4_as_26 rfl rfl ?_
    exact ⟨by simp [h7], by simp [h7]⟩
  refine x_iload_n (q := 11) dX4_as_10 rfl rfl ?_
  refine x_iconst (q := 12) (v := 0) dX4_as_11 rfl (by decide) ?_
  refine x_bipush (q := 14) (v := 6) dX4_as_12 rfl (by decide) ?_
  refine x_callS3v (q := 17) dX4_as_14 rfl ml_X4_44 ms_X4_isOut c_X4_isOut (Nat.le_of_ble_eq_true rfl) ⟨by decide, by decide⟩ ?_
  refine x_ifB_eq (q := 20) (t := 27) dX4_as_17 rfl (by decide) (fun h17 => ?_) (fun h17 => ?_)
  · refine x_aload_n (q := 28) dX4_as_27 rfl rfl ?_
    refine x_getR (q := 31) dX4_as_28 rfl fl_X4_12 (or4_coast) ?_
    refine x_getR (q := 34) dX4_as_31 rfl fl_X4_177 (or0_spots isC_1) ?_
    refine x_iload_n (q := 35) dX4_as_34 rfl rfl ?_
    refine x_iald (q := 36) dX4_as_35 rfl (ar_spots isC_1) (ix_out h7 (by decide)) rfl ?_
    refine x_istore_n (q := 37) dX4_as_36 rfl (by decide) rfl rfl ?_
    refine x_aload_n (q := 38) dX4_as_37 rfl rfl ?_
    refine x_iload_n (q := 39) dX4_as_38 rfl rfl ?_
    refine x_callV1v (q := 42) dX4_as_39 rfl ml_X4_76 mv_X4_isNoParcel rv4 rfl c_X4_isNoParcel (Nat.le_of_ble_eq_true rfl) ⟨by decide, by decide⟩ ?_
    refine x_ifB_eq (q := 45) (t := 52) dX4_as_42 rfl (by decide) (fun h42 => ?_) (fun h42 => ?_)
    · refine x_aload_n (q := 53) dX4_as_52 rfl rfl ?_
      refine x_getR (q := 56) dX4_as_53 rfl fl_X4_12 (or4_coast) ?_
      refine x_getR (q := 59) dX4_as_56 rfl fl_X4_80 (or0_slip isC_1) ?_
      refine x_iload_n (q := 60) dX4_as_59 rfl rfl ?_
      refine x_slip (q := 61) dX4_as_60 rfl isC_1 (par_k hI.2.1 hI.1 h42).1 ?_
      refine x_iload_n (q := 62) dX4_as_61 rfl rfl ?_
      refine x_callV1v (q := 65) dX4_as_62 rfl ml_X4_181 mv_X1_isA (rv1 isC_1 (par_k hI.2.1 hI.1 h42).1.2.2) rfl (p_X1_isA isC_1 (par_k hI.2.1 hI.1 h42).1.2.2) (Nat.le_of_ble_eq_true rfl) ⟨by decide, by decide⟩ ?_
      refine x_ifB_eq (q := 68) (t := 72) dX4_as_65 rfl (by decide) (fun h65 => ?_) (fun h65 => ?_)
      · refine x_aload_n (q := 73) dX4_as_72 rfl rfl ?_
        refine x_ldc (q := 75) dX4_as_73 rfl kc_X4_184 ?_
        refine x_callV1v (q := 78) dX4_as_75 rfl ml_X4_49 mv_X4_finding rv4 rfl (c_X4_finding (w := 2) (by decide) (by decide)) (Nat.le_of_ble_eq_true rfl) ⟨by decide, by decide⟩ ?_
        refine x_ireturn dX4_as_78 rfl rfl ?_
        exact ⟨by rw [if_neg (by rw [h7, h17]; decide), if_neg (by rw [h42]; decide), if_neg (by rw [h65]; decide)], by rw [if_neg (by rw [h7, h17]; decide), if_neg (by rw [h42]; decide), if_neg (by rw [h65]; decide)]⟩
      refine x_iload_n (q := 69) dX4_as_68 rfl rfl ?_
      refine x_goto (q := 78) dX4_as_69 (by decide) ?_
      refine x_ireturn dX4_as_78 rfl rfl ?_
      exact ⟨by rw [if_neg (by rw [h7, h17]; decide), if_neg (by rw [h42]; decide), if_pos h65], by rw [if_neg (by rw [h7, h17]; decide), if_neg (by rw [h42]; decide), if_pos h65]⟩
    refine x_aload_n (q := 46) dX4_as_45 rfl rfl ?_
    refine x_ldc (q := 48) dX4_as_46 rfl kc_X4_180 ?_
    refine x_callV1v (q := 51) dX4_as_48 rfl ml_X4_49 mv_X4_finding rv4 rfl (c_X4_finding (w := 5) (by decide) (by decide)) (Nat.le_of_ble_eq_true rfl) ⟨by decide, by decide⟩ ?_
    refine x_ireturn dX4_as_51 rfl rfl ?_
    exact ⟨by simp [h7, h17, h42], by simp [h7, h17, h42]⟩
  refine x_aload_n (q := 21) dX4_as_20 rfl rfl ?_
  refine x_ldc (q := 23) dX4_as_21 rfl kc_X4_48 ?_
  refine x_callV1v (q := 26) dX4_as_23 rfl ml_X4_49 mv_X4_finding rv4 rfl (c_X4_finding (w := 0) (by decide) (by decide)) (Nat.le_of_ble_eq_true rfl) ⟨by decide, by decide⟩ ?_
  refine x_ireturn dX4_as_26 rfl rfl ?_
  exact ⟨by simp [h7, h17], by simp [h7, h17]⟩
