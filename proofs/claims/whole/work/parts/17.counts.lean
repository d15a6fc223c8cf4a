/-! days, draws, counts -/
theorem out_rng {x : Int32} {a b : Nat} (ha : a < 2147483648) (hb : b < 2147483648) (h : outI x (nI a) (nI b) = false) : ∃ c, a ≤ c ∧ c ≤ b ∧ x = nI c := by
  unfold outI at h
  rw [Bool.or_eq_false_iff] at h
  have h1 := of_decide_eq_false h.1
  have h2 := of_decide_eq_false h.2
  have h0 : ¬ x < 0 := by
    intro q
    apply h1
    rw [Int32.lt_iff_toInt_lt] at q ⊢
    rw [jnI_toInt ha]
    have z0 : (0 : Int32).toInt = 0 := by decide
    rw [z0] at q
    omega
  have e := jnI_of h0
  have e2 := toInt_clamp h0
  rw [Int32.lt_iff_toInt_lt, jnI_toInt ha] at h1
  rw [Int32.lt_iff_toInt_lt, jnI_toInt hb] at h2
  exact ⟨x.toNatClampNeg, by omega, by omega, e⟩
theorem Iv.upd_lo {n i : Nat} {s : Nat → Int32} {v : Int32} (h : Iv n s) (hi : i < 12) (h0 : i ≠ 0) (h1 : i ≠ 1) (h4 : i ≠ 4) : Iv n (upd s i v) := by
  obtain ⟨h8, e1, hd, hl, hp, hs⟩ := h
  refine ⟨h8, by rw [upd_ne (Ne.symm h1), e1], by rw [upd_ne (Ne.symm h0)]; exact hd, by rw [upd_ne (Ne.symm h4)]; exact hl, fun k hk => ?_, fun j hj => ?_⟩
  · rw [upd_ne (by omega), upd_ne (by omega)]
    exact hp k hk
  · rw [upd_ne (by omega)]
    exact hs j hj
theorem dr_nI (z : Int32) : ∃ q, q < 16777216 ∧ dr z = nI q := by
  have hb : (nz z).toBitVec.toNat >>> 8 < 16777216 := by
    rw [Nat.shiftRight_eq_div_pow]
    have := (nz z).toBitVec.isLt
    omega
  refine ⟨(nz z).toBitVec.toNat >>> 8, hb, ?_⟩
  unfold dr nI
  apply Int32.toBitVec_inj.1
  apply BitVec.eq_of_toNat_eq
  simp
  rw [Nat.mod_eq_of_lt (by omega)]
def rm21 (x : Int32) : Int32 := x - x / 21 * 21
theorem ix_dr (z : Int32) : IX (rm6 (dr z)) (cl (rm6 (dr z))) 6 := by
  obtain ⟨q, hq, e⟩ := dr_nI z
  rw [e, rm6_nI (by omega)]
  have h6 : q % 6 < 6 := Nat.mod_lt _ (by decide)
  have e2 : cl (nI (q % 6)) = q % 6 := jnI_clamp (by omega)
  rw [e2]
  exact ix_nI h6 (by decide)
/-- a swell: two draws, then a day -/
def sw1 (u : Nat → Int32) : Nat → Int32 := upd (upd (upd u 2 (nz (u 2))) 2 (nz (nz (u 2)))) (6 + cl (rm6 (dr (u 2)))) (rm21 (dr (nz (u 2))))
def swF (n8 : Nat) : Nat → (Nat → Int32) → Nat → Int32
  | 0, u => u
  | c + 1, u => swF n8 c (dyC (sw1 u) n8)
theorem Iv.sw1 {n : Nat} {u : Nat → Int32} (h : Iv n u) : Iv n (sw1 u) := by
  have hx := (ix_dr (u 2)).2.2
  exact ((h.upd_lo (by decide) (by decide) (by decide) (by decide)).upd_lo (by decide) (by decide) (by decide) (by decide)).upd_lo (by omega) (by omega) (by omega) (by omega)
theorem Iv.sw {n : Nat} : ∀ (c : Nat) {u : Nat → Int32}, Iv n u → Iv n (swF n c u)
  | 0, _, h => h
  | c + 1, _, h => Iv.sw c h.sw1.day
theorem sw1_eqv {n : Nat} {s u : Nat → Int32} (h : Eqv n s u) : Eqv n (sw1 s) (sw1 u) := by
  unfold sw1
  rw [h.lo (i := 2) (by decide)]
  exact eqv_upd (eqv_upd (eqv_upd h))
theorem swF_eqv {n : Nat} : ∀ (c : Nat) {s u : Nat → Int32}, Eqv n s u → Iv n s → Eqv n (swF n c s) (swF n c u)
  | 0, _, _, h, _ => h
  | c + 1, _, _, h, hI => swF_eqv c ((sw1_eqv h).day hI.sw1) hI.sw1.day
def us (x k : Int32) : Int32 := (x.toUInt32 >>> (k.toUInt32 &&& Int32.toUInt32 31)).toInt32
def bc1 (x : Int32) : Int32 := x - (us x 1 &&& 1431655765)
def bc2 (y : Int32) : Int32 := (y &&& 858993459) + (us y 2 &&& 858993459)
def bc3 (y : Int32) : Int32 := (y + us y 4) &&& 252645135
def bc4 (y : Int32) : Int32 := y + us y 8
def bc5 (y : Int32) : Int32 := y + us y 16
def bcnt (x : Int32) : Int32 := bc5 (bc4 (bc3 (bc2 (bc1 x)))) &&& 63
theorem bcnt_bt : ∀ y, y < 256 → bcnt (nI y) = nI (bt 9 y) := by decide +kernel
def spM (s : Nat → Int32) : Nat → Int32
  | 0 => 0
  | j + 1 => if s (68 + j) < 0 then spM s j else spM s j + 1
theorem spM_spF {n : Nat} {s : Nat → Int32} (h : Iv n s) : ∀ j, j ≤ 10 → spM s j = spF s j
  | 0, _ => rfl
  | j + 1, hj => by
    have e := spM_spF h j (by omega)
    unfold spM spF
    rcases h.2.2.2.2.2 j (by omega) with q | ⟨k, hk, q⟩
    · rw [q, if_pos (by decide), if_pos rfl, e]
    · have h8 := h.1
      rw [q, if_neg (jnI_nneg (by omega)), if_neg, e]
      intro z
      have := congrArg Int32.toInt z
      rw [jnI_toInt (by omega), show (-1 : Int32).toInt = -1 by decide] at this
      omega
theorem spF_congr {n : Nat} {s u : Nat → Int32} (h : Eqv n s u) : ∀ j, j ≤ 10 → spF s j = spF u j
  | 0, _ => rfl
  | j + 1, hj => by unfold spF; rw [h.sp (by omega), spF_congr h j (by omega)]
def suF (r : Nat → Int32) : Nat → Int32
  | 0 => 0
  | j + 1 => suF r j + r j
def suM (r : Nat → Int32) (x : Int32) : Nat → Int32
  | 0 => 0
  | j + 1 => if x = -1 ∨ x = nI j then suM r x j + r j else suM r x j
theorem suM_all (r : Nat → Int32) : ∀ j, suM r (-1) j = suF r j
  | 0 => rfl
  | j + 1 => by unfold suM suF; rw [if_pos (Or.inl rfl), suM_all r j]
theorem suM_out {r : Nat → Int32} {c : Nat} (hc : c < 7) : ∀ j, j ≤ 7 → suM r (nI c) j = if c < j then r c else 0
  | 0, _ => rfl
  | j + 1, hj => by
    have e := suM_out (r := r) hc j (by omega)
    unfold suM
    have hm : ¬ nI c = -1 := by
      intro z
      have := congrArg Int32.toInt z
      rw [jnI_toInt (by omega), show (-1 : Int32).toInt = -1 by decide] at this
      omega
    by_cases h : c = j
    · subst h
      rw [if_pos (Or.inr rfl), e, if_neg (by omega), if_pos (by omega)]
      apply Int32.toBitVec_inj.1; simp
    · rw [if_neg (by rintro (q | q); exact hm q; exact h ((jnI_inj (by omega) (by omega)).mp q)), e]
      by_cases h2 : c < j
      · rw [if_pos h2, if_pos (by omega)]
      · rw [if_neg h2, if_neg (by omega)]
theorem suF_congr {r u : Nat → Int32} : ∀ j, j ≤ 7 → (∀ i, i < 7 → r i = u i) → suF r j = suF u j
  | 0, _, _ => rfl
  | j + 1, hj, h => by unfold suF; rw [suF_congr j (by omega) h, h j (by omega)]
theorem dX4_go_0 : decode cX4_go 0 = .ok (.iload_n 1, 1) := by decide +kernel
theorem dX4_go_1 : decode cX4_go 1 = .ok (.iconst 1, 1) := by decide +kernel
theorem dX4_go_2 : decode cX4_go 2 = .ok (.bipush 60, 2) := by decide +kernel
theorem dX4_go_4 : decode cX4_go 4 = .ok (.invokestatic 44, 3) := by decide +kernel
theorem dX4_go_7 : decode cX4_go 7 = .ok (.ifCond .eq 10, 3) := by decide +kernel
theorem dX4_go_10 : decode cX4_go 10 = .ok (.aload_n 0, 1) := by decide +kernel
theorem dX4_go_11 : decode cX4_go 11 = .ok (.ldc 48, 2) := by decide +kernel
theorem dX4_go_13 : decode cX4_go 13 = .ok (.invokevirtual 49, 3) := by decide +kernel
theorem dX4_go_16 : decode cX4_go 16 = .ok (.ireturn, 1) := by decide +kernel
theorem dX4_go_17 : decode cX4_go 17 = .ok (.aload_n 0, 1) := by decide +kernel
theorem dX4_go_18 : decode cX4_go 18 = .ok (.getfield 12, 3) := by decide +kernel
theorem dX4_go_21 : decode cX4_go 21 = .ok (.getfield 97, 3) := by decide +kernel
theorem dX4_go_24 : decode cX4_go 24 = .ok (.ldc 107, 2) := by decide +kernel
theorem dX4_go_26 : decode cX4_go 26 = .ok (.iload_n 1, 1) := by decide +kernel
theorem dX4_go_27 : decode cX4_go 27 = .ok (.isub, 1) := by decide +kernel
theorem dX4_go_28 : decode cX4_go 28 = .ok (.if_icmp .le 10, 3) := by decide +kernel
theorem dX4_go_31 : decode cX4_go 31 = .ok (.aload_n 0, 1) := by decide +kernel
theorem dX4_go_32 : decode cX4_go 32 = .ok (.ldc 108, 2) := by decide +kernel
theorem dX4_go_34 : decode cX4_go 34 = .ok (.invokevirtual 49, 3) := by decide +kernel
theorem dX4_go_37 : decode cX4_go 37 = .ok (.ireturn, 1) := by decide +kernel
theorem dX4_go_38 : decode cX4_go 38 = .ok (.aload_n 0, 1) := by decide +kernel
theorem dX4_go_39 : decode cX4_go 39 = .ok (.getfield 12, 3) := by decide +kernel
theorem dX4_go_42 : decode cX4_go 42 = .ok (.iload_n 1, 1) := by decide +kernel
theorem dX4_go_43 : decode cX4_go 43 = .ok (.invokevirtual 109, 3) := by decide +kernel
theorem dX4_go_46 : decode cX4_go 46 = .ok (.aload_n 0, 1) := by decide +kernel
theorem dX4_go_47 : decode cX4_go 47 = .ok (.getfield 12, 3) := by decide +kernel
theorem dX4_go_50 : decode cX4_go 50 = .ok (.iconst 1, 1) := by decide +kernel
theorem dX4_go_51 : decode cX4_go 51 = .ok (.invokevirtual 113, 3) := by decide +kernel
theorem dX4_go_54 : decode cX4_go 54 = .ok (.ireturn, 1) := by decide +kernel
set_option maxRecDepth 20000 in
set_option maxHeartbeats 4000000 in
theorem c_X4_go {K : Cx} {x : Int32} {n8 : Nat} {m : TM} (hI : Iv n8 (m.1 1)) : CT yX4_go cX4_go 2 (some .int) 5 109 K [.ref 0, .int x] (m) (some (.int ((if (outI x 1 60) = true then -1000001 else (if m.1 1 0 ≤ 99999 - x then thF (dysC n8 (cl x) (m.1 1)) 1 n8 else -1000005))))) ((if (outI x 1 60) = true then fnd m 0 else (if m.1 1 0 ≤ 99999 - x then sr m 1 (dysC n8 (cl x) (m.1 1)) else fnd m 4))) := by
  refine ct_ofd (n := 0) (by decide +kernel) rfl rfl ?_
  show XX RX4 cX4_go 2 (some .int) 5 109 K 0 [some (.ref 0), some (.int x)] [] (m) (fun r1 m1 => r1 = (some (.int ((if (outI x 1 60) = true then -1000001 else (if m.1 1 0 ≤ 99999 - x then thF (dysC n8 (cl x) (m.1 1)) 1 n8 else -1000005))))) ∧ m1 = (if (outI x 1 60) = true then fnd m 0 else (if m.1 1 0 ≤ 99999 - x then sr m 1 (dysC n8 (cl x) (m.1 1)) else fnd m 4)))
  refine x_iload_n (q := 1) dX4_go_0 rfl rfl ?_
  refine x_iconst (q := 2) (v := 1) dX4_go_1 rfl (by decide) ?_
  refine x_bipush (q := 4) (v := 60) dX4_go_2 rfl (by decide) ?_
  refine x_callS3v (q := 7) dX4_go_4 rfl ml_X4_44 ms_X4_isOut c_X4_isOut (Nat.le_of_ble_eq_true rfl) ⟨by decide, by decide⟩ ?_
  refine x_ifB_eq (q := 10) (t := 17) dX4_go_7 rfl (by decide) (fun h7 => ?_) (fun h7 => ?_)
  · refine x_aload_n (q := 18) dX4_go_17 rfl rfl ?_
    refine x_getR (q := 21) dX4_go_18 rfl fl_X4_12 (or4_coast) ?_
    refine x_getI (q := 24) dX4_go_21 rfl fl_X4_97 (ob0_day isC_1) ?_
    refine x_ldc (q := 26) dX4_go_24 rfl kc_X4_107 ?_
    refine x_iload_n (q := 27) dX4_go_26 rfl rfl ?_
    refine x_isub (q := 28) dX4_go_27 rfl ?_
    refine x_icmp_le (q := 31) (t := 38) dX4_go_28 rfl (by decide) (fun h28 => ?_) (fun h28 => ?_)
    · obtain ⟨c, hc1, hc2, rfl⟩ := out_rng (a := 1) (b := 60) (by decide) (by decide) h7
      have ec : cl (nI c) = c := jnI_clamp (by omega)
      refine x_aload_n (q := 39) dX4_go_38 rfl rfl ?_
      refine x_getR (q := 42) dX4_go_39 rfl fl_X4_12 (or4_coast) ?_
      refine x_iload_n (q := 43) dX4_go_42 rfl rfl ?_
      refine x_callV1n (q := 46) dX4_go_43 rfl ml_X4_109 mv_X0_passDays (rv0 isC_1) rfl (p_X0_passDays isC_1 (by omega) hI) (Nat.le_of_ble_eq_true rfl) ⟨by decide, by decide⟩ ?_
      refine x_aload_n (q := 47) dX4_go_46 rfl rfl ?_
      refine x_getR (q := 50) dX4_go_47 rfl fl_X4_12 (or4_coast) ?_
      refine x_iconst (q := 51) (v := 1) dX4_go_50 rfl (by decide) ?_
      refine x_callV1v (q := 54) dX4_go_51 rfl ml_X4_113 mv_X0_allThatAre (rv0 isC_1) rfl (c_X0_allThatAre isC_1 (hI.days c).2.1 hI.1) (Nat.le_of_ble_eq_true rfl) ⟨by decide, by decide⟩ ?_
      refine x_ireturn dX4_go_54 rfl rfl ?_
      exact ⟨by rw [if_neg (by rw [h7]; decide), if_pos h28, ec], by rw [if_neg (by rw [h7]; decide), if_pos h28, ec]⟩
    refine x_aload_n (q := 32) dX4_go_31 rfl rfl ?_
    refine x_ldc (q := 34) dX4_go_32 rfl kc_X4_108 ?_
    refine x_callV1v (q := 37) dX4_go_34 rfl ml_X4_49 mv_X4_finding rv4 rfl (c_X4_finding (w := 4) (by decide) (by decide)) (Nat.le_of_ble_eq_true rfl) ⟨by decide, by decide⟩ ?_
    refine x_ireturn dX4_go_37 rfl rfl ?_
    exact ⟨by simp [h7, h28], by simp [h7, h28]⟩
  refine x_aload_n (q := 11) dX4_go_10 rfl rfl ?_
  refine x_ldc (q := 13) dX4_go_11 rfl kc_X4_48 ?_
  refine x_callV1v (q := 16) dX4_go_13 rfl ml_X4_49 mv_X4_finding rv4 rfl (c_X4_finding (w := 0) (by decide) (by decide)) (Nat.le_of_ble_eq_true rfl) ⟨by decide, by decide⟩ ?_
  refine x_ireturn dX4_go_16 rfl rfl ?_
  exact ⟨by simp [h7], by simp [h7]⟩
theorem dX5_go_0 : decode cX5_go 0 = .ok (.iload_n 1, 1) := by decide +kernel
theorem dX5_go_1 : decode cX5_go 1 = .ok (.iconst 1, 1) := by decide +kernel
theorem dX5_go_2 : decode cX5_go 2 = .ok (.bipush 60, 2) := by decide +kernel
theorem dX5_go_4 : decode cX5_go 4 = .ok (.invokestatic 48, 3) := by decide +kernel
theorem dX5_go_7 : decode cX5_go 7 = .ok (.ifCond .ne 9, 3) := by decide +kernel
theorem dX5_go_10 : decode cX5_go 10 = .ok (.aload_n 0, 1) := by decide +kernel
theorem dX5_go_11 : decode cX5_go 11 = .ok (.iconst 0, 1) := by decide +kernel
theorem dX5_go_12 : decode cX5_go 12 = .ok (.invokevirtual 103, 3) := by decide +kernel
theorem dX5_go_15 : decode cX5_go 15 = .ok (.ireturn, 1) := by decide +kernel
theorem dX5_go_16 : decode cX5_go 16 = .ok (.aload_n 0, 1) := by decide +kernel
theorem dX5_go_17 : decode cX5_go 17 = .ok (.getfield 9, 3) := by decide +kernel
theorem dX5_go_20 : decode cX5_go 20 = .ok (.iconst 0, 1) := by decide +kernel
theorem dX5_go_21 : decode cX5_go 21 = .ok (.iaload, 1) := by decide +kernel
theorem dX5_go_22 : decode cX5_go 22 = .ok (.iload_n 1, 1) := by decide +kernel
theorem dX5_go_23 : decode cX5_go 23 = .ok (.iadd, 1) := by decide +kernel
theorem dX5_go_24 : decode cX5_go 24 = .ok (.ldc 64, 2) := by decide +kernel
theorem dX5_go_26 : decode cX5_go 26 = .ok (.if_icmp .le 9, 3) := by decide +kernel
theorem dX5_go_29 : decode cX5_go 29 = .ok (.aload_n 0, 1) := by decide +kernel
theorem dX5_go_30 : decode cX5_go 30 = .ok (.iconst 4, 1) := by decide +kernel
theorem dX5_go_31 : decode cX5_go 31 = .ok (.invokevirtual 103, 3) := by decide +kernel
theorem dX5_go_34 : decode cX5_go 34 = .ok (.ireturn, 1) := by decide +kernel
theorem dX5_go_35 : decode cX5_go 35 = .ok (.aload_n 0, 1) := by decide +kernel
theorem dX5_go_36 : decode cX5_go 36 = .ok (.iload_n 1, 1) := by decide +kernel
theorem dX5_go_37 : decode cX5_go 37 = .ok (.invokevirtual 115, 3) := by decide +kernel
theorem dX5_go_40 : decode cX5_go 40 = .ok (.aload_n 0, 1) := by decide +kernel
theorem dX5_go_41 : decode cX5_go 41 = .ok (.iconst 1, 1) := by decide +kernel
theorem dX5_go_42 : decode cX5_go 42 = .ok (.invokevirtual 118, 3) := by decide +kernel
theorem dX5_go_45 : decode cX5_go 45 = .ok (.ireturn, 1) := by decide +kernel
set_option maxRecDepth 20000 in
set_option maxHeartbeats 4000000 in
theorem c_X5_go {K : Cx} {x : Int32} {n8 : Nat} {m : TM} (hI : Iv n8 (m.1 50)) : CT yX5_go cX5_go 2 (some .int) 5 113 K [.ref 49, .int x] (m) (some (.int ((if (outI x 1 60) = true then -1000001 else (if m.1 50 0 + x ≤ 99999 then thF (dysC n8 (cl x) (m.1 50)) 1 n8 else -1000005))))) ((if (outI x 1 60) = true then fnm m 0 else (if m.1 50 0 + x ≤ 99999 then sr m 50 (dysC n8 (cl x) (m.1 50)) else fnm m 4))) := by
  refine ct_ofd (n := 0) (by decide +kernel) rfl rfl ?_
  show XX RX5 cX5_go 2 (some .int) 5 113 K 0 [some (.ref 49), some (.int x)] [] (m) (fun r1 m1 => r1 = (some (.int ((if (outI x 1 60) = true then -1000001 else (if m.1 50 0 + x ≤ 99999 then thF (dysC n8 (cl x) (m.1 50)) 1 n8 else -1000005))))) ∧ m1 = (if (outI x 1 60) = true then fnm m 0 else (if m.1 50 0 + x ≤ 99999 then sr m 50 (dysC n8 (cl x) (m.1 50)) else fnm m 4)))
  refine x_iload_n (q := 1) dX5_go_0 rfl rfl ?_
  refine x_iconst (q := 2) (v := 1) dX5_go_1 rfl (by decide) ?_
  refine x_bipush (q := 4) (v := 60) dX5_go_2 rfl (by decide) ?_
  refine x_callS3v (q := 7) dX5_go_4 rfl ml_X5_48 ms_X5_in1 c_X5_in1 (Nat.le_of_ble_eq_true rfl) ⟨by decide, by decide⟩ ?_
  refine x_ifB_ne (q := 10) (t := 16) dX5_go_7 rfl (by decide) (fun h7 => ?_) (fun h7 => ?_)
  · replace h7 := in_t h7
    refine x_aload_n (q := 17) dX5_go_16 rfl rfl ?_
    refine x_getR (q := 20) dX5_go_17 rfl fl_X5_9 (or5_s) ?_
    refine x_iconst (q := 21) (v := 0) dX5_go_20 rfl (by decide) ?_
    refine x_iald (q := 22) dX5_go_21 rfl (ar_50) (ix_nI (k := 0) (by decide) (by decide)) (Nat.zero_add _) ?_
    refine x_iload_n (q := 23) dX5_go_22 rfl rfl ?_
    refine x_iadd (q := 24) dX5_go_23 rfl ?_
    refine x_ldc (q := 26) dX5_go_24 rfl kc_X5_64 ?_
    refine x_icmp_le (q := 29) (t := 35) dX5_go_26 rfl (by decide) (fun h26 => ?_) (fun h26 => ?_)
    · obtain ⟨c, hc1, hc2, rfl⟩ := out_rng (a := 1) (b := 60) (by decide) (by decide) h7
      have ec : cl (nI c) = c := jnI_clamp (by omega)
      refine x_aload_n (q := 36) dX5_go_35 rfl rfl ?_
      refine x_iload_n (q := 37) dX5_go_36 rfl rfl ?_
      refine x_callV1n (q := 40) dX5_go_37 rfl ml_X5_115 mv_X5_goes rv5 rfl (p_X5_goes (by omega) hI) (Nat.le_of_ble_eq_true rfl) ⟨by decide, by decide⟩ ?_
      refine x_aload_n (q := 41) dX5_go_40 rfl rfl ?_
      refine x_iconst (q := 42) (v := 1) dX5_go_41 rfl (by decide) ?_
      refine x_callV1v (q := 45) dX5_go_42 rfl ml_X5_118 mv_X5_those rv5 rfl (c_X5_those (hI.days c).2.1 hI.1) (Nat.le_of_ble_eq_true rfl) ⟨by decide, by decide⟩ ?_
      refine x_ireturn dX5_go_45 rfl rfl ?_
      exact ⟨by rw [if_neg (by rw [h7]; decide), if_pos h26, ec], by rw [if_neg (by rw [h7]; decide), if_pos h26, ec]⟩
    refine x_aload_n (q := 30) dX5_go_29 rfl rfl ?_
    refine x_iconst (q := 31) (v := 4) dX5_go_30 rfl (by decide) ?_
    refine x_callV1v (q := 34) dX5_go_31 rfl ml_X5_103 mv_X5_no rv5 rfl (c_X5_nox (w := 4) (x := -1000005) (by decide) (by decide)) (Nat.le_of_ble_eq_true rfl) ⟨by decide, by decide⟩ ?_
    refine x_ireturn dX5_go_34 rfl rfl ?_
    exact ⟨by simp [h7, h26], by simp [h7, h26]⟩
  replace h7 := in_f h7
  refine x_aload_n (q := 11) dX5_go_10 rfl rfl ?_
  refine x_iconst (q := 12) (v := 0) dX5_go_11 rfl (by decide) ?_
  refine x_callV1v (q := 15) dX5_go_12 rfl ml_X5_103 mv_X5_no rv5 rfl (c_X5_nox (w := 0) (x := -1000001) (by decide) (by decide)) (Nat.le_of_ble_eq_true rfl) ⟨by decide, by decide⟩ ?_
  refine x_ireturn dX5_go_15 rfl rfl ?_
  exact ⟨by simp [h7], by simp [h7]⟩
theorem dX4_swell_0 : decode cX4_swell 0 = .ok (.iload_n 1, 1) := by decide +kernel
theorem dX4_swell_1 : decode cX4_swell 1 = .ok (.iconst 1, 1) := by decide +kernel
theorem dX4_swell_2 : decode cX4_swell 2 = .ok (.bipush 20, 2) := by decide +kernel
theorem dX4_swell_4 : decode cX4_swell 4 = .ok (.invokestatic 44, 3) := by decide +kernel
theorem dX4_swell_7 : decode cX4_swell 7 = .ok (.ifCond .eq 10, 3) := by decide +kernel
theorem dX4_swell_10 : decode cX4_swell 10 = .ok (.aload_n 0, 1) := by decide +kernel
theorem dX4_swell_11 : decode cX4_swell 11 = .ok (.ldc 48, 2) := by decide +kernel
theorem dX4_swell_13 : decode cX4_swell 13 = .ok (.invokevirtual 49, 3) := by decide +kernel
theorem dX4_swell_16 : decode cX4_swell 16 = .ok (.ireturn, 1) := by decide +kernel
theorem dX4_swell_17 : decode cX4_swell 17 = .ok (.aload_n 0, 1) := by decide +kernel
theorem dX4_swell_18 : decode cX4_swell 18 = .ok (.getfield 12, 3) := by decide +kernel
theorem dX4_swell_21 : decode cX4_swell 21 = .ok (.getfield 97, 3) := by decide +kernel
theorem dX4_swell_24 : decode cX4_swell 24 = .ok (.ldc 107, 2) := by decide +kernel
theorem dX4_swell_26 : decode cX4_swell 26 = .ok (.iload_n 1, 1) := by decide +kernel
theorem dX4_swell_27 : decode cX4_swell 27 = .ok (.isub, 1) := by decide +kernel
theorem dX4_swell_28 : decode cX4_swell 28 = .ok (.if_icmp .le 10, 3) := by decide +kernel
theorem dX4_swell_31 : decode cX4_swell 31 = .ok (.aload_n 0, 1) := by decide +kernel
theorem dX4_swell_32 : decode cX4_swell 32 = .ok (.ldc 108, 2) := by decide +kernel
theorem dX4_swell_34 : decode cX4_swell 34 = .ok (.invokevirtual 49, 3) := by decide +kernel
theorem dX4_swell_37 : decode cX4_swell 37 = .ok (.ireturn, 1) := by decide +kernel
theorem dX4_swell_38 : decode cX4_swell 38 = .ok (.iconst 0, 1) := by decide +kernel
theorem dX4_swell_39 : decode cX4_swell 39 = .ok (.istore_n 2, 1) := by decide +kernel
theorem dX4_swell_40 : decode cX4_swell 40 = .ok (.iload_n 2, 1) := by decide +kernel
theorem dX4_swell_41 : decode cX4_swell 41 = .ok (.iload_n 1, 1) := by decide +kernel
theorem dX4_swell_42 : decode cX4_swell 42 = .ok (.if_icmp .ge 46, 3) := by decide +kernel
theorem dX4_swell_45 : decode cX4_swell 45 = .ok (.aload_n 0, 1) := by decide +kernel
theorem dX4_swell_46 : decode cX4_swell 46 = .ok (.getfield 12, 3) := by decide +kernel
theorem dX4_swell_49 : decode cX4_swell 49 = .ok (.invokevirtual 160, 3) := by decide +kernel
theorem dX4_swell_52 : decode cX4_swell 52 = .ok (.bipush 6, 2) := by decide +kernel
theorem dX4_swell_54 : decode cX4_swell 54 = .ok (.irem, 1) := by decide +kernel
theorem dX4_swell_55 : decode cX4_swell 55 = .ok (.istore_n 3, 1) := by decide +kernel
theorem dX4_swell_56 : decode cX4_swell 56 = .ok (.aload_n 0, 1) := by decide +kernel
theorem dX4_swell_57 : decode cX4_swell 57 = .ok (.getfield 12, 3) := by decide +kernel
theorem dX4_swell_60 : decode cX4_swell 60 = .ok (.getfield 53, 3) := by decide +kernel
theorem dX4_swell_63 : decode cX4_swell 63 = .ok (.iload_n 3, 1) := by decide +kernel
theorem dX4_swell_64 : decode cX4_swell 64 = .ok (.aload_n 0, 1) := by decide +kernel
theorem dX4_swell_65 : decode cX4_swell 65 = .ok (.getfield 12, 3) := by decide +kernel
theorem dX4_swell_68 : decode cX4_swell 68 = .ok (.invokevirtual 160, 3) := by decide +kernel
theorem dX4_swell_71 : decode cX4_swell 71 = .ok (.bipush 21, 2) := by decide +kernel
theorem dX4_swell_73 : decode cX4_swell 73 = .ok (.irem, 1) := by decide +kernel
theorem dX4_swell_74 : decode cX4_swell 74 = .ok (.iastore, 1) := by decide +kernel
theorem dX4_swell_75 : decode cX4_swell 75 = .ok (.aload_n 0, 1) := by decide +kernel
theorem dX4_swell_76 : decode cX4_swell 76 = .ok (.getfield 12, 3) := by decide +kernel
theorem dX4_swell_79 : decode cX4_swell 79 = .ok (.invokevirtual 136, 3) := by decide +kernel
theorem dX4_swell_82 : decode cX4_swell 82 = .ok (.iinc 2 1, 3) := by decide +kernel
theorem dX4_swell_85 : decode cX4_swell 85 = .ok (.goto (-45), 3) := by decide +kernel
theorem dX4_swell_88 : decode cX4_swell 88 = .ok (.aload_n 0, 1) := by decide +kernel
theorem dX4_swell_89 : decode cX4_swell 89 = .ok (.getfield 12, 3) := by decide +kernel
theorem dX4_swell_92 : decode cX4_swell 92 = .ok (.iconst 1, 1) := by decide +kernel
theorem dX4_swell_93 : decode cX4_swell 93 = .ok (.invokevirtual 113, 3) := by decide +kernel
theorem dX4_swell_96 : decode cX4_swell 96 = .ok (.ireturn, 1) := by decide +kernel
set_option maxRecDepth 20000 in
set_option maxHeartbeats 4000000 in
theorem l_X4_swell {K : Cx} {n8 c : Nat} {m : TM} (hc : c ≤ 100) : ∀ (n : Nat) (j : Nat) (u : Nat → Int32), c - j < n → j ≤ c → Iv n8 u → XX RX4 cX4_swell 4 (some .int) 4 87 K 40 [some (.ref 0), some (.int (nI c)), some (.int (nI j)), none] [] (sr m 1 u) (fun r1 m1 => r1 = (some (.int (thF (swF n8 (c - j) u) 1 n8))) ∧ m1 = sr m 1 (swF n8 (c - j) u)) := by
  intro n
  induction n with
  | zero => intro j u hlt; exact absurd hlt (Nat.not_lt_zero _)
  | succ n ih =>
    intro j u hlt hj hI
    refine x_iload_n (q := 41) dX4_swell_40 rfl rfl ?_
    refine x_iload_n (q := 42) dX4_swell_41 rfl rfl ?_
    refine x_icmp_ge (q := 45) (t := 88) dX4_swell_42 rfl (by decide) (fun h42 => ?_) (fun h42 => ?_)
    · have e : j = c := Nat.le_antisymm hj (lp_stop rfl (by omega) (by omega) h42)
      subst e
      refine x_aload_n (q := 89) dX4_swell_88 rfl rfl ?_
      refine x_getR (q := 92) dX4_swell_89 rfl fl_X4_12 (or4_coast) ?_
      refine x_iconst (q := 93) (v := 1) dX4_swell_92 rfl (by decide) ?_
      refine x_callV1v (q := 96) dX4_swell_93 rfl ml_X4_113 mv_X0_allThatAre (rv0 isC_1) rfl (c_X0_allThatAre isC_1 hI.2.1 hI.1) (Nat.le_of_ble_eq_true rfl) ⟨by decide, by decide⟩ ?_
      refine x_ireturn dX4_swell_96 rfl rfl ?_
      exact ⟨by rw [Nat.sub_self]; rfl, by rw [Nat.sub_self]; rfl⟩
    have hjn : j < c := lp_go rfl (by omega) (by omega) h42
    refine x_aload_n (q := 46) dX4_swell_45 rfl rfl ?_
    refine x_getR (q := 49) dX4_swell_46 rfl fl_X4_12 (or4_coast) ?_
    refine x_callV0v (q := 52) dX4_swell_49 rfl ml_X4_160 mv_X0_nextDraw (rv0 isC_1) rfl (c_X0_nextDraw isC_1) (Nat.le_of_ble_eq_true rfl) ⟨by decide, by decide⟩ ?_
    refine x_bipush (q := 54) (v := 6) dX4_swell_52 rfl (by decide) ?_
    refine x_irem (q := 55) dX4_swell_54 rfl (by decide) ?_
    refine x_istore_n (q := 56) dX4_swell_55 rfl (by decide) rfl rfl ?_
    refine x_aload_n (q := 57) dX4_swell_56 rfl rfl ?_
    refine x_getR (q := 60) dX4_swell_57 rfl fl_X4_12 (or4_coast) ?_
    refine x_getR (q := 63) dX4_swell_60 rfl fl_X4_53 (or0_list isC_1) ?_
    refine x_iload_n (q := 64) dX4_swell_63 rfl rfl ?_
    refine x_aload_n (q := 65) dX4_swell_64 rfl rfl ?_
    refine x_getR (q := 68) dX4_swell_65 rfl fl_X4_12 (or4_coast) ?_
    refine x_callV0v (q := 71) dX4_swell_68 rfl ml_X4_160 mv_X0_nextDraw (rv0 isC_1) rfl (c_X0_nextDraw isC_1) (Nat.le_of_ble_eq_true rfl) ⟨by decide, by decide⟩ ?_
    refine x_bipush (q := 73) (v := 21) dX4_swell_71 rfl (by decide) ?_
    refine x_irem (q := 74) dX4_swell_73 rfl (by decide) ?_
    refine x_iastr (q := 75) dX4_swell_74 rfl (ar_list isC_1) (ix_dr (u 2)) rfl  ?_
    rw [upd_self (i := 2)]
    refine x_aload_n (q := 76) dX4_swell_75 rfl rfl ?_
    refine x_getR (q := 79) dX4_swell_76 rfl fl_X4_12 (or4_coast) ?_
    refine x_callV0n (q := 82) dX4_swell_79 rfl ml_X4_136 mv_X0_passDay (rv0 isC_1) rfl (c_X0_passDay isC_1 hI.sw1.2.1 hI.1 hI.sw1.td) (Nat.le_of_ble_eq_true rfl) ⟨by decide, by decide⟩ ?_
    refine x_iinc (q := 85) (v := nI (j + 1)) dX4_swell_82 rfl rfl (jnI_s j) (by decide) rfl rfl ?_
    refine x_goto (q := 40) dX4_swell_85 (by decide) ?_
    have e : c - j = (c - (j + 1)) + 1 := by omega
    rw [e]
    exact x_ls (ih (j + 1) (dyC (sw1 u) n8) (by omega) (by omega) hI.sw1.day) (And.intro rfl (And.intro rfl (And.intro rfl trivial)))
set_option maxRecDepth 20000 in
set_option maxHeartbeats 4000000 in
theorem c_X4_swell {K : Cx} {x : Int32} {n8 : Nat} {m : TM} (hI : Iv n8 (m.1 1)) : CT yX4_swell cX4_swell 4 (some .int) 4 87 K [.ref 0, .int x] (m) (some (.int ((if (outI x 1 20) = true then -1000001 else (if m.1 1 0 ≤ 99999 - x then thF (swF n8 (cl x) (m.1 1)) 1 n8 else -1000005))))) ((if (outI x 1 20) = true then fnd m 0 else (if m.1 1 0 ≤ 99999 - x then sr m 1 (swF n8 (cl x) (m.1 1)) else fnd m 4))) := by
  refine ct_ofd (n := 2) (by decide +kernel) rfl rfl ?_
  show XX RX4 cX4_swell 4 (some .int) 4 87 K 0 [some (.ref 0), some (.int x), none, none] [] (m) (fun r1 m1 => r1 = (some (.int ((if (outI x 1 20) = true then -1000001 else (if m.1 1 0 ≤ 99999 - x then thF (swF n8 (cl x) (m.1 1)) 1 n8 else -1000005))))) ∧ m1 = (if (outI x 1 20) = true then fnd m 0 else (if m.1 1 0 ≤ 99999 - x then sr m 1 (swF n8 (cl x) (m.1 1)) else fnd m 4)))
  refine x_iload_n (q := 1) dX4_swell_0 rfl rfl ?_
  refine x_iconst (q := 2) (v := 1) dX4_swell_1 rfl (by decide) ?_
  refine x_bipush (q := 4) (v := 20) dX4_swell_2 rfl (by decide) ?_
  refine x_callS3v (q := 7) dX4_swell_4 rfl ml_X4_44 ms_X4_isOut c_X4_isOut (Nat.le_of_ble_eq_true rfl) ⟨by decide, by decide⟩ ?_
  refine x_ifB_eq (q := 10) (t := 17) dX4_swell_7 rfl (by decide) (fun h7 => ?_) (fun h7 => ?_)
  · refine x_aload_n (q := 18) dX4_swell_17 rfl rfl ?_
    refine x_getR (q := 21) dX4_swell_18 rfl fl_X4_12 (or4_coast) ?_
    refine x_getI (q := 24) dX4_swell_21 rfl fl_X4_97 (ob0_day isC_1) ?_
    refine x_ldc (q := 26) dX4_swell_24 rfl kc_X4_107 ?_
    refine x_iload_n (q := 27) dX4_swell_26 rfl rfl ?_
    refine x_isub (q := 28) dX4_swell_27 rfl ?_
    refine x_icmp_le (q := 31) (t := 38) dX4_swell_28 rfl (by decide) (fun h28 => ?_) (fun h28 => ?_)
    · obtain ⟨c, hc1, hc2, rfl⟩ := out_rng (a := 1) (b := 20) (by decide) (by decide) h7
      have ec : cl (nI c) = c := jnI_clamp (by omega)
      refine x_iconst (q := 39) (v := 0) dX4_swell_38 rfl (by decide) ?_
      refine x_istore_n (q := 40) dX4_swell_39 rfl (by decide) rfl rfl ?_
      simp only [h7, h28, Bool.false_eq_true, if_false, if_true, ec]
      have h := l_X4_swell (K := K) (m := m) (c := c) (by omega) (c + 1) 0 (m.1 1) (by omega) (by omega) hI
      rw [sr_self] at h
      exact h
    refine x_aload_n (q := 32) dX4_swell_31 rfl rfl ?_
    refine x_ldc (q := 34) dX4_swell_32 rfl kc_X4_108 ?_
    refine x_callV1v (q := 37) dX4_swell_34 rfl ml_X4_49 mv_X4_finding rv4 rfl (c_X4_finding (w := 4) (by decide) (by decide)) (Nat.le_of_ble_eq_true rfl) ⟨by decide, by decide⟩ ?_
    refine x_ireturn dX4_swell_37 rfl rfl ?_
    exact ⟨by simp [h7, h28], by simp [h7, h28]⟩
  refine x_aload_n (q := 11) dX4_swell_10 rfl rfl ?_
  refine x_ldc (q := 13) dX4_swell_11 rfl kc_X4_48 ?_
  refine x_callV1v (q := 16) dX4_swell_13 rfl ml_X4_49 mv_X4_finding rv4 rfl (c_X4_finding (w := 0) (by decide) (by decide)) (Nat.le_of_ble_eq_true rfl) ⟨by decide, by decide⟩ ?_
  refine x_ireturn dX4_swell_16 rfl rfl ?_
  exact ⟨by simp [h7], by simp [h7]⟩
theorem dX5_swell_0 : decode cX5_swell 0 = .ok (.iload_n 1, 1) := by decide +kernel
theorem dX5_swell_1 : decode cX5_swell 1 = .ok (.iconst 1, 1) := by decide +kernel
theorem dX5_swell_2 : decode cX5_swell 2 = .ok (.bipush 20, 2) := by decide +kernel
theorem dX5_swell_4 : decode cX5_swell 4 = .ok (.invokestatic 48, 3) := by decide +kernel
theorem dX5_swell_7 : decode cX5_swell 7 = .ok (.ifCond .ne 9, 3) := by decide +kernel
theorem dX5_swell_10 : decode cX5_swell 10 = .ok (.aload_n 0, 1) := by decide +kernel
theorem dX5_swell_11 : decode cX5_swell 11 = .ok (.iconst 0, 1) := by decide +kernel
theorem dX5_swell_12 : decode cX5_swell 12 = .ok (.invokevirtual 103, 3) := by decide +kernel
theorem dX5_swell_15 : decode cX5_swell 15 = .ok (.ireturn, 1) := by decide +kernel
theorem dX5_swell_16 : decode cX5_swell 16 = .ok (.aload_n 0, 1) := by decide +kernel
theorem dX5_swell_17 : decode cX5_swell 17 = .ok (.getfield 9, 3) := by decide +kernel
theorem dX5_swell_20 : decode cX5_swell 20 = .ok (.iconst 0, 1) := by decide +kernel
theorem dX5_swell_21 : decode cX5_swell 21 = .ok (.iaload, 1) := by decide +kernel
theorem dX5_swell_22 : decode cX5_swell 22 = .ok (.iload_n 1, 1) := by decide +kernel
theorem dX5_swell_23 : decode cX5_swell 23 = .ok (.iadd, 1) := by decide +kernel
theorem dX5_swell_24 : decode cX5_swell 24 = .ok (.ldc 64, 2) := by decide +kernel
theorem dX5_swell_26 : decode cX5_swell 26 = .ok (.if_icmp .le 9, 3) := by decide +kernel
theorem dX5_swell_29 : decode cX5_swell 29 = .ok (.aload_n 0, 1) := by decide +kernel
theorem dX5_swell_30 : decode cX5_swell 30 = .ok (.iconst 4, 1) := by decide +kernel
theorem dX5_swell_31 : decode cX5_swell 31 = .ok (.invokevirtual 103, 3) := by decide +kernel
theorem dX5_swell_34 : decode cX5_swell 34 = .ok (.ireturn, 1) := by decide +kernel
theorem dX5_swell_35 : decode cX5_swell 35 = .ok (.iconst 0, 1) := by decide +kernel
theorem dX5_swell_36 : decode cX5_swell 36 = .ok (.istore_n 2, 1) := by decide +kernel
theorem dX5_swell_37 : decode cX5_swell 37 = .ok (.iload_n 2, 1) := by decide +kernel
theorem dX5_swell_38 : decode cX5_swell 38 = .ok (.iload_n 1, 1) := by decide +kernel
theorem dX5_swell_39 : decode cX5_swell 39 = .ok (.if_icmp .ge 37, 3) := by decide +kernel
theorem dX5_swell_42 : decode cX5_swell 42 = .ok (.aload_n 0, 1) := by decide +kernel
theorem dX5_swell_43 : decode cX5_swell 43 = .ok (.invokevirtual 172, 3) := by decide +kernel
theorem dX5_swell_46 : decode cX5_swell 46 = .ok (.bipush 6, 2) := by decide +kernel
theorem dX5_swell_48 : decode cX5_swell 48 = .ok (.irem, 1) := by decide +kernel
theorem dX5_swell_49 : decode cX5_swell 49 = .ok (.istore_n 3, 1) := by decide +kernel
theorem dX5_swell_50 : decode cX5_swell 50 = .ok (.aload_n 0, 1) := by decide +kernel
theorem dX5_swell_51 : decode cX5_swell 51 = .ok (.getfield 9, 3) := by decide +kernel
theorem dX5_swell_54 : decode cX5_swell 54 = .ok (.bipush 6, 2) := by decide +kernel
theorem dX5_swell_56 : decode cX5_swell 56 = .ok (.iload_n 3, 1) := by decide +kernel
theorem dX5_swell_57 : decode cX5_swell 57 = .ok (.iadd, 1) := by decide +kernel
theorem dX5_swell_58 : decode cX5_swell 58 = .ok (.aload_n 0, 1) := by decide +kernel
theorem dX5_swell_59 : decode cX5_swell 59 = .ok (.invokevirtual 172, 3) := by decide +kernel
theorem dX5_swell_62 : decode cX5_swell 62 = .ok (.bipush 21, 2) := by decide +kernel
theorem dX5_swell_64 : decode cX5_swell 64 = .ok (.irem, 1) := by decide +kernel
theorem dX5_swell_65 : decode cX5_swell 65 = .ok (.iastore, 1) := by decide +kernel
theorem dX5_swell_66 : decode cX5_swell 66 = .ok (.aload_n 0, 1) := by decide +kernel
theorem dX5_swell_67 : decode cX5_swell 67 = .ok (.invokevirtual 93, 3) := by decide +kernel
theorem dX5_swell_70 : decode cX5_swell 70 = .ok (.iinc 2 1, 3) := by decide +kernel
theorem dX5_swell_73 : decode cX5_swell 73 = .ok (.goto (-36), 3) := by decide +kernel
theorem dX5_swell_76 : decode cX5_swell 76 = .ok (.aload_n 0, 1) := by decide +kernel
theorem dX5_swell_77 : decode cX5_swell 77 = .ok (.iconst 1, 1) := by decide +kernel
theorem dX5_swell_78 : decode cX5_swell 78 = .ok (.invokevirtual 118, 3) := by decide +kernel
theorem dX5_swell_81 : decode cX5_swell 81 = .ok (.ireturn, 1) := by decide +kernel
set_option maxRecDepth 20000 in
set_option maxHeartbeats 4000000 in
theorem l_X5_swell {K : Cx} {n8 c : Nat} {m : TM} (hc : c ≤ 100) : ∀ (n : Nat) (j : Nat) (u : Nat → Int32), c - j < n → j ≤ c → Iv n8 u → XX RX5 cX5_swell 4 (some .int) 4 91 K 37 [some (.ref 49), some (.int (nI c)), some (.int (nI j)), none] [] (sr m 50 u) (fun r1 m1 => r1 = (some (.int (thF (swF n8 (c - j) u) 1 n8))) ∧ m1 = sr m 50 (swF n8 (c - j) u)) := by
  intro n
  induction n with
  | zero => intro j u hlt; exact absurd hlt (Nat.not_lt_zero _)
  | succ n ih =>
    intro j u hlt hj hI
    refine x_iload_n (q := 38) dX5_swell_37 rfl rfl ?_
    refine x_iload_n (q := 39) dX5_swell_38 rfl rfl ?_
    refine x_icmp_ge (q := 42) (t := 76) dX5_swell_39 rfl (by decide) (fun h39 => ?_) (fun h39 => ?_)
    · have e : j = c := Nat.le_antisymm hj (lp_stop rfl (by omega) (by omega) h39)
      subst e
      refine x_aload_n (q := 77) dX5_swell_76 rfl rfl ?_
      refine x_iconst (q := 78) (v := 1) dX5_swell_77 rfl (by decide) ?_
      refine x_callV1v (q := 81) dX5_swell_78 rfl ml_X5_118 mv_X5_those rv5 rfl (c_X5_those hI.2.1 hI.1) (Nat.le_of_ble_eq_true rfl) ⟨by decide, by decide⟩ ?_
      refine x_ireturn dX5_swell_81 rfl rfl ?_
      exact ⟨by rw [Nat.sub_self]; rfl, by rw [Nat.sub_self]; rfl⟩
    have hjn : j < c := lp_go rfl (by omega) (by omega) h39
    refine x_aload_n (q := 43) dX5_swell_42 rfl rfl ?_
    refine x_callV0v (q := 46) dX5_swell_43 rfl ml_X5_172 mv_X5_draw rv5 rfl c_X5_draw (Nat.le_of_ble_eq_true rfl) ⟨by decide, by decide⟩ ?_
    refine x_bipush (q := 48) (v := 6) dX5_swell_46 rfl (by decide) ?_
    refine x_irem (q := 49) dX5_swell_48 rfl (by decide) ?_
    refine x_istore_n (q := 50) dX5_swell_49 rfl (by decide) rfl rfl ?_
    refine x_aload_n (q := 51) dX5_swell_50 rfl rfl ?_
    refine x_getR (q := 54) dX5_swell_51 rfl fl_X5_9 (or5_s) ?_
    refine x_bipush (q := 56) (v := 6) dX5_swell_54 rfl (by decide) ?_
    refine x_iload_n (q := 57) dX5_swell_56 rfl rfl ?_
    refine x_iadd (q := 58) dX5_swell_57 rfl ?_
    refine x_aload_n (q := 59) dX5_swell_58 rfl rfl ?_
    refine x_callV0v (q := 62) dX5_swell_59 rfl ml_X5_172 mv_X5_draw rv5 rfl c_X5_draw (Nat.le_of_ble_eq_true rfl) ⟨by decide, by decide⟩ ?_
    refine x_bipush (q := 64) (v := 21) dX5_swell_62 rfl (by decide) ?_
    refine x_irem (q := 65) dX5_swell_64 rfl (by decide) ?_
    refine x_iastr (q := 66) dX5_swell_65 rfl (ar_50) (ix_off 6 (ix_dr (u 2)) (by decide) (by decide)) (Nat.zero_add _)  ?_
    rw [upd_self (i := 2)]
    refine x_aload_n (q := 67) dX5_swell_66 rfl rfl ?_
    refine x_callV0n (q := 70) dX5_swell_67 rfl ml_X5_93 mv_X5_day rv5 rfl (c_X5_day hI.sw1) (Nat.le_of_ble_eq_true rfl) ⟨by decide, by decide⟩ ?_
    refine x_iinc (q := 73) (v := nI (j + 1)) dX5_swell_70 rfl rfl (jnI_s j) (by decide) rfl rfl ?_
    refine x_goto (q := 37) dX5_swell_73 (by decide) ?_
    have e : c - j = (c - (j + 1)) + 1 := by omega
    rw [e]
    exact x_ls (ih (j + 1) (dyC (sw1 u) n8) (by omega) (by omega) hI.sw1.day) (And.intro rfl (And.intro rfl (And.intro rfl trivial)))
set_option maxRecDepth 20000 in
set_option maxHeartbeats 4000000 in
theorem c_X5_swell {K : Cx} {x : Int32} {n8 : Nat} {m : TM} (hI : Iv n8 (m.1 50)) : CT yX5_swell cX5_swell 4 (some .int) 4 91 K [.ref 49, .int x] (m) (some (.int ((if (outI x 1 20) = true then -1000001 else (if m.1 50 0 + x ≤ 99999 then thF (swF n8 (cl x) (m.1 50)) 1 n8 else -1000005))))) ((if (outI x 1 20) = true then fnm m 0 else (if m.1 50 0 + x ≤ 99999 then sr m 50 (swF n8 (cl x) (m.1 50)) else fnm m 4))) := by
  refine ct_ofd (n := 2) (by decide +kernel) rfl rfl ?_
  show XX RX5 cX5_swell 4 (some .int) 4 91 K 0 [some (.ref 49), some (.int x), none, none] [] (m) (fun r1 m1 => r1 = (some (.int ((if (outI x 1 20) = true then -1000001 else (if m.1 50 0 + x ≤ 99999 then thF (swF n8 (cl x) (m.1 50)) 1 n8 else -1000005))))) ∧ m1 = (if (outI x 1 20) = true then fnm m 0 else (if m.1 50 0 + x ≤ 99999 then sr m 50 (swF n8 (cl x) (m.1 50)) else fnm m 4)))
  refine x_iload_n (q := 1) dX5_swell_0 rfl rfl ?_
  refine x_iconst (q := 2) (v := 1) dX5_swell_1 rfl (by decide) ?_
  refine x_bipush (q := 4) (v := 20) dX5_swell_2 rfl (by decide) ?_
  refine x_callS3v (q := 7) dX5_swell_4 rfl ml_X5_48 ms_X5_in1 c_X5_in1 (Nat.le_of_ble_eq_true rfl) ⟨by decide, by decide⟩ ?_
  refine x_ifB_ne (q := 10) (t := 16) dX5_swell_7 rfl (by decide) (fun h7 => ?_) (fun h7 => ?_)
  · replace h7 := in_t h7
    refine x_aload_n (q := 17) dX5_swell_16 rfl rfl ?_
    refine x_getR (q := 20) dX5_swell_17 rfl fl_X5_9 (or5_s) ?_
    refine x_iconst (q := 21) (v := 0) dX5_swell_20 rfl (by decide) ?_
    refine x_iald (q := 22) dX5_swell_21 rfl (ar_50) (ix_nI (k := 0) (by decide) (by decide)) (Nat.zero_add _) ?_
    refine x_iload_n (q := 23) dX5_swell_22 rfl rfl ?_
    refine x_iadd (q := 24) dX5_swell_23 rfl ?_
    refine x_ldc (q := 26) dX5_swell_24 rfl kc_X5_64 ?_
    refine x_icmp_le (q := 29) (t := 35) dX5_swell_26 rfl (by decide) (fun h26 => ?_) (fun h26 => ?_)
    · obtain ⟨c, hc1, hc2, rfl⟩ := out_rng (a := 1) (b := 20) (by decide) (by decide) h7
      have ec : cl (nI c) = c := jnI_clamp (by omega)
      refine x_iconst (q := 36) (v := 0) dX5_swell_35 rfl (by decide) ?_
      refine x_istore_n (q := 37) dX5_swell_36 rfl (by decide) rfl rfl ?_
      simp only [h7, h26, Bool.false_eq_true, if_false, if_true, ec]
      have h := l_X5_swell (K := K) (m := m) (c := c) (by omega) (c + 1) 0 (m.1 50) (by omega) (by omega) hI
      rw [sr_self] at h
      exact h
    refine x_aload_n (q := 30) dX5_swell_29 rfl rfl ?_
    refine x_iconst (q := 31) (v := 4) dX5_swell_30 rfl (by decide) ?_
    refine x_callV1v (q := 34) dX5_swell_31 rfl ml_X5_103 mv_X5_no rv5 rfl (c_X5_nox (w := 4) (x := -1000005) (by decide) (by decide)) (Nat.le_of_ble_eq_true rfl) ⟨by decide, by decide⟩ ?_
    refine x_ireturn dX5_swell_34 rfl rfl ?_
    exact ⟨by simp [h7, h26], by simp [h7, h26]⟩
  replace h7 := in_f h7
  refine x_aload_n (q := 11) dX5_swell_10 rfl rfl ?_
  refine x_iconst (q := 12) (v := 0) dX5_swell_11 rfl (by decide) ?_
  refine x_callV1v (q := 15) dX5_swell_12 rfl ml_X5_103 mv_X5_no rv5 rfl (c_X5_nox (w := 0) (x := -1000001) (by decide) (by decide)) (Nat.le_of_ble_eq_true rfl) ⟨by decide, by decide⟩ ?_
  refine x_ireturn dX5_swell_15 rfl rfl ?_
  exact ⟨by simp [h7], by simp [h7]⟩
theorem dJ6_bitCount_0f7a4_0 : decode cJ6_bitCount_0f7a4 0 = .ok (.iload_n 0, 1) := by decide +kernel
theorem dJ6_bitCount_0f7a4_1 : decode cJ6_bitCount_0f7a4 1 = .ok (.iload_n 0, 1) := by decide +kernel
theorem dJ6_bitCount_0f7a4_2 : decode cJ6_bitCount_0f7a4 2 = .ok (.iconst 1, 1) := by decide +kernel
theorem dJ6_bitCount_0f7a4_3 : decode cJ6_bitCount_0f7a4 3 = .ok (.iushr, 1) := by decide +kernel
theorem dJ6_bitCount_0f7a4_4 : decode cJ6_bitCount_0f7a4 4 = .ok (.ldc_w 265, 3) := by decide +kernel
theorem dJ6_bitCount_0f7a4_7 : decode cJ6_bitCount_0f7a4 7 = .ok (.iand, 1) := by decide +kernel
theorem dJ6_bitCount_0f7a4_8 : decode cJ6_bitCount_0f7a4 8 = .ok (.isub, 1) := by decide +kernel
theorem dJ6_bitCount_0f7a4_9 : decode cJ6_bitCount_0f7a4 9 = .ok (.istore_n 0, 1) := by decide +kernel
theorem dJ6_bitCount_0f7a4_10 : decode cJ6_bitCount_0f7a4 10 = .ok (.iload_n 0, 1) := by decide +kernel
theorem dJ6_bitCount_0f7a4_11 : decode cJ6_bitCount_0f7a4 11 = .ok (.ldc_w 266, 3) := by decide +kernel
theorem dJ6_bitCount_0f7a4_14 : decode cJ6_bitCount_0f7a4 14 = .ok (.iand, 1) := by decide +kernel
theorem dJ6_bitCount_0f7a4_15 : decode cJ6_bitCount_0f7a4 15 = .ok (.iload_n 0, 1) := by decide +kernel
theorem dJ6_bitCount_0f7a4_16 : decode cJ6_bitCount_0f7a4 16 = .ok (.iconst 2, 1) := by decide +kernel
theorem dJ6_bitCount_0f7a4_17 : decode cJ6_bitCount_0f7a4 17 = .ok (.iushr, 1) := by decide +kernel
theorem dJ6_bitCount_0f7a4_18 : decode cJ6_bitCount_0f7a4 18 = .ok (.ldc_w 266, 3) := by decide +kernel
theorem dJ6_bitCount_0f7a4_21 : decode cJ6_bitCount_0f7a4 21 = .ok (.iand, 1) := by decide +kernel
theorem dJ6_bitCount_0f7a4_22 : decode cJ6_bitCount_0f7a4 22 = .ok (.iadd, 1) := by decide +kernel
theorem dJ6_bitCount_0f7a4_23 : decode cJ6_bitCount_0f7a4 23 = .ok (.istore_n 0, 1) := by decide +kernel
theorem dJ6_bitCount_0f7a4_24 : decode cJ6_bitCount_0f7a4 24 = .ok (.iload_n 0, 1) := by decide +kernel
theorem dJ6_bitCount_0f7a4_25 : decode cJ6_bitCount_0f7a4 25 = .ok (.iload_n 0, 1) := by decide +kernel
theorem dJ6_bitCount_0f7a4_26 : decode cJ6_bitCount_0f7a4 26 = .ok (.iconst 4, 1) := by decide +kernel
theorem dJ6_bitCount_0f7a4_27 : decode cJ6_bitCount_0f7a4 27 = .ok (.iushr, 1) := by decide +kernel
theorem dJ6_bitCount_0f7a4_28 : decode cJ6_bitCount_0f7a4 28 = .ok (.iadd, 1) := by decide +kernel
theorem dJ6_bitCount_0f7a4_29 : decode cJ6_bitCount_0f7a4 29 = .ok (.ldc_w 267, 3) := by decide +kernel
theorem dJ6_bitCount_0f7a4_32 : decode cJ6_bitCount_0f7a4 32 = .ok (.iand, 1) := by decide +kernel
theorem dJ6_bitCount_0f7a4_33 : decode cJ6_bitCount_0f7a4 33 = .ok (.istore_n 0, 1) := by decide +kernel
theorem dJ6_bitCount_0f7a4_34 : decode cJ6_bitCount_0f7a4 34 = .ok (.iload_n 0, 1) := by decide +kernel
theorem dJ6_bitCount_0f7a4_35 : decode cJ6_bitCount_0f7a4 35 = .ok (.iload_n 0, 1) := by decide +kernel
theorem dJ6_bitCount_0f7a4_36 : decode cJ6_bitCount_0f7a4 36 = .ok (.bipush 8, 2) := by decide +kernel
theorem dJ6_bitCount_0f7a4_38 : decode cJ6_bitCount_0f7a4 38 = .ok (.iushr, 1) := by decide +kernel
theorem dJ6_bitCount_0f7a4_39 : decode cJ6_bitCount_0f7a4 39 = .ok (.iadd, 1) := by decide +kernel
theorem dJ6_bitCount_0f7a4_40 : decode cJ6_bitCount_0f7a4 40 = .ok (.istore_n 0, 1) := by decide +kernel
theorem dJ6_bitCount_0f7a4_41 : decode cJ6_bitCount_0f7a4 41 = .ok (.iload_n 0, 1) := by decide +kernel
theorem dJ6_bitCount_0f7a4_42 : decode cJ6_bitCount_0f7a4 42 = .ok (.iload_n 0, 1) := by decide +kernel
theorem dJ6_bitCount_0f7a4_43 : decode cJ6_bitCount_0f7a4 43 = .ok (.bipush 16, 2) := by decide +kernel
theorem dJ6_bitCount_0f7a4_45 : decode cJ6_bitCount_0f7a4 45 = .ok (.iushr, 1) := by decide +kernel
theorem dJ6_bitCount_0f7a4_46 : decode cJ6_bitCount_0f7a4 46 = .ok (.iadd, 1) := by decide +kernel
theorem dJ6_bitCount_0f7a4_47 : decode cJ6_bitCount_0f7a4 47 = .ok (.istore_n 0, 1) := by decide +kernel
theorem dJ6_bitCount_0f7a4_48 : decode cJ6_bitCount_0f7a4 48 = .ok (.iload_n 0, 1) := by decide +kernel
theorem dJ6_bitCount_0f7a4_49 : decode cJ6_bitCount_0f7a4 49 = .ok (.bipush 63, 2) := by decide +kernel
theorem dJ6_bitCount_0f7a4_51 : decode cJ6_bitCount_0f7a4 51 = .ok (.iand, 1) := by decide +kernel
theorem dJ6_bitCount_0f7a4_52 : decode cJ6_bitCount_0f7a4 52 = .ok (.ireturn, 1) := by decide +kernel
set_option maxRecDepth 20000 in
set_option maxHeartbeats 4000000 in
theorem c_J6_bitCount_0f7a4 {K : Cx} {x : Int32} {m : TM} : CT yJ6_bitCount_0f7a4 cJ6_bitCount_0f7a4 1 (some .int) 0 0 K [.int x] (m) (some (.int (bcnt x))) (m) := by
  refine ct_ofd (n := 0) (by decide +kernel) rfl rfl ?_
  show XX RJ6 cJ6_bitCount_0f7a4 1 (some .int) 0 0 K 0 [some (.int x)] [] (m) (fun r1 m1 => r1 = (some (.int (bcnt x))) ∧ m1 = m)
  refine x_iload_n (q := 1) dJ6_bitCount_0f7a4_0 rfl rfl ?_
  refine x_iload_n (q := 2) dJ6_bitCount_0f7a4_1 rfl rfl ?_
  refine x_iconst (q := 3) (v := 1) dJ6_bitCount_0f7a4_2 rfl (by decide) ?_
  refine x_iushr (q := 4) dJ6_bitCount_0f7a4_3 rfl ?_
  refine x_ldc_w (q := 7) dJ6_bitCount_0f7a4_4 rfl kc_J6_265 ?_
  refine x_iand (q := 8) dJ6_bitCount_0f7a4_7 rfl ?_
  refine x_isub (q := 9) dJ6_bitCount_0f7a4_8 rfl ?_
  refine x_istore_n (q := 10) dJ6_bitCount_0f7a4_9 rfl (by decide) rfl rfl ?_
  refine x_iload_n (q := 11) dJ6_bitCount_0f7a4_10 rfl rfl ?_
  refine x_ldc_w (q := 14) dJ6_bitCount_0f7a4_11 rfl kc_J6_266 ?_
  refine x_iand (q := 15) dJ6_bitCount_0f7a4_14 rfl ?_
  refine x_iload_n (q := 16) dJ6_bitCount_0f7a4_15 rfl rfl ?_
  refine x_iconst (q := 17) (v := 2) dJ6_bitCount_0f7a4_16 rfl (by decide) ?_
  refine x_iushr (q := 18) dJ6_bitCount_0f7a4_17 rfl ?_
  refine x_ldc_w (q := 21) dJ6_bitCount_0f7a4_18 rfl kc_J6_266 ?_
  refine x_iand (q := 22) dJ6_bitCount_0f7a4_21 rfl ?_
  refine x_iadd (q := 23) dJ6_bitCount_0f7a4_22 rfl ?_
  refine x_istore_n (q := 24) dJ6_bitCount_0f7a4_23 rfl (by decide) rfl rfl ?_
  refine x_iload_n (q := 25) dJ6_bitCount_0f7a4_24 rfl rfl ?_
  refine x_iload_n (q := 26) dJ6_bitCount_0f7a4_25 rfl rfl ?_
  refine x_iconst (q := 27) (v := 4) dJ6_bitCount_0f7a4_26 rfl (by decide) ?_
  refine x_iushr (q := 28) dJ6_bitCount_0f7a4_27 rfl ?_
  refine x_iadd (q := 29) dJ6_bitCount_0f7a4_28 rfl ?_
  refine x_ldc_w (q := 32) dJ6_bitCount_0f7a4_29 rfl kc_J6_267 ?_
  refine x_iand (q := 33) dJ6_bitCount_0f7a4_32 rfl ?_
  refine x_istore_n (q := 34) dJ6_bitCount_0f7a4_33 rfl (by decide) rfl rfl ?_
  refine x_iload_n (q := 35) dJ6_bitCount_0f7a4_34 rfl rfl ?_
  refine x_iload_n (q := 36) dJ6_bitCount_0f7a4_35 rfl rfl ?_
  refine x_bipush (q := 38) (v := 8) dJ6_bitCount_0f7a4_36 rfl (by decide) ?_
  refine x_iushr (q := 39) dJ6_bitCount_0f7a4_38 rfl ?_
  refine x_iadd (q := 40) dJ6_bitCount_0f7a4_39 rfl ?_
  refine x_istore_n (q := 41) dJ6_bitCount_0f7a4_40 rfl (by decide) rfl rfl ?_
  refine x_iload_n (q := 42) dJ6_bitCount_0f7a4_41 rfl rfl ?_
  refine x_iload_n (q := 43) dJ6_bitCount_0f7a4_42 rfl rfl ?_
  refine x_bipush (q := 45) (v := 16) dJ6_bitCount_0f7a4_43 rfl (by decide) ?_
  refine x_iushr (q := 46) dJ6_bitCount_0f7a4_45 rfl ?_
  refine x_iadd (q := 47) dJ6_bitCount_0f7a4_46 rfl ?_
  refine x_istore_n (q := 48) dJ6_bitCount_0f7a4_47 rfl (by decide) rfl rfl ?_
  refine x_iload_n (q := 49) dJ6_bitCount_0f7a4_48 rfl rfl ?_
  refine x_bipush (q := 51) (v := 63) dJ6_bitCount_0f7a4_49 rfl (by decide) ?_
  refine x_iand (q := 52) dJ6_bitCount_0f7a4_51 rfl ?_
  refine x_ireturn dJ6_bitCount_0f7a4_52 rfl rfl ?_
  exact ⟨rfl, rfl⟩
theorem dX4_count_0 : decode cX4_count 0 = .ok (.iload_n 1, 1) := by decide +kernel
theorem dX4_count_1 : decode cX4_count 1 = .ok (.tableswitch 115 0 7 #[47, 55, 63, 71, 79, 91, 99, 107], 47) := by decide +kernel
theorem dX4_count_48 : decode cX4_count 48 = .ok (.aload_n 0, 1) := by decide +kernel
theorem dX4_count_49 : decode cX4_count 49 = .ok (.getfield 12, 3) := by decide +kernel
theorem dX4_count_52 : decode cX4_count 52 = .ok (.getfield 97, 3) := by decide +kernel
theorem dX4_count_55 : decode cX4_count 55 = .ok (.ireturn, 1) := by decide +kernel
theorem dX4_count_56 : decode cX4_count 56 = .ok (.aload_n 0, 1) := by decide +kernel
theorem dX4_count_57 : decode cX4_count 57 = .ok (.getfield 12, 3) := by decide +kernel
theorem dX4_count_60 : decode cX4_count 60 = .ok (.getfield 73, 3) := by decide +kernel
theorem dX4_count_63 : decode cX4_count 63 = .ok (.ireturn, 1) := by decide +kernel
theorem dX4_count_64 : decode cX4_count 64 = .ok (.aload_n 0, 1) := by decide +kernel
theorem dX4_count_65 : decode cX4_count 65 = .ok (.getfield 12, 3) := by decide +kernel
theorem dX4_count_68 : decode cX4_count 68 = .ok (.getfield 116, 3) := by decide +kernel
theorem dX4_count_71 : decode cX4_count 71 = .ok (.ireturn, 1) := by decide +kernel
theorem dX4_count_72 : decode cX4_count 72 = .ok (.aload_n 0, 1) := by decide +kernel
theorem dX4_count_73 : decode cX4_count 73 = .ok (.getfield 12, 3) := by decide +kernel
theorem dX4_count_76 : decode cX4_count 76 = .ok (.getfield 56, 3) := by decide +kernel
theorem dX4_count_79 : decode cX4_count 79 = .ok (.ireturn, 1) := by decide +kernel
theorem dX4_count_80 : decode cX4_count 80 = .ok (.aload_n 0, 1) := by decide +kernel
theorem dX4_count_81 : decode cX4_count 81 = .ok (.getfield 12, 3) := by decide +kernel
theorem dX4_count_84 : decode cX4_count 84 = .ok (.iconst 1, 1) := by decide +kernel
theorem dX4_count_85 : decode cX4_count 85 = .ok (.invokevirtual 113, 3) := by decide +kernel
theorem dX4_count_88 : decode cX4_count 88 = .ok (.invokestatic 216, 3) := by decide +kernel
theorem dX4_count_91 : decode cX4_count 91 = .ok (.ireturn, 1) := by decide +kernel
theorem dX4_count_92 : decode cX4_count 92 = .ok (.aload_n 0, 1) := by decide +kernel
theorem dX4_count_93 : decode cX4_count 93 = .ok (.getfield 29, 3) := by decide +kernel
theorem dX4_count_96 : decode cX4_count 96 = .ok (.getfield 166, 3) := by decide +kernel
theorem dX4_count_99 : decode cX4_count 99 = .ok (.ireturn, 1) := by decide +kernel
theorem dX4_count_100 : decode cX4_count 100 = .ok (.aload_n 0, 1) := by decide +kernel
theorem dX4_count_101 : decode cX4_count 101 = .ok (.getfield 12, 3) := by decide +kernel
theorem dX4_count_104 : decode cX4_count 104 = .ok (.getfield 163, 3) := by decide +kernel
theorem dX4_count_107 : decode cX4_count 107 = .ok (.ireturn, 1) := by decide +kernel
theorem dX4_count_108 : decode cX4_count 108 = .ok (.aload_n 0, 1) := by decide +kernel
theorem dX4_count_109 : decode cX4_count 109 = .ok (.getfield 12, 3) := by decide +kernel
theorem dX4_count_112 : decode cX4_count 112 = .ok (.invokevirtual 221, 3) := by decide +kernel
theorem dX4_count_115 : decode cX4_count 115 = .ok (.ireturn, 1) := by decide +kernel
theorem dX4_count_116 : decode cX4_count 116 = .ok (.aload_n 0, 1) := by decide +kernel
theorem dX4_count_117 : decode cX4_count 117 = .ok (.ldc 48, 2) := by decide +kernel
theorem dX4_count_119 : decode cX4_count 119 = .ok (.invokevirtual 49, 3) := by decide +kernel
theorem dX4_count_122 : decode cX4_count 122 = .ok (.ireturn, 1) := by decide +kernel
set_option maxRecDepth 20000 in
set_option maxHeartbeats 4000000 in
theorem c_X4_count {K : Cx} {x : Int32} {n8 : Nat} {m : TM} (hI : Iv n8 (m.1 1)) : CT yX4_count cX4_count 2 (some .int) 2 44 K [.ref 0, .int x] (m) (some (.int (if x = 0 then m.1 1 0 else if x = 1 then m.1 1 1 else if x = 2 then m.1 1 3 else if x = 3 then m.1 1 4 else if x = 4 then bcnt (thF (m.1 1) 1 n8) else if x = 5 then m.1 37 1 else if x = 6 then m.1 1 2 else if x = 7 then spF (m.1 1) 10 else -1000001))) (if outI x 0 7 = true then fnd m 0 else m) := by
  refine ct_ofd (n := 0) (by decide +kernel) rfl rfl ?_
  show XX RX4 cX4_count 2 (some .int) 2 44 K 0 [some (.ref 0), some (.int x)] [] (m) (fun r1 m1 => r1 = (some (.int (if x = 0 then m.1 1 0 else if x = 1 then m.1 1 1 else if x = 2 then m.1 1 3 else if x = 3 then m.1 1 4 else if x = 4 then bcnt (thF (m.1 1) 1 n8) else if x = 5 then m.1 37 1 else if x = 6 then m.1 1 2 else if x = 7 then spF (m.1 1) 10 else -1000001))) ∧ m1 = if outI x 0 7 = true then fnd m 0 else m)
  refine x_iload_n (q := 1) dX4_count_0 rfl rfl ?_
  by_cases h1_0 : x = 0
  · refine x_tswC (q := 48) (k := 0) dX4_count_1 h1_0 (by decide) (by decide) rfl (by decide) ?_
    refine x_aload_n (q := 49) dX4_count_48 rfl rfl ?_
    refine x_getR (q := 52) dX4_count_49 rfl fl_X4_12 (or4_coast) ?_
    refine x_getI (q := 55) dX4_count_52 rfl fl_X4_97 (ob0_day isC_1) ?_
    refine x_ireturn dX4_count_55 rfl rfl ?_
    exact ⟨by simp [h1_0], by rw [h1_0]; rfl⟩
  by_cases h1_1 : x = 1
  · refine x_tswC (q := 56) (k := 1) dX4_count_1 h1_1 (by decide) (by decide) rfl (by decide) ?_
    refine x_aload_n (q := 57) dX4_count_56 rfl rfl ?_
    refine x_getR (q := 60) dX4_count_57 rfl fl_X4_12 (or4_coast) ?_
    refine x_getI (q := 63) dX4_count_60 rfl fl_X4_73 (ob0_laid isC_1) ?_
    refine x_ireturn dX4_count_63 rfl rfl ?_
    exact ⟨by simp [h1_0, h1_1], by rw [h1_1]; rfl⟩
  by_cases h1_2 : x = 2
  · refine x_tswC (q := 64) (k := 2) dX4_count_1 h1_2 (by decide) (by decide) rfl (by decide) ?_
    refine x_aload_n (q := 65) dX4_count_64 rfl rfl ?_
    refine x_getR (q := 68) dX4_count_65 rfl fl_X4_12 (or4_coast) ?_
    refine x_getI (q := 71) dX4_count_68 rfl fl_X4_116 (ob0_amber isC_1) ?_
    refine x_ireturn dX4_count_71 rfl rfl ?_
    exact ⟨by simp [h1_0, h1_1, h1_2], by rw [h1_2]; rfl⟩
  by_cases h1_3 : x = 3
  · refine x_tswC (q := 72) (k := 3) dX4_count_1 h1_3 (by decide) (by decide) rfl (by decide) ?_
    refine x_aload_n (q := 73) dX4_count_72 rfl rfl ?_
    refine x_getR (q := 76) dX4_count_73 rfl fl_X4_12 (or4_coast) ?_
    refine x_getI (q := 79) dX4_count_76 rfl fl_X4_56 (ob0_late isC_1) ?_
    refine x_ireturn dX4_count_79 rfl rfl ?_
    exact ⟨by simp [h1_0, h1_1, h1_2, h1_3], by rw [h1_3]; rfl⟩
  by_cases h1_4 : x = 4
  · refine x_tswC (q := 80) (k := 4) dX4_count_1 h1_4 (by decide) (by decide) rfl (by decide) ?_
    refine x_aload_n (q := 81) dX4_count_80 rfl rfl ?_
    refine x_getR (q := 84) dX4_count_81 rfl fl_X4_12 (or4_coast) ?_
    refine x_iconst (q := 85) (v := 1) dX4_count_84 rfl (by decide) ?_
    refine x_callV1v (q := 88) dX4_count_85 rfl ml_X4_113 mv_X0_allThatAre (rv0 isC_1) rfl (p_X0_allThatAre isC_1 hI.2.1 hI.1) (Nat.le_of_ble_eq_true rfl) ⟨by decide, by decide⟩ ?_
    refine x_callS1v (q := 91) dX4_count_88 rfl ml_X4_216 ms_J6_bitCount_0f7a4 c_J6_bitCount_0f7a4 (Nat.le_of_ble_eq_true rfl) ⟨by decide, by decide⟩ ?_
    refine x_ireturn dX4_count_91 rfl rfl ?_
    exact ⟨by simp [h1_0, h1_1, h1_2, h1_3, h1_4], by rw [h1_4]; rfl⟩
  by_cases h1_5 : x = 5
  · refine x_tswC (q := 92) (k := 5) dX4_count_1 h1_5 (by decide) (by decide) rfl (by decide) ?_
    refine x_aload_n (q := 93) dX4_count_92 rfl rfl ?_
    refine x_getR (q := 96) dX4_count_93 rfl fl_X4_29 (or4_tape) ?_
    refine x_getI (q := 99) dX4_count_96 rfl fl_X4_166 (ob3_length) ?_
    refine x_ireturn dX4_count_99 rfl rfl ?_
    exact ⟨by simp [h1_0, h1_1, h1_2, h1_3, h1_4, h1_5], by rw [h1_5]; rfl⟩
  by_cases h1_6 : x = 6
  · refine x_tswC (q := 100) (k := 6) dX4_count_1 h1_6 (by decide) (by decide) rfl (by decide) ?_
    refine x_aload_n (q := 101) dX4_count_100 rfl rfl ?_
    refine x_getR (q := 104) dX4_count_101 rfl fl_X4_12 (or4_coast) ?_
    refine x_getI (q := 107) dX4_count_104 rfl fl_X4_163 (ob0_z isC_1) ?_
    refine x_ireturn dX4_count_107 rfl rfl ?_
    exact ⟨by simp [h1_0, h1_1, h1_2, h1_3, h1_4, h1_5, h1_6], by rw [h1_6]; rfl⟩
  by_cases h1_7 : x = 7
  · refine x_tswC (q := 108) (k := 7) dX4_count_1 h1_7 (by decide) (by decide) rfl (by decide) ?_
    refine x_aload_n (q := 109) dX4_count_108 rfl rfl ?_
    refine x_getR (q := 112) dX4_count_109 rfl fl_X4_12 (or4_coast) ?_
    refine x_callV0v (q := 115) dX4_count_112 rfl ml_X4_221 mv_X0_spotsThatHold (rv0 isC_1) rfl (p_X0_spotsThatHold isC_1) (Nat.le_of_ble_eq_true rfl) ⟨by decide, by decide⟩ ?_
    refine x_ireturn dX4_count_115 rfl rfl ?_
    exact ⟨by simp [h1_0, h1_1, h1_2, h1_3, h1_4, h1_5, h1_6, h1_7], by rw [h1_7]; rfl⟩
  refine x_tswD (q := 116) dX4_count_1 (by have n0 := lv_neT h1_0 (a := 0) (by decide); have n1 := lv_neT h1_1 (a := 1) (by decide); have n2 := lv_neT h1_2 (a := 2) (by decide); have n3 := lv_neT h1_3 (a := 3) (by decide); have n4 := lv_neT h1_4 (a := 4) (by decide); have n5 := lv_neT h1_5 (a := 5) (by decide); have n6 := lv_neT h1_6 (a := 6) (by decide); have n7 := lv_neT h1_7 (a := 7) (by decide); omega) (by decide) ?_
  refine x_aload_n (q := 117) dX4_count_116 rfl rfl ?_
  refine x_ldc (q := 119) dX4_count_117 rfl kc_X4_48 ?_
  refine x_callV1v (q := 122) dX4_count_119 rfl ml_X4_49 mv_X4_finding rv4 rfl (c_X4_finding (w := 0) (by decide) (by decide)) (Nat.le_of_ble_eq_true rfl) ⟨by decide, by decide⟩ ?_
  refine x_ireturn dX4_count_122 rfl rfl ?_
  exact ⟨by simp [h1_0, h1_1, h1_2, h1_3, h1_4, h1_5, h1_6, h1_7], by rw [if_pos (sw_out h1_0 h1_1 h1_2 h1_3 h1_4 h1_5 h1_6 h1_7)]⟩
theorem dX5_count_0 : decode cX5_count 0 = .ok (.iconst 0, 1) := by decide +kernel
theorem dX5_count_1 : decode cX5_count 1 = .ok (.istore_n 2, 1) := by decide +kernel
theorem dX5_count_2 : decode cX5_count 2 = .ok (.iload_n 1, 1) := by decide +kernel
theorem dX5_count_3 : decode cX5_count 3 = .ok (.tableswitch 130 0 7 #[45, 52, 59, 66, 73, 82, 87, 94], 45) := by decide +kernel
theorem dX5_count_48 : decode cX5_count 48 = .ok (.aload_n 0, 1) := by decide +kernel
theorem dX5_count_49 : decode cX5_count 49 = .ok (.getfield 9, 3) := by decide +kernel
theorem dX5_count_52 : decode cX5_count 52 = .ok (.iconst 0, 1) := by decide +kernel
theorem dX5_count_53 : decode cX5_count 53 = .ok (.iaload, 1) := by decide +kernel
theorem dX5_count_54 : decode cX5_count 54 = .ok (.ireturn, 1) := by decide +kernel
theorem dX5_count_55 : decode cX5_count 55 = .ok (.aload_n 0, 1) := by decide +kernel
theorem dX5_count_56 : decode cX5_count 56 = .ok (.getfield 9, 3) := by decide +kernel
theorem dX5_count_59 : decode cX5_count 59 = .ok (.iconst 1, 1) := by decide +kernel
theorem dX5_count_60 : decode cX5_count 60 = .ok (.iaload, 1) := by decide +kernel
theorem dX5_count_61 : decode cX5_count 61 = .ok (.ireturn, 1) := by decide +kernel
theorem dX5_count_62 : decode cX5_count 62 = .ok (.aload_n 0, 1) := by decide +kernel
theorem dX5_count_63 : decode cX5_count 63 = .ok (.getfield 9, 3) := by decide +kernel
theorem dX5_count_66 : decode cX5_count 66 = .ok (.iconst 3, 1) := by decide +kernel
theorem dX5_count_67 : decode cX5_count 67 = .ok (.iaload, 1) := by decide +kernel
theorem dX5_count_68 : decode cX5_count 68 = .ok (.ireturn, 1) := by decide +kernel
theorem dX5_count_69 : decode cX5_count 69 = .ok (.aload_n 0, 1) := by decide +kernel
theorem dX5_count_70 : decode cX5_count 70 = .ok (.getfield 9, 3) := by decide +kernel
theorem dX5_count_73 : decode cX5_count 73 = .ok (.iconst 4, 1) := by decide +kernel
theorem dX5_count_74 : decode cX5_count 74 = .ok (.iaload, 1) := by decide +kernel
theorem dX5_count_75 : decode cX5_count 75 = .ok (.ireturn, 1) := by decide +kernel
theorem dX5_count_76 : decode cX5_count 76 = .ok (.aload_n 0, 1) := by decide +kernel
theorem dX5_count_77 : decode cX5_count 77 = .ok (.iconst 1, 1) := by decide +kernel
theorem dX5_count_78 : decode cX5_count 78 = .ok (.invokevirtual 118, 3) := by decide +kernel
theorem dX5_count_81 : decode cX5_count 81 = .ok (.invokestatic 149, 3) := by decide +kernel
theorem dX5_count_84 : decode cX5_count 84 = .ok (.ireturn, 1) := by decide +kernel
theorem dX5_count_85 : decode cX5_count 85 = .ok (.aload_n 0, 1) := by decide +kernel
theorem dX5_count_86 : decode cX5_count 86 = .ok (.getfield 177, 3) := by decide +kernel
theorem dX5_count_89 : decode cX5_count 89 = .ok (.ireturn, 1) := by decide +kernel
theorem dX5_count_90 : decode cX5_count 90 = .ok (.aload_n 0, 1) := by decide +kernel
theorem dX5_count_91 : decode cX5_count 91 = .ok (.getfield 9, 3) := by decide +kernel
theorem dX5_count_94 : decode cX5_count 94 = .ok (.iconst 2, 1) := by decide +kernel
theorem dX5_count_95 : decode cX5_count 95 = .ok (.iaload, 1) := by decide +kernel
theorem dX5_count_96 : decode cX5_count 96 = .ok (.ireturn, 1) := by decide +kernel
theorem dX5_count_97 : decode cX5_count 97 = .ok (.iconst 0, 1) := by decide +kernel
theorem dX5_count_98 : decode cX5_count 98 = .ok (.istore_n 3, 1) := by decide +kernel
theorem dX5_count_99 : decode cX5_count 99 = .ok (.iload_n 3, 1) := by decide +kernel
theorem dX5_count_100 : decode cX5_count 100 = .ok (.bipush 10, 2) := by decide +kernel
theorem dX5_count_102 : decode cX5_count 102 = .ok (.if_icmp .ge 29, 3) := by decide +kernel
theorem dX5_count_105 : decode cX5_count 105 = .ok (.iload_n 2, 1) := by decide +kernel
theorem dX5_count_106 : decode cX5_count 106 = .ok (.aload_n 0, 1) := by decide +kernel
theorem dX5_count_107 : decode cX5_count 107 = .ok (.getfield 9, 3) := by decide +kernel
theorem dX5_count_110 : decode cX5_count 110 = .ok (.bipush 68, 2) := by decide +kernel
theorem dX5_count_112 : decode cX5_count 112 = .ok (.iload_n 3, 1) := by decide +kernel
theorem dX5_count_113 : decode cX5_count 113 = .ok (.iadd, 1) := by decide +kernel
theorem dX5_count_114 : decode cX5_count 114 = .ok (.iaload, 1) := by decide +kernel
theorem dX5_count_115 : decode cX5_count 115 = .ok (.ifCond .lt 7, 3) := by decide +kernel
theorem dX5_count_118 : decode cX5_count 118 = .ok (.iconst 1, 1) := by decide +kernel
theorem dX5_count_119 : decode cX5_count 119 = .ok (.goto 4, 3) := by decide +kernel
theorem dX5_count_122 : decode cX5_count 122 = .ok (.iconst 0, 1) := by decide +kernel
theorem dX5_count_123 : decode cX5_count 123 = .ok (.iadd, 1) := by decide +kernel
theorem dX5_count_124 : decode cX5_count 124 = .ok (.istore_n 2, 1) := by decide +kernel
theorem dX5_count_125 : decode cX5_count 125 = .ok (.iinc 3 1, 3) := by decide +kernel
theorem dX5_count_128 : decode cX5_count 128 = .ok (.goto (-29), 3) := by decide +kernel
theorem dX5_count_131 : decode cX5_count 131 = .ok (.iload_n 2, 1) := by decide +kernel
theorem dX5_count_132 : decode cX5_count 132 = .ok (.ireturn, 1) := by decide +kernel
theorem dX5_count_133 : decode cX5_count 133 = .ok (.aload_n 0, 1) := by decide +kernel
theorem dX5_count_134 : decode cX5_count 134 = .ok (.iconst 0, 1) := by decide +kernel
theorem dX5_count_135 : decode cX5_count 135 = .ok (.invokevirtual 103, 3) := by decide +kernel
theorem dX5_count_138 : decode cX5_count 138 = .ok (.ireturn, 1) := by decide +kernel
set_option maxRecDepth 20000 in
set_option maxHeartbeats 4000000 in
theorem l_X5_count {K : Cx} {x : Int32} {N : Nat} {m : TM} (hN : N = 10) : ∀ (n : Nat) (j : Nat), 10 - j < n → j ≤ 10 → XX RX5 cX5_count 4 (some .int) 2 45 K 99 [some (.ref 49), some (.int x), some (.int (spM (m.1 50) j)), some (.int (nI j))] [] (m) (fun r1 m1 => r1 = (some (.int (spM (m.1 50) N))) ∧ m1 = m) := by
  intro n
  induction n with
  | zero => intro j hlt; exact absurd hlt (Nat.not_lt_zero _)
  | succ n ih =>
    intro j hlt hj
    refine x_iload_n (q := 100) dX5_count_99 rfl rfl ?_
    refine x_bipush (q := 102) (v := 10) dX5_count_100 rfl (by decide) ?_
    refine x_icmp_ge (q := 105) (t := 131) dX5_count_102 rfl (by decide) (fun h102 => ?_) (fun h102 => ?_)
    · refine x_iload_n (q := 132) dX5_count_131 rfl rfl ?_
      refine x_ireturn dX5_count_132 rfl rfl ?_
      have e : j = 10 := Nat.le_antisymm hj (lp_stop (n := 10) rfl (by omega) (by omega) h102)
      subst hN
      subst e
      exact ⟨rfl, rfl⟩
    have hjn : j < 10 := lp_go (n := 10) rfl (by omega) (by omega) h102
    refine x_iload_n (q := 106) dX5_count_105 rfl rfl ?_
    refine x_aload_n (q := 107) dX5_count_106 rfl rfl ?_
    refine x_getR (q := 110) dX5_count_107 rfl fl_X5_9 (or5_s) ?_
    refine x_bipush (q := 112) (v := 68) dX5_count_110 rfl (by decide) ?_
    refine x_iload_n (q := 113) dX5_count_112 rfl rfl ?_
    refine x_iadd (q := 114) dX5_count_113 rfl ?_
    refine x_iald (q := 115) dX5_count_114 rfl (ar_50) (ix_off 68 (ix_nI (n := 10) hjn (by decide)) (by decide) (by decide)) (Nat.zero_add _) ?_
    refine x_if_lt (q := 118) (t := 122) dX5_count_115 rfl (by decide) (fun h115 => ?_) (fun h115 => ?_)
    · refine x_iconst (q := 123) (v := 0) dX5_count_122 rfl (by decide) ?_
      refine x_iadd (q := 124) dX5_count_123 rfl ?_
      refine x_istore_n (q := 125) dX5_count_124 rfl (by decide) rfl rfl ?_
      refine x_iinc (q := 128) (v := nI (j + 1)) dX5_count_125 rfl rfl (jnI_s j) (by decide) rfl rfl ?_
      refine x_goto (q := 99) dX5_count_128 (by decide) ?_
      have key := ih (j + 1) (by omega) (by omega)
      simp only [spM, h115, if_true, if_false] at key
      rw [add0]
      exact key
    refine x_iconst (q := 119) (v := 1) dX5_count_118 rfl (by decide) ?_
    refine x_goto (q := 123) dX5_count_119 (by decide) ?_
    refine x_iadd (q := 124) dX5_count_123 rfl ?_
    refine x_istore_n (q := 125) dX5_count_124 rfl (by decide) rfl rfl ?_
    refine x_iinc (q := 128) (v := nI (j + 1)) dX5_count_125 rfl rfl (jnI_s j) (by decide) rfl rfl ?_
    refine x_goto (q := 99) dX5_count_128 (by decide) ?_
    have key := ih (j + 1) (by omega) (by omega)
    simp only [spM, h115, if_true, if_false] at key
    exact key
set_option maxRecDepth 20000 in
set_option maxHeartbeats 4000000 in
theorem c_X5_count {K : Cx} {x : Int32} {n8 : Nat} {m : TM} (hI : Iv n8 (m.1 50)) : CT yX5_count cX5_count 4 (some .int) 2 45 K [.ref 49, .int x] (m) (some (.int (if x = 0 then m.1 50 0 else if x = 1 then m.1 50 1 else if x = 2 then m.1 50 3 else if x = 3 then m.1 50 4 else if x = 4 then bcnt (thF (m.1 50) 1 n8) else if x = 5 then m.1 49 6 else if x = 6 then m.1 50 2 else if x = 7 then spM (m.1 50) 10 else -1000001))) (if outI x 0 7 = true then fnm m 0 else m) := by
  refine ct_ofd (n := 2) (by decide +kernel) rfl rfl ?_
  show XX RX5 cX5_count 4 (some .int) 2 45 K 0 [some (.ref 49), some (.int x), none, none] [] (m) (fun r1 m1 => r1 = (some (.int (if x = 0 then m.1 50 0 else if x = 1 then m.1 50 1 else if x = 2 then m.1 50 3 else if x = 3 then m.1 50 4 else if x = 4 then bcnt (thF (m.1 50) 1 n8) else if x = 5 then m.1 49 6 else if x = 6 then m.1 50 2 else if x = 7 then spM (m.1 50) 10 else -1000001))) ∧ m1 = if outI x 0 7 = true then fnm m 0 else m)
  refine x_iconst (q := 1) (v := 0) dX5_count_0 rfl (by decide) ?_
  refine x_istore_n (q := 2) dX5_count_1 rfl (by decide) rfl rfl ?_
  refine x_iload_n (q := 3) dX5_count_2 rfl rfl ?_
  by_cases h3_0 : x = 0
  · refine x_tswC (q := 48) (k := 0) dX5_count_3 h3_0 (by decide) (by decide) rfl (by decide) ?_
    refine x_aload_n (q := 49) dX5_count_48 rfl rfl ?_
    refine x_getR (q := 52) dX5_count_49 rfl fl_X5_9 (or5_s) ?_
    refine x_iconst (q := 53) (v := 0) dX5_count_52 rfl (by decide) ?_
    refine x_iald (q := 54) dX5_count_53 rfl (ar_50) (ix_nI (k := 0) (by decide) (by decide)) (Nat.zero_add _) ?_
    refine x_ireturn dX5_count_54 rfl rfl ?_
    exact ⟨by simp [h3_0], by rw [h3_0]; rfl⟩
  by_cases h3_1 : x = 1
  · refine x_tswC (q := 55) (k := 1) dX5_count_3 h3_1 (by decide) (by decide) rfl (by decide) ?_
    refine x_aload_n (q := 56) dX5_count_55 rfl rfl ?_
    refine x_getR (q := 59) dX5_count_56 rfl fl_X5_9 (or5_s) ?_
    refine x_iconst (q := 60) (v := 1) dX5_count_59 rfl (by decide) ?_
    refine x_iald (q := 61) dX5_count_60 rfl (ar_50) (ix_nI (k := 1) (by decide) (by decide)) (Nat.zero_add _) ?_
    refine x_ireturn dX5_count_61 rfl rfl ?_
    exact ⟨by simp [h3_0, h3_1], by rw [h3_1]; rfl⟩
  by_cases h3_2 : x = 2
  · refine x_tswC (q := 62) (k := 2) dX5_count_3 h3_2 (by decide) (by decide) rfl (by decide) ?_
    refine x_aload_n (q := 63) dX5_count_62 rfl rfl ?_
    refine x_getR (q := 66) dX5_count_63 rfl fl_X5_9 (or5_s) ?_
    refine x_iconst (q := 67) (v := 3) dX5_count_66 rfl (by decide) ?_
    refine x_iald (q := 68) dX5_count_67 rfl (ar_50) (ix_nI (k := 3) (by decide) (by decide)) (Nat.zero_add _) ?_
    refine x_ireturn dX5_count_68 rfl rfl ?_
    exact ⟨by simp [h3_0, h3_1, h3_2], by rw [h3_2]; rfl⟩
  by_cases h3_3 : x = 3
  · refine x_tswC (q := 69) (k := 3) dX5_count_3 h3_3 (by decide) (by decide) rfl (by decide) ?_
    refine x_aload_n (q := 70) dX5_count_69 rfl rfl ?_
    refine x_getR (q := 73) dX5_count_70 rfl fl_X5_9 (or5_s) ?_
    refine x_iconst (q := 74) (v := 4) dX5_count_73 rfl (by decide) ?_
    refine x_iald (q := 75) dX5_count_74 rfl (ar_50) (ix_nI (k := 4) (by decide) (by decide)) (Nat.zero_add _) ?_
    refine x_ireturn dX5_count_75 rfl rfl ?_
    exact ⟨by simp [h3_0, h3_1, h3_2, h3_3], by rw [h3_3]; rfl⟩
  by_cases h3_4 : x = 4
  · refine x_tswC (q := 76) (k := 4) dX5_count_3 h3_4 (by decide) (by decide) rfl (by decide) ?_
    obtain ⟨y, hy, ey⟩ := thF_nI (s := m.1 50) (x := 1) n8 hI.1
    have hy8 : y < 256 := Nat.lt_of_lt_of_le hy (Nat.pow_le_pow_right (by decide) hI.1)
    refine x_aload_n (q := 77) dX5_count_76 rfl rfl ?_
    refine x_iconst (q := 78) (v := 1) dX5_count_77 rfl (by decide) ?_
    refine x_callV1v (q := 81) dX5_count_78 rfl ml_X5_118 mv_X5_those rv5 rfl (p_X5_those hI.2.1 hI.1) (Nat.le_of_ble_eq_true rfl) ⟨by decide, by decide⟩ ?_
    refine x_callS1v (q := 84) dX5_count_81 rfl ml_X5_149 ms_X5_bits (by rw [ey]; exact c_X5_bits hy8) (Nat.le_of_ble_eq_true rfl) ⟨by decide, by decide⟩ ?_
    refine x_ireturn dX5_count_84 rfl rfl ?_
    exact ⟨by simp [h3_0, h3_1, h3_2, h3_3, h3_4, ey, bcnt_bt y hy8], by rw [h3_4]; rfl⟩
  by_cases h3_5 : x = 5
  · refine x_tswC (q := 85) (k := 5) dX5_count_3 h3_5 (by decide) (by decide) rfl (by decide) ?_
    refine x_aload_n (q := 86) dX5_count_85 rfl rfl ?_
    refine x_getI (q := 89) dX5_count_86 rfl fl_X5_177 (ob5_taped) ?_
    refine x_ireturn dX5_count_89 rfl rfl ?_
    exact ⟨by simp [h3_0, h3_1, h3_2, h3_3, h3_4, h3_5], by rw [h3_5]; rfl⟩
  by_cases h3_6 : x = 6
  · refine x_tswC (q := 90) (k := 6) dX5_count_3 h3_6 (by decide) (by decide) rfl (by decide) ?_
    refine x_aload_n (q := 91) dX5_count_90 rfl rfl ?_
    refine x_getR (q := 94) dX5_count_91 rfl fl_X5_9 (or5_s) ?_
    refine x_iconst (q := 95) (v := 2) dX5_count_94 rfl (by decide) ?_
    refine x_iald (q := 96) dX5_count_95 rfl (ar_50) (ix_nI (k := 2) (by decide) (by decide)) (Nat.zero_add _) ?_
    refine x_ireturn dX5_count_96 rfl rfl ?_
    exact ⟨by simp [h3_0, h3_1, h3_2, h3_3, h3_4, h3_5, h3_6], by rw [h3_6]; rfl⟩
  by_cases h3_7 : x = 7
  · refine x_tswC (q := 97) (k := 7) dX5_count_3 h3_7 (by decide) (by decide) rfl (by decide) ?_
    refine x_iconst (q := 98) (v := 0) dX5_count_97 rfl (by decide) ?_
    refine x_istore_n (q := 99) dX5_count_98 rfl (by decide) rfl rfl ?_
    have e1 : outI x 0 7 = false := by rw [h3_7]; rfl
    simp only [h3_0, h3_1, h3_2, h3_3, h3_4, h3_5, h3_6, e1, if_false, Bool.false_eq_true]
    rw [if_pos h3_7]
    exact l_X5_count rfl 11 0 (by omega) (by omega)
  refine x_tswD (q := 133) dX5_count_3 (by have n0 := lv_neT h3_0 (a := 0) (by decide); have n1 := lv_neT h3_1 (a := 1) (by decide); have n2 := lv_neT h3_2 (a := 2) (by decide); have n3 := lv_neT h3_3 (a := 3) (by decide); have n4 := lv_neT h3_4 (a := 4) (by decide); have n5 := lv_neT h3_5 (a := 5) (by decide); have n6 := lv_neT h3_6 (a := 6) (by decide); have n7 := lv_neT h3_7 (a := 7) (by decide); omega) (by decide) ?_
  refine x_aload_n (q := 134) dX5_count_133 rfl rfl ?_
  refine x_iconst (q := 135) (v := 0) dX5_count_134 rfl (by decide) ?_
  refine x_callV1v (q := 138) dX5_count_135 rfl ml_X5_103 mv_X5_no rv5 rfl (c_X5_nox (w := 0) (x := -1000001) (by decide) (by decide)) (Nat.le_of_ble_eq_true rfl) ⟨by decide, by decide⟩ ?_
  refine x_ireturn dX5_count_138 rfl rfl ?_
  exact ⟨by simp [h3_0, h3_1, h3_2, h3_3, h3_4, h3_5, h3_6, h3_7], by rw [if_pos (sw_out h3_0 h3_1 h3_2 h3_3 h3_4 h3_5 h3_6 h3_7)]⟩
theorem dX4_status_0 : decode cX4_status 0 = .ok (.iload_n 1, 1) := by decide +kernel
theorem dX4_status_1 : decode cX4_status 1 = .ok (.iconst (-1), 1) := by decide +kernel
theorem dX4_status_2 : decode cX4_status 2 = .ok (.bipush 6, 2) := by decide +kernel
theorem dX4_status_4 : decode cX4_status 4 = .ok (.invokestatic 44, 3) := by decide +kernel
theorem dX4_status_7 : decode cX4_status 7 = .ok (.ifCond .eq 10, 3) := by decide +kernel
theorem dX4_status_10 : decode cX4_status 10 = .ok (.aload_n 0, 1) := by decide +kernel
theorem dX4_status_11 : decode cX4_status 11 = .ok (.ldc 48, 2) := by decide +kernel
theorem dX4_status_13 : decode cX4_status 13 = .ok (.invokevirtual 49, 3) := by decide +kernel
theorem dX4_status_16 : decode cX4_status 16 = .ok (.ireturn, 1) := by decide +kernel
theorem dX4_status_17 : decode cX4_status 17 = .ok (.iload_n 1, 1) := by decide +kernel
theorem dX4_status_18 : decode cX4_status 18 = .ok (.ifCond .lt 10, 3) := by decide +kernel
theorem dX4_status_21 : decode cX4_status 21 = .ok (.aload_n 0, 1) := by decide +kernel
theorem dX4_status_22 : decode cX4_status 22 = .ok (.getfield 39, 3) := by decide +kernel
theorem dX4_status_25 : decode cX4_status 25 = .ok (.iload_n 1, 1) := by decide +kernel
theorem dX4_status_26 : decode cX4_status 26 = .ok (.iaload, 1) := by decide +kernel
theorem dX4_status_27 : decode cX4_status 27 = .ok (.ireturn, 1) := by decide +kernel
theorem dX4_status_28 : decode cX4_status 28 = .ok (.iconst 0, 1) := by decide +kernel
theorem dX4_status_29 : decode cX4_status 29 = .ok (.istore_n 2, 1) := by decide +kernel
theorem dX4_status_30 : decode cX4_status 30 = .ok (.aload_n 0, 1) := by decide +kernel
theorem dX4_status_31 : decode cX4_status 31 = .ok (.getfield 39, 3) := by decide +kernel
theorem dX4_status_34 : decode cX4_status 34 = .ok (.astore_n 3, 1) := by decide +kernel
theorem dX4_status_35 : decode cX4_status 35 = .ok (.aload_n 3, 1) := by decide +kernel
theorem dX4_status_36 : decode cX4_status 36 = .ok (.arraylength, 1) := by decide +kernel
theorem dX4_status_37 : decode cX4_status 37 = .ok (.istore 4, 2) := by decide +kernel
theorem dX4_status_39 : decode cX4_status 39 = .ok (.iconst 0, 1) := by decide +kernel
theorem dX4_status_40 : decode cX4_status 40 = .ok (.istore 5, 2) := by decide +kernel
theorem dX4_status_42 : decode cX4_status 42 = .ok (.iload 5, 2) := by decide +kernel
theorem dX4_status_44 : decode cX4_status 44 = .ok (.iload 4, 2) := by decide +kernel
theorem dX4_status_46 : decode cX4_status 46 = .ok (.if_icmp .ge 20, 3) := by decide +kernel
theorem dX4_status_49 : decode cX4_status 49 = .ok (.aload_n 3, 1) := by decide +kernel
theorem dX4_status_50 : decode cX4_status 50 = .ok (.iload 5, 2) := by decide +kernel
theorem dX4_status_52 : decode cX4_status 52 = .ok (.iaload, 1) := by decide +kernel
theorem dX4_status_53 : decode cX4_status 53 = .ok (.istore 6, 2) := by decide +kernel
theorem dX4_status_55 : decode cX4_status 55 = .ok (.iload_n 2, 1) := by decide +kernel
theorem dX4_status_56 : decode cX4_status 56 = .ok (.iload 6, 2) := by decide +kernel
theorem dX4_status_58 : decode cX4_status 58 = .ok (.iadd, 1) := by decide +kernel
theorem dX4_status_59 : decode cX4_status 59 = .ok (.istore_n 2, 1) := by decide +kernel
theorem dX4_status_60 : decode cX4_status 60 = .ok (.iinc 5 1, 3) := by decide +kernel
theorem dX4_status_63 : decode cX4_status 63 = .ok (.goto (-21), 3) := by decide +kernel
theorem dX4_status_66 : decode cX4_status 66 = .ok (.iload_n 2, 1) := by decide +kernel
theorem dX4_status_67 : decode cX4_status 67 = .ok (.ireturn, 1) := by decide +kernel
set_option maxRecDepth 20000 in
set_option maxHeartbeats 4000000 in
theorem l_X4_status {K : Cx} {x : Int32} {N : Nat} {m : TM} (hN : N = 7) : ∀ (n : Nat) (j : Nat), 7 - j < n → j ≤ 7 → XX RX4 cX4_status 7 (some .int) 2 44 K 42 [some (.ref 0), some (.int x), some (.int (suF (m.1 40) j)), some (.ref 40), some (.int 7), some (.int (nI j)), none] [] (m) (fun r1 m1 => r1 = (some (.int (suF (m.1 40) N))) ∧ m1 = m) := by
  intro n
  induction n with
  | zero => intro j hlt; exact absurd hlt (Nat.not_lt_zero _)
  | succ n ih =>
    intro j hlt hj
    refine x_iload (q := 44) dX4_status_42 rfl rfl ?_
    refine x_iload (q := 46) dX4_status_44 rfl rfl ?_
    refine x_icmp_ge (q := 49) (t := 66) dX4_status_46 rfl (by decide) (fun h46 => ?_) (fun h46 => ?_)
    · refine x_iload_n (q := 67) dX4_status_66 rfl rfl ?_
      refine x_ireturn dX4_status_67 rfl rfl ?_
      have e : j = 7 := Nat.le_antisymm hj (lp_stop (n := 7) rfl (by omega) (by omega) h46)
      subst hN
      subst e
      exact ⟨rfl, rfl⟩
    have hjn : j < 7 := lp_go (n := 7) rfl (by omega) (by omega) h46
    refine x_aload_n (q := 50) dX4_status_49 rfl rfl ?_
    refine x_iload (q := 52) dX4_status_50 rfl rfl ?_
    refine x_iald (q := 53) dX4_status_52 rfl (ar_40) (ix_nI (n := 7) hjn (by decide)) (Nat.zero_add _) ?_
    refine x_istore (q := 55) dX4_status_53 rfl (by decide) rfl rfl ?_
    refine x_iload_n (q := 56) dX4_status_55 rfl rfl ?_
    refine x_iload (q := 58) dX4_status_56 rfl rfl ?_
    refine x_iadd (q := 59) dX4_status_58 rfl ?_
    refine x_istore_n (q := 60) dX4_status_59 rfl (by decide) rfl rfl ?_
    refine x_iinc (q := 63) (v := nI (j + 1)) dX4_status_60 rfl rfl (jnI_s j) (by decide) rfl rfl ?_
    refine x_goto (q := 42) dX4_status_63 (by decide) ?_
    exact x_ls (ih (j + 1) (by omega) (by omega)) (And.intro rfl (And.intro rfl (And.intro rfl (And.intro rfl (And.intro rfl (And.intro rfl trivial))))))
theorem out_m1 {x : Int32} (h : outI x (-1) 6 = false) (h2 : ¬ x < 0) : outI x 0 6 = false := by
  unfold outI at *
  rw [Bool.or_eq_false_iff] at *
  exact ⟨decide_eq_false h2, h.2⟩
theorem out_m2 {x : Int32} (h : outI x (-1) 6 = false) (h2 : x < 0) : x = -1 := by
  unfold outI at h
  rw [Bool.or_eq_false_iff] at h
  have h1 := of_decide_eq_false h.1
  rw [Int32.lt_iff_toInt_lt] at h1 h2
  have z0 : (0 : Int32).toInt = 0 := by decide
  have z1 : (-1 : Int32).toInt = -1 := by decide
  rw [z0] at h2
  rw [z1] at h1
  apply Int32.toInt_inj.mp
  rw [z1]
  omega
set_option maxRecDepth 20000 in
set_option maxHeartbeats 4000000 in
theorem c_X4_status {K : Cx} {x : Int32} {m : TM} : CT yX4_status cX4_status 7 (some .int) 2 44 K [.ref 0, .int x] (m) (some (.int ((if (outI x (-1) 6) = true then -1000001 else (if x < 0 then suF (m.1 40) 7 else m.1 40 (cl x)))))) ((if (outI x (-1) 6) = true then fnd m 0 else m)) := by
  refine ct_ofd (n := 5) (by decide +kernel) rfl rfl ?_
  show XX RX4 cX4_status 7 (some .int) 2 44 K 0 [some (.ref 0), some (.int x), none, none, none, none, none] [] (m) (fun r1 m1 => r1 = (some (.int ((if (outI x (-1) 6) = true then -1000001 else (if x < 0 then suF (m.1 40) 7 else m.1 40 (cl x)))))) ∧ m1 = (if (outI x (-1) 6) = true then fnd m 0 else m))
  refine x_iload_n (q := 1) dX4_status_0 rfl rfl ?_
  refine x_iconst (q := 2) (v := (-1)) dX4_status_1 rfl (by decide) ?_
  refine x_bipush (q := 4) (v := 6) dX4_status_2 rfl (by decide) ?_
  refine x_callS3v (q := 7) dX4_status_4 rfl ml_X4_44 ms_X4_isOut c_X4_isOut (Nat.le_of_ble_eq_true rfl) ⟨by decide, by decide⟩ ?_
  refine x_ifB_eq (q := 10) (t := 17) dX4_status_7 rfl (by decide) (fun h7 => ?_) (fun h7 => ?_)
  · refine x_iload_n (q := 18) dX4_status_17 rfl rfl ?_
    refine x_if_lt (q := 21) (t := 28) dX4_status_18 rfl (by decide) (fun h18 => ?_) (fun h18 => ?_)
    · refine x_iconst (q := 29) (v := 0) dX4_status_28 rfl (by decide) ?_
      refine x_istore_n (q := 30) dX4_status_29 rfl (by decide) rfl rfl ?_
      refine x_aload_n (q := 31) dX4_status_30 rfl rfl ?_
      refine x_getR (q := 34) dX4_status_31 rfl fl_X4_39 (or4_found) ?_
      refine x_astore_n (q := 35) dX4_status_34 rfl (by decide) rfl rfl ?_
      refine x_aload_n (q := 36) dX4_status_35 rfl rfl ?_
      refine x_alen (q := 37) (v := 7) dX4_status_36 rfl (ra_40) (by decide) (by decide) ?_
      refine x_istore (q := 39) dX4_status_37 rfl (by decide) rfl rfl ?_
      refine x_iconst (q := 40) (v := 0) dX4_status_39 rfl (by decide) ?_
      refine x_istore (q := 42) dX4_status_40 rfl (by decide) rfl rfl ?_
      rw [if_neg (by rw [h7]; decide), if_pos h18, if_neg (by rw [h7]; decide)]
      exact x_ls (l_X4_status (x := x) rfl 8 0 (by omega) (by omega)) (And.intro rfl (And.intro rfl (And.intro rfl (And.intro rfl (And.intro rfl (And.intro rfl trivial))))))
    refine x_aload_n (q := 22) dX4_status_21 rfl rfl ?_
    refine x_getR (q := 25) dX4_status_22 rfl fl_X4_39 (or4_found) ?_
    refine x_iload_n (q := 26) dX4_status_25 rfl rfl ?_
    refine x_iald (q := 27) dX4_status_26 rfl (ar_40) (ix_out (out_m1 h7 h18) (by decide)) (Nat.zero_add _) ?_
    refine x_ireturn dX4_status_27 rfl rfl ?_
    exact ⟨by simp [h7, h18], by simp [h7, h18]⟩
  refine x_aload_n (q := 11) dX4_status_10 rfl rfl ?_
  refine x_ldc (q := 13) dX4_status_11 rfl kc_X4_48 ?_
  refine x_callV1v (q := 16) dX4_status_13 rfl ml_X4_49 mv_X4_finding rv4 rfl (c_X4_finding (w := 0) (by decide) (by decide)) (Nat.le_of_ble_eq_true rfl) ⟨by decide, by decide⟩ ?_
  refine x_ireturn dX4_status_16 rfl rfl ?_
  exact ⟨by simp [h7], by simp [h7]⟩
theorem dX5_status_0 : decode cX5_status 0 = .ok (.iload_n 1, 1) := by decide +kernel
theorem dX5_status_1 : decode cX5_status 1 = .ok (.iconst (-1), 1) := by decide +kernel
theorem dX5_status_2 : decode cX5_status 2 = .ok (.bipush 6, 2) := by decide +kernel
theorem dX5_status_4 : decode cX5_status 4 = .ok (.invokestatic 48, 3) := by decide +kernel
theorem dX5_status_7 : decode cX5_status 7 = .ok (.ifCond .ne 9, 3) := by decide +kernel
theorem dX5_status_10 : decode cX5_status 10 = .ok (.aload_n 0, 1) := by decide +kernel
theorem dX5_status_11 : decode cX5_status 11 = .ok (.iconst 0, 1) := by decide +kernel
theorem dX5_status_12 : decode cX5_status 12 = .ok (.invokevirtual 103, 3) := by decide +kernel
theorem dX5_status_15 : decode cX5_status 15 = .ok (.ireturn, 1) := by decide +kernel
theorem dX5_status_16 : decode cX5_status 16 = .ok (.iconst 0, 1) := by decide +kernel
theorem dX5_status_17 : decode cX5_status 17 = .ok (.istore_n 2, 1) := by decide +kernel
theorem dX5_status_18 : decode cX5_status 18 = .ok (.iconst 0, 1) := by decide +kernel
theorem dX5_status_19 : decode cX5_status 19 = .ok (.istore_n 3, 1) := by decide +kernel
theorem dX5_status_20 : decode cX5_status 20 = .ok (.iload_n 3, 1) := by decide +kernel
theorem dX5_status_21 : decode cX5_status 21 = .ok (.bipush 7, 2) := by decide +kernel
theorem dX5_status_23 : decode cX5_status 23 = .ok (.if_icmp .ge 32, 3) := by decide +kernel
theorem dX5_status_26 : decode cX5_status 26 = .ok (.iload_n 2, 1) := by decide +kernel
theorem dX5_status_27 : decode cX5_status 27 = .ok (.iload_n 1, 1) := by decide +kernel
theorem dX5_status_28 : decode cX5_status 28 = .ok (.iconst (-1), 1) := by decide +kernel
theorem dX5_status_29 : decode cX5_status 29 = .ok (.if_icmp .eq 8, 3) := by decide +kernel
theorem dX5_status_32 : decode cX5_status 32 = .ok (.iload_n 1, 1) := by decide +kernel
theorem dX5_status_33 : decode cX5_status 33 = .ok (.iload_n 3, 1) := by decide +kernel
theorem dX5_status_34 : decode cX5_status 34 = .ok (.if_icmp .ne 12, 3) := by decide +kernel
theorem dX5_status_37 : decode cX5_status 37 = .ok (.aload_n 0, 1) := by decide +kernel
theorem dX5_status_38 : decode cX5_status 38 = .ok (.getfield 19, 3) := by decide +kernel
theorem dX5_status_41 : decode cX5_status 41 = .ok (.iload_n 3, 1) := by decide +kernel
theorem dX5_status_42 : decode cX5_status 42 = .ok (.iaload, 1) := by decide +kernel
theorem dX5_status_43 : decode cX5_status 43 = .ok (.goto 4, 3) := by decide +kernel
theorem dX5_status_46 : decode cX5_status 46 = .ok (.iconst 0, 1) := by decide +kernel
theorem dX5_status_47 : decode cX5_status 47 = .ok (.iadd, 1) := by decide +kernel
theorem dX5_status_48 : decode cX5_status 48 = .ok (.istore_n 2, 1) := by decide +kernel
theorem dX5_status_49 : decode cX5_status 49 = .ok (.iinc 3 1, 3) := by decide +kernel
theorem dX5_status_52 : decode cX5_status 52 = .ok (.goto (-32), 3) := by decide +kernel
theorem dX5_status_55 : decode cX5_status 55 = .ok (.iload_n 2, 1) := by decide +kernel
theorem dX5_status_56 : decode cX5_status 56 = .ok (.ireturn, 1) := by decide +kernel
set_option maxRecDepth 20000 in
set_option maxHeartbeats 4000000 in
theorem l_X5_status {K : Cx} {x : Int32} {N : Nat} {m : TM} (hN : N = 7) : ∀ (n : Nat) (j : Nat), 7 - j < n → j ≤ 7 → XX RX5 cX5_status 4 (some .int) 1 22 K 20 [some (.ref 49), some (.int x), some (.int (suM (m.1 53) x j)), some (.int (nI j))] [] (m) (fun r1 m1 => r1 = (some (.int (suM (m.1 53) x N))) ∧ m1 = m) := by
  intro n
  induction n with
  | zero => intro j hlt; exact absurd hlt (Nat.not_lt_zero _)
  | succ n ih =>
    intro j hlt hj
    refine x_iload_n (q := 21) dX5_status_20 rfl rfl ?_
    refine x_bipush (q := 23) (v := 7) dX5_status_21 rfl (by decide) ?_
    refine x_icmp_ge (q := 26) (t := 55) dX5_status_23 rfl (by decide) (fun h23 => ?_) (fun h23 => ?_)
    · refine x_iload_n (q := 56) dX5_status_55 rfl rfl ?_
      refine x_ireturn dX5_status_56 rfl rfl ?_
      have e : j = 7 := Nat.le_antisymm hj (lp_stop (n := 7) rfl (by omega) (by omega) h23)
      subst hN
      subst e
      exact ⟨rfl, rfl⟩
    have hjn : j < 7 := lp_go (n := 7) rfl (by omega) (by omega) h23
    refine x_iload_n (q := 27) dX5_status_26 rfl rfl ?_
    refine x_iload_n (q := 28) dX5_status_27 rfl rfl ?_
    refine x_iconst (q := 29) (v := (-1)) dX5_status_28 rfl (by decide) ?_
    refine x_icmp_eq (q := 32) (t := 37) dX5_status_29 rfl (by decide) (fun h29 => ?_) (fun h29 => ?_)
    · refine x_aload_n (q := 38) dX5_status_37 rfl rfl ?_
      refine x_getR (q := 41) dX5_status_38 rfl fl_X5_19 (or5_found) ?_
      refine x_iload_n (q := 42) dX5_status_41 rfl rfl ?_
      refine x_iald (q := 43) dX5_status_42 rfl (ar_53) (ix_nI (n := 7) hjn (by decide)) (Nat.zero_add _) ?_
      refine x_goto (q := 47) dX5_status_43 (by decide) ?_
      refine x_iadd (q := 48) dX5_status_47 rfl ?_
      refine x_istore_n (q := 49) dX5_status_48 rfl (by decide) rfl rfl ?_
      refine x_iinc (q := 52) (v := nI (j + 1)) dX5_status_49 rfl rfl (jnI_s j) (by decide) rfl rfl ?_
      refine x_goto (q := 20) dX5_status_52 (by decide) ?_
      have key := ih (j + 1) (by omega) (by omega)
      rw [suM, if_pos (Or.inl h29)] at key
      exact key
    refine x_iload_n (q := 33) dX5_status_32 rfl rfl ?_
    refine x_iload_n (q := 34) dX5_status_33 rfl rfl ?_
    refine x_icmp_ne (q := 37) (t := 46) dX5_status_34 rfl (by decide) (fun h34 => ?_) (fun h34 => ?_)
    · refine x_iconst (q := 47) (v := 0) dX5_status_46 rfl (by decide) ?_
      refine x_iadd (q := 48) dX5_status_47 rfl ?_
      refine x_istore_n (q := 49) dX5_status_48 rfl (by decide) rfl rfl ?_
      refine x_iinc (q := 52) (v := nI (j + 1)) dX5_status_49 rfl rfl (jnI_s j) (by decide) rfl rfl ?_
      refine x_goto (q := 20) dX5_status_52 (by decide) ?_
      have key := ih (j + 1) (by omega) (by omega)
      rw [suM, if_neg (by rintro (q | q); exact h29 q; exact h34 q)] at key
      rw [add0]
      exact key
    refine x_aload_n (q := 38) dX5_status_37 rfl rfl ?_
    refine x_getR (q := 41) dX5_status_38 rfl fl_X5_19 (or5_found) ?_
    refine x_iload_n (q := 42) dX5_status_41 rfl rfl ?_
    refine x_iald (q := 43) dX5_status_42 rfl (ar_53) (ix_nI (n := 7) hjn (by decide)) (Nat.zero_add _) ?_
    refine x_goto (q := 47) dX5_status_43 (by decide) ?_
    refine x_iadd (q := 48) dX5_status_47 rfl ?_
    refine x_istore_n (q := 49) dX5_status_48 rfl (by decide) rfl rfl ?_
    refine x_iinc (q := 52) (v := nI (j + 1)) dX5_status_49 rfl rfl (jnI_s j) (by decide) rfl rfl ?_
    refine x_goto (q := 20) dX5_status_52 (by decide) ?_
    have key := ih (j + 1) (by omega) (by omega)
    rw [suM, if_pos (Or.inr h34)] at key
    exact key
set_option maxRecDepth 20000 in
set_option maxHeartbeats 4000000 in
theorem c_X5_status {K : Cx} {x : Int32} {m : TM} : CT yX5_status cX5_status 4 (some .int) 1 22 K [.ref 49, .int x] (m) (some (.int ((if (outI x (-1) 6) = true then -1000001 else suM (m.1 53) x 7)))) ((if (outI x (-1) 6) = true then fnm m 0 else m)) := by
  refine ct_ofd (n := 2) (by decide +kernel) rfl rfl ?_
  show XX RX5 cX5_status 4 (some .int) 1 22 K 0 [some (.ref 49), some (.int x), none, none] [] (m) (fun r1 m1 => r1 = (some (.int ((if (outI x (-1) 6) = true then -1000001 else suM (m.1 53) x 7)))) ∧ m1 = (if (outI x (-1) 6) = true then fnm m 0 else m))
  refine x_iload_n (q := 1) dX5_status_0 rfl rfl ?_
  refine x_iconst (q := 2) (v := (-1)) dX5_status_1 rfl (by decide) ?_
  refine x_bipush (q := 4) (v := 6) dX5_status_2 rfl (by decide) ?_
  refine x_callS3v (q := 7) dX5_status_4 rfl ml_X5_48 ms_X5_in1 c_X5_in1 (Nat.le_of_ble_eq_true rfl) ⟨by decide, by decide⟩ ?_
  refine x_ifB_ne (q := 10) (t := 16) dX5_status_7 rfl (by decide) (fun h7 => ?_) (fun h7 => ?_)
  · replace h7 := in_t h7
    refine x_iconst (q := 17) (v := 0) dX5_status_16 rfl (by decide) ?_
    refine x_istore_n (q := 18) dX5_status_17 rfl (by decide) rfl rfl ?_
    refine x_iconst (q := 19) (v := 0) dX5_status_18 rfl (by decide) ?_
    refine x_istore_n (q := 20) dX5_status_19 rfl (by decide) rfl rfl ?_
    rw [if_neg (by rw [h7]; decide), if_neg (by rw [h7]; decide)]
    exact l_X5_status rfl 8 0 (by omega) (by omega)
  replace h7 := in_f h7
  refine x_aload_n (q := 11) dX5_status_10 rfl rfl ?_
  refine x_iconst (q := 12) (v := 0) dX5_status_11 rfl (by decide) ?_
  refine x_callV1v (q := 15) dX5_status_12 rfl ml_X5_103 mv_X5_no rv5 rfl (c_X5_nox (w := 0) (x := -1000001) (by decide) (by decide)) (Nat.le_of_ble_eq_true rfl) ⟨by decide, by decide⟩ ?_
  refine x_ireturn dX5_status_15 rfl rfl ?_
  exact ⟨by simp [h7], by simp [h7]⟩
