/-! how to send, of the class -/
theorem ct_ofq {y : MethodName} {cc : ByteArray} {mL fr lo n : Nat} {rt : Option FieldType} {K : Cx} {as : List Value} {m : TM} {Q : Option Value → TM → Prop} (hy : plainName y.cls = true) (hcat : as.all (fun v => v.category == 1) = true) (hlen : as.length + n = mL) (h : XX y.cls cc mL rt fr lo K 0 (as.map some ++ List.replicate n none) [] m Q) : CQ y cc mL rt fr lo K as m Q :=
  ct_of hy (fun v hv => by simpa using List.all_eq_true.mp hcat v hv) (by omega) (x_pad n h)
def d1 (x : Int32) : Bool := decide (x = 1)
theorem tkn_bc1 {n k c i : Nat} {X s : Nat → Int32} {v : Int32} (hk : k < n) (hI : Iv n (upd s i v)) : d1 (dysC n c (upd (bcF X s n) i v) (12 + 7 * k + 4)) = tkn s n k c i v := tkn_bc hk hI
def ansV (r : Option Nat) : Int32 := match r with
  | some j => nI j
  | none => -1000004
theorem dX4_isTakenOnTrial_0 : decode cX4_isTakenOnTrial 0 = .ok (.iconst 0, 1) := by decide +kernel
theorem dX4_isTakenOnTrial_1 : decode cX4_isTakenOnTrial 1 = .ok (.istore_n 3, 1) := by decide +kernel
theorem dX4_isTakenOnTrial_2 : decode cX4_isTakenOnTrial 2 = .ok (.iload_n 3, 1) := by decide +kernel
theorem dX4_isTakenOnTrial_3 : decode cX4_isTakenOnTrial 3 = .ok (.iload_n 2, 1) := by decide +kernel
theorem dX4_isTakenOnTrial_4 : decode cX4_isTakenOnTrial 4 = .ok (.if_icmp .ge 23, 3) := by decide +kernel
theorem dX4_isTakenOnTrial_7 : decode cX4_isTakenOnTrial 7 = .ok (.aload_n 1, 1) := by decide +kernel
theorem dX4_isTakenOnTrial_8 : decode cX4_isTakenOnTrial 8 = .ok (.getfield 133, 3) := by decide +kernel
theorem dX4_isTakenOnTrial_11 : decode cX4_isTakenOnTrial 11 = .ok (.ifCond .ne 16, 3) := by decide +kernel
theorem dX4_isTakenOnTrial_14 : decode cX4_isTakenOnTrial 14 = .ok (.aload_n 0, 1) := by decide +kernel
theorem dX4_isTakenOnTrial_15 : decode cX4_isTakenOnTrial 15 = .ok (.getfield 16, 3) := by decide +kernel
theorem dX4_isTakenOnTrial_18 : decode cX4_isTakenOnTrial 18 = .ok (.invokevirtual 136, 3) := by decide +kernel
theorem dX4_isTakenOnTrial_21 : decode cX4_isTakenOnTrial 21 = .ok (.iinc 3 1, 3) := by decide +kernel
theorem dX4_isTakenOnTrial_24 : decode cX4_isTakenOnTrial 24 = .ok (.goto (-22), 3) := by decide +kernel
theorem dX4_isTakenOnTrial_27 : decode cX4_isTakenOnTrial 27 = .ok (.aload_n 1, 1) := by decide +kernel
theorem dX4_isTakenOnTrial_28 : decode cX4_isTakenOnTrial 28 = .ok (.getfield 133, 3) := by decide +kernel
theorem dX4_isTakenOnTrial_31 : decode cX4_isTakenOnTrial 31 = .ok (.iconst 1, 1) := by decide +kernel
theorem dX4_isTakenOnTrial_32 : decode cX4_isTakenOnTrial 32 = .ok (.if_icmp .ne 7, 3) := by decide +kernel
theorem dX4_isTakenOnTrial_35 : decode cX4_isTakenOnTrial 35 = .ok (.iconst 1, 1) := by decide +kernel
theorem dX4_isTakenOnTrial_36 : decode cX4_isTakenOnTrial 36 = .ok (.goto 4, 3) := by decide +kernel
theorem dX4_isTakenOnTrial_39 : decode cX4_isTakenOnTrial 39 = .ok (.iconst 0, 1) := by decide +kernel
theorem dX4_isTakenOnTrial_40 : decode cX4_isTakenOnTrial 40 = .ok (.ireturn, 1) := by decide +kernel
set_option maxRecDepth 20000 in
set_option maxHeartbeats 4000000 in
theorem l_X4_isTakenOnTrial {K : Cx} {n8 k c : Nat} {m : TM} (hk : k < n8) (hk8 : k < 8) (hc : c ≤ 1000) : ∀ (n : Nat) (j : Nat) (u : Nat → Int32), c - j < n → j ≤ c → Iv n8 u → XX RX4 cX4_isTakenOnTrial 4 (some .boolean) 4 87 K 2 [some (.ref 0), some (.ref (13 + 4 + k)), some (.int (nI c)), some (.int (nI j))] [] (sr m 13 u) (fun r1 m1 => r1 = (some (.int (bI (d1 (tkR n8 k (c - j) u (12 + 7 * k + 4)))))) ∧ m1 = sr m 13 (tkR n8 k (c - j) u)) := by
  intro n
  induction n with
  | zero => intro j u hlt; exact absurd hlt (Nat.not_lt_zero _)
  | succ n ih =>
    intro j u hlt hj hI
    refine x_iload_n (q := 3) dX4_isTakenOnTrial_2 rfl rfl ?_
    refine x_iload_n (q := 4) dX4_isTakenOnTrial_3 rfl rfl ?_
    refine x_icmp_ge (q := 7) (t := 27) dX4_isTakenOnTrial_4 rfl (by decide) (fun h4 => ?_) (fun h4 => ?_)
    · refine x_aload_n (q := 28) dX4_isTakenOnTrial_27 rfl rfl ?_
      refine x_getIr (q := 31) dX4_isTakenOnTrial_28 rfl fl_X4_133 (ob1 isC_13 hk8 4 (by decide)) ?_
      refine x_iconst (q := 32) (v := 1) dX4_isTakenOnTrial_31 rfl (by decide) ?_
      refine x_icmp_ne (q := 35) (t := 39) dX4_isTakenOnTrial_32 rfl (by decide) (fun h32 => ?_) (fun h32 => ?_)
      · refine x_iconst (q := 40) (v := 0) dX4_isTakenOnTrial_39 rfl (by decide) ?_
        refine x_ireturn dX4_isTakenOnTrial_40 rfl (by decide) ?_
        have e : c - j = 0 := by
          have := lp_stop rfl (by omega) (by omega) h4
          omega
        rw [e]
        show _ = some (Value.int (bI (d1 (u (12 + 7 * k + 4))))) ∧ _ = sr m 13 u
        exact ⟨by rw [d1, decide_eq_false h32]; rfl, rfl⟩
      refine x_iconst (q := 36) (v := 1) dX4_isTakenOnTrial_35 rfl (by decide) ?_
      refine x_goto (q := 40) dX4_isTakenOnTrial_36 (by decide) ?_
      refine x_ireturn dX4_isTakenOnTrial_40 rfl (by decide) ?_
      have e : c - j = 0 := by
        have := lp_stop rfl (by omega) (by omega) h4
        omega
      rw [e]
      show _ = some (Value.int (bI (d1 (u (12 + 7 * k + 4))))) ∧ _ = sr m 13 u
      exact ⟨by rw [d1, decide_eq_true h32]; rfl, rfl⟩
    have hjn : j < c := lp_go rfl (by omega) (by omega) h4
    have e1 : c - j = (c - (j + 1)) + 1 := by omega
    rw [e1]
    simp only [tkR]
    refine x_aload_n (q := 8) dX4_isTakenOnTrial_7 rfl rfl ?_
    refine x_getIr (q := 11) dX4_isTakenOnTrial_8 rfl fl_X4_133 (ob1 isC_13 hk8 4 (by decide)) ?_
    refine x_if_ne (q := 14) (t := 27) dX4_isTakenOnTrial_11 rfl (by decide) (fun h11 => ?_) (fun h11 => ?_)
    · refine x_aload_n (q := 28) dX4_isTakenOnTrial_27 rfl rfl ?_
      refine x_getIr (q := 31) dX4_isTakenOnTrial_28 rfl fl_X4_133 (ob1 isC_13 hk8 4 (by decide)) ?_
      refine x_iconst (q := 32) (v := 1) dX4_isTakenOnTrial_31 rfl (by decide) ?_
      refine x_icmp_ne (q := 35) (t := 39) dX4_isTakenOnTrial_32 rfl (by decide) (fun h32 => ?_) (fun h32 => ?_)
      · refine x_iconst (q := 40) (v := 0) dX4_isTakenOnTrial_39 rfl (by decide) ?_
        refine x_ireturn dX4_isTakenOnTrial_40 rfl (by decide) ?_
        rw [if_neg h11]
        exact ⟨by rw [d1, decide_eq_false h32]; rfl, rfl⟩
      refine x_iconst (q := 36) (v := 1) dX4_isTakenOnTrial_35 rfl (by decide) ?_
      refine x_goto (q := 40) dX4_isTakenOnTrial_36 (by decide) ?_
      refine x_ireturn dX4_isTakenOnTrial_40 rfl (by decide) ?_
      rw [if_neg h11]
      exact ⟨by rw [d1, decide_eq_true h32]; rfl, rfl⟩
    refine x_aload_n (q := 15) dX4_isTakenOnTrial_14 rfl rfl ?_
    refine x_getR (q := 18) dX4_isTakenOnTrial_15 rfl fl_X4_16 (or4_trial) ?_
    refine x_callV0n (q := 21) dX4_isTakenOnTrial_18 rfl ml_X4_136 mv_X0_passDay (rv0 isC_13) rfl (c_X0_passDay isC_13 hI.2.1 hI.1 hI.td) (Nat.le_of_ble_eq_true rfl) ⟨by decide, by decide⟩ ?_
    refine x_iinc (q := 24) (v := nI (j + 1)) dX4_isTakenOnTrial_21 rfl rfl (jnI_s j) (by decide) rfl rfl ?_
    refine x_goto (q := 2) dX4_isTakenOnTrial_24 (by decide) ?_
    rw [if_pos h11]
    exact ih (j + 1) (dyC u n8) (by omega) (by omega) hI.day
set_option maxRecDepth 20000 in
set_option maxHeartbeats 4000000 in
theorem c_X4_isTakenOnTrial {K : Cx} {n8 k c : Nat} {u : Nat → Int32} {m : TM} (hk : k < n8) (hI : Iv n8 u) (hc : c ≤ 1000) : CT yX4_isTakenOnTrial cX4_isTakenOnTrial 4 (some .boolean) 4 87 K [.ref 0, .ref (13 + 4 + k), .int (nI c)] (sr m 13 u) (some (.int (bI (d1 (dysC n8 c u (12 + 7 * k + 4)))))) (sr m 13 (tkR n8 k c u)) := by
  refine ct_ofd (n := 1) (by decide +kernel) rfl rfl ?_
  show XX RX4 cX4_isTakenOnTrial 4 (some .boolean) 4 87 K 0 [some (.ref 0), some (.ref (13 + 4 + k)), some (.int (nI c)), none] [] (sr m 13 u) (fun r1 m1 => r1 = (some (.int (bI (d1 (dysC n8 c u (12 + 7 * k + 4)))))) ∧ m1 = sr m 13 (tkR n8 k c u))
  have h8 := hI.1
  have hk8 : k < 8 := by omega
  rw [← tkR_state hk c u]
  refine x_iconst (q := 1) (v := 0) dX4_isTakenOnTrial_0 rfl (by decide) ?_
  refine x_istore_n (q := 2) dX4_isTakenOnTrial_1 rfl (by decide) rfl rfl ?_
  exact l_X4_isTakenOnTrial hk hk8 hc (c + 1) 0 u (by omega) (by omega) hI
theorem dX4_lineFor_0 : decode cX4_lineFor 0 = .ok (.aload_n 0, 1) := by decide +kernel
theorem dX4_lineFor_1 : decode cX4_lineFor 1 = .ok (.iload_n 1, 1) := by decide +kernel
theorem dX4_lineFor_2 : decode cX4_lineFor 2 = .ok (.invokevirtual 76, 3) := by decide +kernel
theorem dX4_lineFor_5 : decode cX4_lineFor 5 = .ok (.ifCond .ne 13, 3) := by decide +kernel
theorem dX4_lineFor_8 : decode cX4_lineFor 8 = .ok (.iload_n 2, 1) := by decide +kernel
theorem dX4_lineFor_9 : decode cX4_lineFor 9 = .ok (.iconst 0, 1) := by decide +kernel
theorem dX4_lineFor_10 : decode cX4_lineFor 10 = .ok (.bipush 60, 2) := by decide +kernel
theorem dX4_lineFor_12 : decode cX4_lineFor 12 = .ok (.invokestatic 44, 3) := by decide +kernel
theorem dX4_lineFor_15 : decode cX4_lineFor 15 = .ok (.ifCond .eq 10, 3) := by decide +kernel
theorem dX4_lineFor_18 : decode cX4_lineFor 18 = .ok (.aload_n 0, 1) := by decide +kernel
theorem dX4_lineFor_19 : decode cX4_lineFor 19 = .ok (.ldc 48, 2) := by decide +kernel
theorem dX4_lineFor_21 : decode cX4_lineFor 21 = .ok (.invokevirtual 49, 3) := by decide +kernel
theorem dX4_lineFor_24 : decode cX4_lineFor 24 = .ok (.ireturn, 1) := by decide +kernel
theorem dX4_lineFor_25 : decode cX4_lineFor 25 = .ok (.bipush 20, 2) := by decide +kernel
theorem dX4_lineFor_27 : decode cX4_lineFor 27 = .ok (.istore_n 3, 1) := by decide +kernel
theorem dX4_lineFor_28 : decode cX4_lineFor 28 = .ok (.iload_n 3, 1) := by decide +kernel
theorem dX4_lineFor_29 : decode cX4_lineFor 29 = .ok (.ifCond .lt 34, 3) := by decide +kernel
theorem dX4_lineFor_32 : decode cX4_lineFor 32 = .ok (.aload_n 0, 1) := by decide +kernel
theorem dX4_lineFor_33 : decode cX4_lineFor 33 = .ok (.iload_n 1, 1) := by decide +kernel
theorem dX4_lineFor_34 : decode cX4_lineFor 34 = .ok (.invokevirtual 126, 3) := by decide +kernel
theorem dX4_lineFor_37 : decode cX4_lineFor 37 = .ok (.astore 4, 2) := by decide +kernel
theorem dX4_lineFor_39 : decode cX4_lineFor 39 = .ok (.aload 4, 2) := by decide +kernel
theorem dX4_lineFor_41 : decode cX4_lineFor 41 = .ok (.iload_n 3, 1) := by decide +kernel
theorem dX4_lineFor_42 : decode cX4_lineFor 42 = .ok (.putfield 68, 3) := by decide +kernel
theorem dX4_lineFor_45 : decode cX4_lineFor 45 = .ok (.aload_n 0, 1) := by decide +kernel
theorem dX4_lineFor_46 : decode cX4_lineFor 46 = .ok (.aload 4, 2) := by decide +kernel
theorem dX4_lineFor_48 : decode cX4_lineFor 48 = .ok (.iload_n 2, 1) := by decide +kernel
theorem dX4_lineFor_49 : decode cX4_lineFor 49 = .ok (.invokevirtual 140, 3) := by decide +kernel
theorem dX4_lineFor_52 : decode cX4_lineFor 52 = .ok (.ifCond .eq 5, 3) := by decide +kernel
theorem dX4_lineFor_55 : decode cX4_lineFor 55 = .ok (.iload_n 3, 1) := by decide +kernel
theorem dX4_lineFor_56 : decode cX4_lineFor 56 = .ok (.ireturn, 1) := by decide +kernel
theorem dX4_lineFor_57 : decode cX4_lineFor 57 = .ok (.iinc 3 (-1), 3) := by decide +kernel
theorem dX4_lineFor_60 : decode cX4_lineFor 60 = .ok (.goto (-32), 3) := by decide +kernel
theorem dX4_lineFor_63 : decode cX4_lineFor 63 = .ok (.aload_n 0, 1) := by decide +kernel
theorem dX4_lineFor_64 : decode cX4_lineFor 64 = .ok (.ldc 139, 2) := by decide +kernel
theorem dX4_lineFor_66 : decode cX4_lineFor 66 = .ok (.invokevirtual 49, 3) := by decide +kernel
theorem dX4_lineFor_69 : decode cX4_lineFor 69 = .ok (.ireturn, 1) := by decide +kernel
set_option maxRecDepth 20000 in
set_option maxHeartbeats 4000000 in
theorem l_X4_lineFor {K : Cx} {n8 k c : Nat} {m : TM} (hI : Iv n8 (m.1 1)) (hk : k < n8) (hc : c ≤ 60) : ∀ (n : Nat) (j : Nat) (X : Nat → Int32), j < n → j ≤ 21 → XX RX4 cX4_lineFor 5 (some .int) 5 110 K 28 [some (.ref 0), some (.int (nI k)), some (.int (nI c)), some (.int (dI j)), none] [] (sr m 13 X) (fun r1 m1 => ∃ X, r1 = some (.int (ansV (srD (fun v => tkn (m.1 1) n8 k c (12 + 7 * k + 1) (nI v)) 0 j))) ∧ m1 = memC m X (srD (fun v => tkn (m.1 1) n8 k c (12 + 7 * k + 1) (nI v)) 0 j)) := by
  intro n
  induction n with
  | zero => intro j X hlt; exact absurd hlt (Nat.not_lt_zero _)
  | succ n ih =>
    intro j X hlt hj
    have h8 := hI.1
    have hk8 : k < 8 := by omega
    refine x_iload_n (q := 29) dX4_lineFor_28 rfl rfl ?_
    refine x_if_lt (q := 32) (t := 63) dX4_lineFor_29 rfl (by decide) (fun h29 => ?_) (fun h29 => ?_)
    · have e : j = 0 := Nat.le_zero.mp ((dI_lt (j := j) (lo := 0) (by omega) (by omega)).mp h29)
      subst e
      refine x_aload_n (q := 64) dX4_lineFor_63 rfl rfl ?_
      refine x_ldc (q := 66) dX4_lineFor_64 rfl kc_X4_139 ?_
      refine x_callV1v (q := 69) dX4_lineFor_66 rfl ml_X4_49 mv_X4_finding rv4 rfl (c_X4_finding (w := 3) (by decide) (by decide)) (Nat.le_of_ble_eq_true rfl) ⟨by decide, by decide⟩ ?_
      refine x_ireturn dX4_lineFor_69 rfl rfl ?_
      exact ⟨_, rfl, rfl⟩
    have hj0 : j ≠ 0 := fun q => h29 ((dI_lt (j := j) (lo := 0) (by omega) (by omega)).mpr (by omega))
    obtain ⟨v, rfl⟩ : ∃ v, j = v + 1 := ⟨j - 1, by omega⟩
    have hu : Iv n8 (upd (bcF X (m.1 1) n8) (12 + 7 * k + 1) (dI (v + 1))) := (iv_bc hI).upd_p hk (by decide) (fun q => by omega) (fun q => by omega)
    simp only [srD, Nat.not_lt_zero, if_false]
    refine x_aload_n (q := 33) dX4_lineFor_32 rfl rfl ?_
    refine x_iload_n (q := 34) dX4_lineFor_33 rfl rfl ?_
    refine x_callV1v (q := 37) dX4_lineFor_34 rfl ml_X4_126 mv_X4_tried rv4 rfl (c_X4_tried hI hk8) (Nat.le_of_ble_eq_true rfl) ⟨by decide, by decide⟩ ?_
    refine x_astore (q := 39) dX4_lineFor_37 rfl (by decide) rfl rfl ?_
    refine x_aload (q := 41) dX4_lineFor_39 rfl rfl ?_
    refine x_iload_n (q := 42) dX4_lineFor_41 rfl rfl ?_
    refine x_putIr (q := 45) dX4_lineFor_42 rfl fl_X4_68 (ob1 isC_13 hk8 1 (by decide)) rfl rfl rfl  ?_
    refine x_aload_n (q := 46) dX4_lineFor_45 rfl rfl ?_
    refine x_aload (q := 48) dX4_lineFor_46 rfl rfl ?_
    refine x_iload_n (q := 49) dX4_lineFor_48 rfl rfl ?_
    refine x_callV2v (q := 52) dX4_lineFor_49 rfl ml_X4_140 mv_X4_isTakenOnTrial rv4 rfl (c_X4_isTakenOnTrial hk hu (by omega)) (Nat.le_of_ble_eq_true rfl) ⟨by decide, by decide⟩ ?_
    refine x_ifB_eq (q := 55) (t := 57) dX4_lineFor_52 rfl (by decide) (fun h52 => ?_) (fun h52 => ?_)
    · refine x_iinc (q := 60) (v := dI v) dX4_lineFor_57 rfl rfl (dI_dec v) (by decide) rfl rfl ?_
      refine x_goto (q := 28) dX4_lineFor_60 (by decide) ?_
      rw [dI_s, tkn_bc1 hk (hI.upd_p hk (by decide) (fun q => by omega) (fun q => by omega))] at h52
      rw [if_neg (by rw [h52]; decide)]
      exact x_ls (ih v _ (by omega) (by omega)) (And.intro rfl (And.intro rfl (And.intro rfl (And.intro rfl trivial))))
    refine x_iload_n (q := 56) dX4_lineFor_55 rfl rfl ?_
    refine x_ireturn dX4_lineFor_56 rfl rfl ?_
    rw [dI_s, tkn_bc1 hk (hI.upd_p hk (by decide) (fun q => by omega) (fun q => by omega))] at h52
    rw [if_pos h52, dI_s]
    exact ⟨_, rfl, rfl⟩
set_option maxRecDepth 20000 in
set_option maxHeartbeats 4000000 in
theorem c_X4_lineFor {K : Cx} {n8 k c : Nat} {m : TM} (hI : Iv n8 (m.1 1)) (hk : k < n8) (hc : c ≤ 60) : CQ yX4_lineFor cX4_lineFor 5 (some .int) 5 110 K [.ref 0, .int (nI k), .int (nI c)] (m) (fun r1 m1 => ∃ X, r1 = some (.int (ansV (srD (fun v => tkn (m.1 1) n8 k c (12 + 7 * k + 1) (nI v)) 0 21))) ∧ m1 = memC m X (srD (fun v => tkn (m.1 1) n8 k c (12 + 7 * k + 1) (nI v)) 0 21)) := by
  refine ct_ofq (n := 2) (by decide +kernel) rfl rfl ?_
  show XX RX4 cX4_lineFor 5 (some .int) 5 110 K 0 [some (.ref 0), some (.int (nI k)), some (.int (nI c)), none, none] [] (m) (fun r1 m1 => ∃ X, r1 = some (.int (ansV (srD (fun v => tkn (m.1 1) n8 k c (12 + 7 * k + 1) (nI v)) 0 21))) ∧ m1 = memC m X (srD (fun v => tkn (m.1 1) n8 k c (12 + 7 * k + 1) (nI v)) 0 21))
  refine x_aload_n (q := 1) dX4_lineFor_0 rfl rfl ?_
  refine x_iload_n (q := 2) dX4_lineFor_1 rfl rfl ?_
  refine x_callV1v (q := 5) dX4_lineFor_2 rfl ml_X4_76 mv_X4_isNoParcel rv4 rfl c_X4_isNoParcel (Nat.le_of_ble_eq_true rfl) ⟨by decide, by decide⟩ ?_
  refine x_ifB_ne (q := 8) (t := 18) dX4_lineFor_5 rfl (by decide) (fun h5 => ?_) (fun h5 => ?_)
  · exact absurd (par_in hI.2.1 hI.1 hk) (by rw [h5]; decide)
  refine x_iload_n (q := 9) dX4_lineFor_8 rfl rfl ?_
  refine x_iconst (q := 10) (v := 0) dX4_lineFor_9 rfl (by decide) ?_
  refine x_bipush (q := 12) (v := 60) dX4_lineFor_10 rfl (by decide) ?_
  refine x_callS3v (q := 15) dX4_lineFor_12 rfl ml_X4_44 ms_X4_isOut c_X4_isOut (Nat.le_of_ble_eq_true rfl) ⟨by decide, by decide⟩ ?_
  refine x_ifB_eq (q := 18) (t := 25) dX4_lineFor_15 rfl (by decide) (fun h15 => ?_) (fun h15 => ?_)
  · refine x_bipush (q := 27) (v := 20) dX4_lineFor_25 rfl (by decide) ?_
    refine x_istore_n (q := 28) dX4_lineFor_27 rfl (by decide) rfl rfl ?_
    have h := l_X4_lineFor (K := K) hI hk hc 22 21 (m.1 13) (by omega) (by omega)
    rw [sr_self] at h
    exact h
  exact absurd (rng_in (a := 0) (Nat.zero_le c) hc (by decide)) (by show ¬ outI (nI c) 0 60 = false; rw [h15]; decide)
set_option maxRecDepth 20000 in
set_option maxHeartbeats 4000000 in
theorem c_X4_lineForB {K : Cx} {p y : Int32} {m : TM} (hb : (outI p 0 (m.1 1 1 - 1) || outI y 0 60) = true) : CT yX4_lineFor cX4_lineFor 5 (some .int) 5 110 K [.ref 0, .int p, .int y] (m) (some (.int (-1000001))) (fnd m 0) := by
  refine ct_ofd (n := 2) (by decide +kernel) rfl rfl ?_
  show XX RX4 cX4_lineFor 5 (some .int) 5 110 K 0 [some (.ref 0), some (.int p), some (.int y), none, none] [] (m) (fun r1 m1 => r1 = (some (.int (-1000001))) ∧ m1 = fnd m 0)
  refine x_aload_n (q := 1) dX4_lineFor_0 rfl rfl ?_
  refine x_iload_n (q := 2) dX4_lineFor_1 rfl rfl ?_
  refine x_callV1v (q := 5) dX4_lineFor_2 rfl ml_X4_76 mv_X4_isNoParcel rv4 rfl c_X4_isNoParcel (Nat.le_of_ble_eq_true rfl) ⟨by decide, by decide⟩ ?_
  refine x_ifB_ne (q := 8) (t := 18) dX4_lineFor_5 rfl (by decide) (fun h5 => ?_) (fun h5 => ?_)
  · refine x_aload_n (q := 19) dX4_lineFor_18 rfl rfl ?_
    refine x_ldc (q := 21) dX4_lineFor_19 rfl kc_X4_48 ?_
    refine x_callV1v (q := 24) dX4_lineFor_21 rfl ml_X4_49 mv_X4_finding rv4 rfl (c_X4_finding (w := 0) (by decide) (by decide)) (Nat.le_of_ble_eq_true rfl) ⟨by decide, by decide⟩ ?_
    refine x_ireturn dX4_lineFor_24 rfl rfl ?_
    exact ⟨rfl, rfl⟩
  refine x_iload_n (q := 9) dX4_lineFor_8 rfl rfl ?_
  refine x_iconst (q := 10) (v := 0) dX4_lineFor_9 rfl (by decide) ?_
  refine x_bipush (q := 12) (v := 60) dX4_lineFor_10 rfl (by decide) ?_
  refine x_callS3v (q := 15) dX4_lineFor_12 rfl ml_X4_44 ms_X4_isOut c_X4_isOut (Nat.le_of_ble_eq_true rfl) ⟨by decide, by decide⟩ ?_
  refine x_ifB_eq (q := 18) (t := 25) dX4_lineFor_15 rfl (by decide) (fun h15 => ?_) (fun h15 => ?_)
  · exact absurd hb (by simp [h5, h15])
  refine x_aload_n (q := 19) dX4_lineFor_18 rfl rfl ?_
  refine x_ldc (q := 21) dX4_lineFor_19 rfl kc_X4_48 ?_
  refine x_callV1v (q := 24) dX4_lineFor_21 rfl ml_X4_49 mv_X4_finding rv4 rfl (c_X4_finding (w := 0) (by decide) (by decide)) (Nat.le_of_ble_eq_true rfl) ⟨by decide, by decide⟩ ?_
  refine x_ireturn dX4_lineFor_24 rfl rfl ?_
  exact ⟨rfl, rfl⟩
theorem dX4_weightFor_0 : decode cX4_weightFor 0 = .ok (.aload_n 0, 1) := by decide +kernel
theorem dX4_weightFor_1 : decode cX4_weightFor 1 = .ok (.iload_n 1, 1) := by decide +kernel
theorem dX4_weightFor_2 : decode cX4_weightFor 2 = .ok (.invokevirtual 76, 3) := by decide +kernel
theorem dX4_weightFor_5 : decode cX4_weightFor 5 = .ok (.ifCond .ne 13, 3) := by decide +kernel
theorem dX4_weightFor_8 : decode cX4_weightFor 8 = .ok (.iload_n 2, 1) := by decide +kernel
theorem dX4_weightFor_9 : decode cX4_weightFor 9 = .ok (.iconst 0, 1) := by decide +kernel
theorem dX4_weightFor_10 : decode cX4_weightFor 10 = .ok (.bipush 60, 2) := by decide +kernel
theorem dX4_weightFor_12 : decode cX4_weightFor 12 = .ok (.invokestatic 44, 3) := by decide +kernel
theorem dX4_weightFor_15 : decode cX4_weightFor 15 = .ok (.ifCond .eq 10, 3) := by decide +kernel
theorem dX4_weightFor_18 : decode cX4_weightFor 18 = .ok (.aload_n 0, 1) := by decide +kernel
theorem dX4_weightFor_19 : decode cX4_weightFor 19 = .ok (.ldc 48, 2) := by decide +kernel
theorem dX4_weightFor_21 : decode cX4_weightFor 21 = .ok (.invokevirtual 49, 3) := by decide +kernel
theorem dX4_weightFor_24 : decode cX4_weightFor 24 = .ok (.ireturn, 1) := by decide +kernel
theorem dX4_weightFor_25 : decode cX4_weightFor 25 = .ok (.bipush 99, 2) := by decide +kernel
theorem dX4_weightFor_27 : decode cX4_weightFor 27 = .ok (.istore_n 3, 1) := by decide +kernel
theorem dX4_weightFor_28 : decode cX4_weightFor 28 = .ok (.iload_n 3, 1) := by decide +kernel
theorem dX4_weightFor_29 : decode cX4_weightFor 29 = .ok (.iconst 1, 1) := by decide +kernel
theorem dX4_weightFor_30 : decode cX4_weightFor 30 = .ok (.if_icmp .lt 53, 3) := by decide +kernel
theorem dX4_weightFor_33 : decode cX4_weightFor 33 = .ok (.iload_n 3, 1) := by decide +kernel
theorem dX4_weightFor_34 : decode cX4_weightFor 34 = .ok (.bipush 99, 2) := by decide +kernel
theorem dX4_weightFor_36 : decode cX4_weightFor 36 = .ok (.if_icmp .ge 16, 3) := by decide +kernel
theorem dX4_weightFor_39 : decode cX4_weightFor 39 = .ok (.iload_n 3, 1) := by decide +kernel
theorem dX4_weightFor_40 : decode cX4_weightFor 40 = .ok (.iload_n 3, 1) := by decide +kernel
theorem dX4_weightFor_41 : decode cX4_weightFor 41 = .ok (.iconst 1, 1) := by decide +kernel
theorem dX4_weightFor_42 : decode cX4_weightFor 42 = .ok (.iadd, 1) := by decide +kernel
theorem dX4_weightFor_43 : decode cX4_weightFor 43 = .ok (.invokestatic 144, 3) := by decide +kernel
theorem dX4_weightFor_46 : decode cX4_weightFor 46 = .ok (.ifCond .eq 6, 3) := by decide +kernel
theorem dX4_weightFor_49 : decode cX4_weightFor 49 = .ok (.goto 28, 3) := by decide +kernel
theorem dX4_weightFor_52 : decode cX4_weightFor 52 = .ok (.aload_n 0, 1) := by decide +kernel
theorem dX4_weightFor_53 : decode cX4_weightFor 53 = .ok (.iload_n 1, 1) := by decide +kernel
theorem dX4_weightFor_54 : decode cX4_weightFor 54 = .ok (.invokevirtual 126, 3) := by decide +kernel
theorem dX4_weightFor_57 : decode cX4_weightFor 57 = .ok (.astore 4, 2) := by decide +kernel
theorem dX4_weightFor_59 : decode cX4_weightFor 59 = .ok (.aload 4, 2) := by decide +kernel
theorem dX4_weightFor_61 : decode cX4_weightFor 61 = .ok (.iload_n 3, 1) := by decide +kernel
theorem dX4_weightFor_62 : decode cX4_weightFor 62 = .ok (.putfield 147, 3) := by decide +kernel
theorem dX4_weightFor_65 : decode cX4_weightFor 65 = .ok (.aload_n 0, 1) := by decide +kernel
theorem dX4_weightFor_66 : decode cX4_weightFor 66 = .ok (.aload 4, 2) := by decide +kernel
theorem dX4_weightFor_68 : decode cX4_weightFor 68 = .ok (.iload_n 2, 1) := by decide +kernel
theorem dX4_weightFor_69 : decode cX4_weightFor 69 = .ok (.invokevirtual 140, 3) := by decide +kernel
theorem dX4_weightFor_72 : decode cX4_weightFor 72 = .ok (.ifCond .eq 5, 3) := by decide +kernel
theorem dX4_weightFor_75 : decode cX4_weightFor 75 = .ok (.iload_n 3, 1) := by decide +kernel
theorem dX4_weightFor_76 : decode cX4_weightFor 76 = .ok (.ireturn, 1) := by decide +kernel
theorem dX4_weightFor_77 : decode cX4_weightFor 77 = .ok (.iinc 3 (-1), 3) := by decide +kernel
theorem dX4_weightFor_80 : decode cX4_weightFor 80 = .ok (.goto (-52), 3) := by decide +kernel
theorem dX4_weightFor_83 : decode cX4_weightFor 83 = .ok (.aload_n 0, 1) := by decide +kernel
theorem dX4_weightFor_84 : decode cX4_weightFor 84 = .ok (.ldc 139, 2) := by decide +kernel
theorem dX4_weightFor_86 : decode cX4_weightFor 86 = .ok (.invokevirtual 49, 3) := by decide +kernel
theorem dX4_weightFor_89 : decode cX4_weightFor 89 = .ok (.ireturn, 1) := by decide +kernel
set_option maxRecDepth 20000 in
set_option maxHeartbeats 4000000 in
theorem l_X4_weightFor {K : Cx} {n8 k c : Nat} {m : TM} (hI : Iv n8 (m.1 1)) (hk : k < n8) (hc : c ≤ 60) : ∀ (n : Nat) (j : Nat) (X : Nat → Int32), j < n → j ≤ 100 → (j = 100 ∨ tkn (m.1 1) n8 k c (12 + 7 * k + 2) (nI j) = false) → XX RX4 cX4_weightFor 5 (some .int) 5 110 K 28 [some (.ref 0), some (.int (nI k)), some (.int (nI c)), some (.int (dI j)), none] [] (sr m 13 X) (fun r1 m1 => ∃ X, r1 = some (.int (ansV (srD (fun v => tkn (m.1 1) n8 k c (12 + 7 * k + 2) (nI v)) 1 j))) ∧ m1 = memC m X (srD (fun v => tkn (m.1 1) n8 k c (12 + 7 * k + 2) (nI v)) 1 j)) := by
  intro n
  induction n with
  | zero => intro j X hlt; exact absurd hlt (Nat.not_lt_zero _)
  | succ n ih =>
    intro j X hlt hj hprev
    have h8 := hI.1
    have hk8 : k < 8 := by omega
    refine x_iload_n (q := 29) dX4_weightFor_28 rfl rfl ?_
    refine x_iconst (q := 30) (v := 1) dX4_weightFor_29 rfl (by decide) ?_
    refine x_icmp_lt (q := 33) (t := 83) dX4_weightFor_30 rfl (by decide) (fun h30 => ?_) (fun h30 => ?_)
    · have e : j ≤ 1 := (dI_lt (j := j) (lo := 1) (by omega) (by omega)).mp h30
      have e2 : srD (fun v => tkn (m.1 1) n8 k c (12 + 7 * k + 2) (nI v)) 1 j = none := by
        cases j with
        | zero => rfl
        | succ v => rw [srD, if_pos (by omega)]
      rw [e2]
      refine x_aload_n (q := 84) dX4_weightFor_83 rfl rfl ?_
      refine x_ldc (q := 86) dX4_weightFor_84 rfl kc_X4_139 ?_
      refine x_callV1v (q := 89) dX4_weightFor_86 rfl ml_X4_49 mv_X4_finding rv4 rfl (c_X4_finding (w := 3) (by decide) (by decide)) (Nat.le_of_ble_eq_true rfl) ⟨by decide, by decide⟩ ?_
      refine x_ireturn dX4_weightFor_89 rfl rfl ?_
      exact ⟨_, rfl, rfl⟩
    have hj0 : ¬ j ≤ 1 := fun q => h30 ((dI_lt (j := j) (lo := 1) (by omega) (by omega)).mpr q)
    obtain ⟨v, rfl⟩ : ∃ v, j = v + 1 := ⟨j - 1, by omega⟩
    have hu : Iv n8 (upd (bcF X (m.1 1) n8) (12 + 7 * k + 2) (dI (v + 1))) := (iv_bc hI).upd_p hk (by decide) (fun q => by omega) (fun q => by omega)
    have hv1 : ¬ v < 1 := by omega
    have hiv := hI.upd_p (v := nI v) (f := 2) hk (by decide) (fun q => by omega) (fun q => by omega)
    simp only [srD, hv1, if_false]
    refine x_iload_n (q := 34) dX4_weightFor_33 rfl rfl ?_
    refine x_bipush (q := 36) (v := 99) dX4_weightFor_34 rfl (by decide) ?_
    refine x_icmp_ge (q := 39) (t := 52) dX4_weightFor_36 rfl (by decide) (fun h36 => ?_) (fun h36 => ?_)
    · refine x_aload_n (q := 53) dX4_weightFor_52 rfl rfl ?_
      refine x_iload_n (q := 54) dX4_weightFor_53 rfl rfl ?_
      refine x_callV1v (q := 57) dX4_weightFor_54 rfl ml_X4_126 mv_X4_tried rv4 rfl (c_X4_tried hI hk8) (Nat.le_of_ble_eq_true rfl) ⟨by decide, by decide⟩ ?_
      refine x_astore (q := 59) dX4_weightFor_57 rfl (by decide) rfl rfl ?_
      refine x_aload (q := 61) dX4_weightFor_59 rfl rfl ?_
      refine x_iload_n (q := 62) dX4_weightFor_61 rfl rfl ?_
      refine x_putIr (q := 65) dX4_weightFor_62 rfl fl_X4_147 (ob1 isC_13 hk8 2 (by decide)) rfl rfl rfl  ?_
      refine x_aload_n (q := 66) dX4_weightFor_65 rfl rfl ?_
      refine x_aload (q := 68) dX4_weightFor_66 rfl rfl ?_
      refine x_iload_n (q := 69) dX4_weightFor_68 rfl rfl ?_
      refine x_callV2v (q := 72) dX4_weightFor_69 rfl ml_X4_140 mv_X4_isTakenOnTrial rv4 rfl (c_X4_isTakenOnTrial hk hu (by omega)) (Nat.le_of_ble_eq_true rfl) ⟨by decide, by decide⟩ ?_
      refine x_ifB_eq (q := 75) (t := 77) dX4_weightFor_72 rfl (by decide) (fun h72 => ?_) (fun h72 => ?_)
      · refine x_iinc (q := 80) (v := dI v) dX4_weightFor_77 rfl rfl (dI_dec v) (by decide) rfl rfl ?_
        refine x_goto (q := 28) dX4_weightFor_80 (by decide) ?_
        rw [dI_s, tkn_bc1 hk hiv] at h72
        rw [if_neg (by rw [h72]; decide)]
        exact x_ls (ih v _ (by omega) (by omega) (Or.inr h72)) (And.intro rfl (And.intro rfl (And.intro rfl (And.intro rfl trivial))))
      refine x_iload_n (q := 76) dX4_weightFor_75 rfl rfl ?_
      refine x_ireturn dX4_weightFor_76 rfl rfl ?_
      rw [dI_s, tkn_bc1 hk hiv] at h72
      rw [if_pos h72, dI_s]
      exact ⟨_, rfl, rfl⟩
    refine x_iload_n (q := 40) dX4_weightFor_39 rfl rfl ?_
    refine x_iload_n (q := 41) dX4_weightFor_40 rfl rfl ?_
    refine x_iconst (q := 42) (v := 1) dX4_weightFor_41 rfl (by decide) ?_
    refine x_iadd (q := 43) dX4_weightFor_42 rfl ?_
    refine x_callS2v (q := 46) dX4_weightFor_43 rfl ml_X4_144 ms_X1_weighAlike c_X1_weighAlike (Nat.le_of_ble_eq_true rfl) ⟨by decide, by decide⟩ ?_
    refine x_ifB_eq (q := 49) (t := 52) dX4_weightFor_46 rfl (by decide) (fun h46 => ?_) (fun h46 => ?_)
    · refine x_aload_n (q := 53) dX4_weightFor_52 rfl rfl ?_
      refine x_iload_n (q := 54) dX4_weightFor_53 rfl rfl ?_
      refine x_callV1v (q := 57) dX4_weightFor_54 rfl ml_X4_126 mv_X4_tried rv4 rfl (c_X4_tried hI hk8) (Nat.le_of_ble_eq_true rfl) ⟨by decide, by decide⟩ ?_
      refine x_astore (q := 59) dX4_weightFor_57 rfl (by decide) rfl rfl ?_
      refine x_aload (q := 61) dX4_weightFor_59 rfl rfl ?_
      refine x_iload_n (q := 62) dX4_weightFor_61 rfl rfl ?_
      refine x_putIr (q := 65) dX4_weightFor_62 rfl fl_X4_147 (ob1 isC_13 hk8 2 (by decide)) rfl rfl rfl  ?_
      refine x_aload_n (q := 66) dX4_weightFor_65 rfl rfl ?_
      refine x_aload (q := 68) dX4_weightFor_66 rfl rfl ?_
      refine x_iload_n (q := 69) dX4_weightFor_68 rfl rfl ?_
      refine x_callV2v (q := 72) dX4_weightFor_69 rfl ml_X4_140 mv_X4_isTakenOnTrial rv4 rfl (c_X4_isTakenOnTrial hk hu (by omega)) (Nat.le_of_ble_eq_true rfl) ⟨by decide, by decide⟩ ?_
      refine x_ifB_eq (q := 75) (t := 77) dX4_weightFor_72 rfl (by decide) (fun h72 => ?_) (fun h72 => ?_)
      · refine x_iinc (q := 80) (v := dI v) dX4_weightFor_77 rfl rfl (dI_dec v) (by decide) rfl rfl ?_
        refine x_goto (q := 28) dX4_weightFor_80 (by decide) ?_
        rw [dI_s, tkn_bc1 hk hiv] at h72
        rw [if_neg (by rw [h72]; decide)]
        exact x_ls (ih v _ (by omega) (by omega) (Or.inr h72)) (And.intro rfl (And.intro rfl (And.intro rfl (And.intro rfl trivial))))
      refine x_iload_n (q := 76) dX4_weightFor_75 rfl rfl ?_
      refine x_ireturn dX4_weightFor_76 rfl rfl ?_
      rw [dI_s, tkn_bc1 hk hiv] at h72
      rw [if_pos h72, dI_s]
      exact ⟨_, rfl, rfl⟩
    refine x_goto (q := 77) dX4_weightFor_49 (by decide) ?_
    refine x_iinc (q := 80) (v := dI v) dX4_weightFor_77 rfl rfl (dI_dec v) (by decide) rfl rfl ?_
    refine x_goto (q := 28) dX4_weightFor_80 (by decide) ?_
    have h72 : tkn (m.1 1) n8 k c (12 + 7 * k + 2) (nI v) = false := by
      rw [dI_s, nI_1] at h46
      rw [wal_tkn hk hI h46]
      refine hprev.resolve_left (fun q => ?_)
      rw [dI_s] at h36
      exact h36 (by rw [show v = 99 by omega]; decide)
    rw [if_neg (by rw [h72]; decide)]
    exact x_ls (ih v _ (by omega) (by omega) (Or.inr h72)) (And.intro rfl (And.intro rfl (And.intro rfl (And.intro rfl trivial))))
set_option maxRecDepth 20000 in
set_option maxHeartbeats 4000000 in
theorem c_X4_weightFor {K : Cx} {n8 k c : Nat} {m : TM} (hI : Iv n8 (m.1 1)) (hk : k < n8) (hc : c ≤ 60) : CQ yX4_weightFor cX4_weightFor 5 (some .int) 5 110 K [.ref 0, .int (nI k), .int (nI c)] (m) (fun r1 m1 => ∃ X, r1 = some (.int (ansV (srD (fun v => tkn (m.1 1) n8 k c (12 + 7 * k + 2) (nI v)) 1 100))) ∧ m1 = memC m X (srD (fun v => tkn (m.1 1) n8 k c (12 + 7 * k + 2) (nI v)) 1 100)) := by
  refine ct_ofq (n := 2) (by decide +kernel) rfl rfl ?_
  show XX RX4 cX4_weightFor 5 (some .int) 5 110 K 0 [some (.ref 0), some (.int (nI k)), some (.int (nI c)), none, none] [] (m) (fun r1 m1 => ∃ X, r1 = some (.int (ansV (srD (fun v => tkn (m.1 1) n8 k c (12 + 7 * k + 2) (nI v)) 1 100))) ∧ m1 = memC m X (srD (fun v => tkn (m.1 1) n8 k c (12 + 7 * k + 2) (nI v)) 1 100))
  refine x_aload_n (q := 1) dX4_weightFor_0 rfl rfl ?_
  refine x_iload_n (q := 2) dX4_weightFor_1 rfl rfl ?_
  refine x_callV1v (q := 5) dX4_weightFor_2 rfl ml_X4_76 mv_X4_isNoParcel rv4 rfl c_X4_isNoParcel (Nat.le_of_ble_eq_true rfl) ⟨by decide, by decide⟩ ?_
  refine x_ifB_ne (q := 8) (t := 18) dX4_weightFor_5 rfl (by decide) (fun h5 => ?_) (fun h5 => ?_)
  · exact absurd (par_in hI.2.1 hI.1 hk) (by rw [h5]; decide)
  refine x_iload_n (q := 9) dX4_weightFor_8 rfl rfl ?_
  refine x_iconst (q := 10) (v := 0) dX4_weightFor_9 rfl (by decide) ?_
  refine x_bipush (q := 12) (v := 60) dX4_weightFor_10 rfl (by decide) ?_
  refine x_callS3v (q := 15) dX4_weightFor_12 rfl ml_X4_44 ms_X4_isOut c_X4_isOut (Nat.le_of_ble_eq_true rfl) ⟨by decide, by decide⟩ ?_
  refine x_ifB_eq (q := 18) (t := 25) dX4_weightFor_15 rfl (by decide) (fun h15 => ?_) (fun h15 => ?_)
  · refine x_bipush (q := 27) (v := 99) dX4_weightFor_25 rfl (by decide) ?_
    refine x_istore_n (q := 28) dX4_weightFor_27 rfl (by decide) rfl rfl ?_
    have h := l_X4_weightFor (K := K) hI hk hc 101 100 (m.1 13) (by omega) (by omega) (Or.inl rfl)
    rw [sr_self] at h
    exact h
  exact absurd (rng_in (a := 0) (Nat.zero_le c) hc (by decide)) (by show ¬ outI (nI c) 0 60 = false; rw [h15]; decide)
set_option maxRecDepth 20000 in
set_option maxHeartbeats 4000000 in
theorem c_X4_weightForB {K : Cx} {p y : Int32} {m : TM} (hb : (outI p 0 (m.1 1 1 - 1) || outI y 0 60) = true) : CT yX4_weightFor cX4_weightFor 5 (some .int) 5 110 K [.ref 0, .int p, .int y] (m) (some (.int (-1000001))) (fnd m 0) := by
  refine ct_ofd (n := 2) (by decide +kernel) rfl rfl ?_
  show XX RX4 cX4_weightFor 5 (some .int) 5 110 K 0 [some (.ref 0), some (.int p), some (.int y), none, none] [] (m) (fun r1 m1 => r1 = (some (.int (-1000001))) ∧ m1 = fnd m 0)
  refine x_aload_n (q := 1) dX4_weightFor_0 rfl rfl ?_
  refine x_iload_n (q := 2) dX4_weightFor_1 rfl rfl ?_
  refine x_callV1v (q := 5) dX4_weightFor_2 rfl ml_X4_76 mv_X4_isNoParcel rv4 rfl c_X4_isNoParcel (Nat.le_of_ble_eq_true rfl) ⟨by decide, by decide⟩ ?_
  refine x_ifB_ne (q := 8) (t := 18) dX4_weightFor_5 rfl (by decide) (fun h5 => ?_) (fun h5 => ?_)
  · refine x_aload_n (q := 19) dX4_weightFor_18 rfl rfl ?_
    refine x_ldc (q := 21) dX4_weightFor_19 rfl kc_X4_48 ?_
    refine x_callV1v (q := 24) dX4_weightFor_21 rfl ml_X4_49 mv_X4_finding rv4 rfl (c_X4_finding (w := 0) (by decide) (by decide)) (Nat.le_of_ble_eq_true rfl) ⟨by decide, by decide⟩ ?_
    refine x_ireturn dX4_weightFor_24 rfl rfl ?_
    exact ⟨rfl, rfl⟩
  refine x_iload_n (q := 9) dX4_weightFor_8 rfl rfl ?_
  refine x_iconst (q := 10) (v := 0) dX4_weightFor_9 rfl (by decide) ?_
  refine x_bipush (q := 12) (v := 60) dX4_weightFor_10 rfl (by decide) ?_
  refine x_callS3v (q := 15) dX4_weightFor_12 rfl ml_X4_44 ms_X4_isOut c_X4_isOut (Nat.le_of_ble_eq_true rfl) ⟨by decide, by decide⟩ ?_
  refine x_ifB_eq (q := 18) (t := 25) dX4_weightFor_15 rfl (by decide) (fun h15 => ?_) (fun h15 => ?_)
  · exact absurd hb (by simp [h5, h15])
  refine x_aload_n (q := 19) dX4_weightFor_18 rfl rfl ?_
  refine x_ldc (q := 21) dX4_weightFor_19 rfl kc_X4_48 ?_
  refine x_callV1v (q := 24) dX4_weightFor_21 rfl ml_X4_49 mv_X4_finding rv4 rfl (c_X4_finding (w := 0) (by decide) (by decide)) (Nat.le_of_ble_eq_true rfl) ⟨by decide, by decide⟩ ?_
  refine x_ireturn dX4_weightFor_24 rfl rfl ?_
  exact ⟨rfl, rfl⟩
theorem dX4_stormFor_0 : decode cX4_stormFor 0 = .ok (.aload_n 0, 1) := by decide +kernel
theorem dX4_stormFor_1 : decode cX4_stormFor 1 = .ok (.iload_n 1, 1) := by decide +kernel
theorem dX4_stormFor_2 : decode cX4_stormFor 2 = .ok (.invokevirtual 76, 3) := by decide +kernel
theorem dX4_stormFor_5 : decode cX4_stormFor 5 = .ok (.ifCond .ne 13, 3) := by decide +kernel
theorem dX4_stormFor_8 : decode cX4_stormFor 8 = .ok (.iload_n 2, 1) := by decide +kernel
theorem dX4_stormFor_9 : decode cX4_stormFor 9 = .ok (.iconst 0, 1) := by decide +kernel
theorem dX4_stormFor_10 : decode cX4_stormFor 10 = .ok (.bipush 60, 2) := by decide +kernel
theorem dX4_stormFor_12 : decode cX4_stormFor 12 = .ok (.invokestatic 44, 3) := by decide +kernel
theorem dX4_stormFor_15 : decode cX4_stormFor 15 = .ok (.ifCond .eq 10, 3) := by decide +kernel
theorem dX4_stormFor_18 : decode cX4_stormFor 18 = .ok (.aload_n 0, 1) := by decide +kernel
theorem dX4_stormFor_19 : decode cX4_stormFor 19 = .ok (.ldc 48, 2) := by decide +kernel
theorem dX4_stormFor_21 : decode cX4_stormFor 21 = .ok (.invokevirtual 49, 3) := by decide +kernel
theorem dX4_stormFor_24 : decode cX4_stormFor 24 = .ok (.ireturn, 1) := by decide +kernel
theorem dX4_stormFor_25 : decode cX4_stormFor 25 = .ok (.iconst 0, 1) := by decide +kernel
theorem dX4_stormFor_26 : decode cX4_stormFor 26 = .ok (.istore_n 3, 1) := by decide +kernel
theorem dX4_stormFor_27 : decode cX4_stormFor 27 = .ok (.iload_n 3, 1) := by decide +kernel
theorem dX4_stormFor_28 : decode cX4_stormFor 28 = .ok (.bipush 9, 2) := by decide +kernel
theorem dX4_stormFor_30 : decode cX4_stormFor 30 = .ok (.if_icmp .gt 36, 3) := by decide +kernel
theorem dX4_stormFor_33 : decode cX4_stormFor 33 = .ok (.aload_n 0, 1) := by decide +kernel
theorem dX4_stormFor_34 : decode cX4_stormFor 34 = .ok (.iload_n 1, 1) := by decide +kernel
theorem dX4_stormFor_35 : decode cX4_stormFor 35 = .ok (.invokevirtual 126, 3) := by decide +kernel
theorem dX4_stormFor_38 : decode cX4_stormFor 38 = .ok (.astore 4, 2) := by decide +kernel
theorem dX4_stormFor_40 : decode cX4_stormFor 40 = .ok (.aload_n 0, 1) := by decide +kernel
theorem dX4_stormFor_41 : decode cX4_stormFor 41 = .ok (.getfield 16, 3) := by decide +kernel
theorem dX4_stormFor_44 : decode cX4_stormFor 44 = .ok (.iload_n 3, 1) := by decide +kernel
theorem dX4_stormFor_45 : decode cX4_stormFor 45 = .ok (.putfield 60, 3) := by decide +kernel
theorem dX4_stormFor_48 : decode cX4_stormFor 48 = .ok (.aload_n 0, 1) := by decide +kernel
theorem dX4_stormFor_49 : decode cX4_stormFor 49 = .ok (.aload 4, 2) := by decide +kernel
theorem dX4_stormFor_51 : decode cX4_stormFor 51 = .ok (.iload_n 2, 1) := by decide +kernel
theorem dX4_stormFor_52 : decode cX4_stormFor 52 = .ok (.invokevirtual 140, 3) := by decide +kernel
theorem dX4_stormFor_55 : decode cX4_stormFor 55 = .ok (.ifCond .eq 5, 3) := by decide +kernel
theorem dX4_stormFor_58 : decode cX4_stormFor 58 = .ok (.iload_n 3, 1) := by decide +kernel
theorem dX4_stormFor_59 : decode cX4_stormFor 59 = .ok (.ireturn, 1) := by decide +kernel
theorem dX4_stormFor_60 : decode cX4_stormFor 60 = .ok (.iinc 3 1, 3) := by decide +kernel
theorem dX4_stormFor_63 : decode cX4_stormFor 63 = .ok (.goto (-36), 3) := by decide +kernel
theorem dX4_stormFor_66 : decode cX4_stormFor 66 = .ok (.aload_n 0, 1) := by decide +kernel
theorem dX4_stormFor_67 : decode cX4_stormFor 67 = .ok (.ldc 139, 2) := by decide +kernel
theorem dX4_stormFor_69 : decode cX4_stormFor 69 = .ok (.invokevirtual 49, 3) := by decide +kernel
theorem dX4_stormFor_72 : decode cX4_stormFor 72 = .ok (.ireturn, 1) := by decide +kernel
set_option maxRecDepth 20000 in
set_option maxHeartbeats 4000000 in
theorem l_X4_stormFor {K : Cx} {n8 k c : Nat} {m : TM} (hI : Iv n8 (m.1 1)) (hk : k < n8) (hc : c ≤ 60) : ∀ (n : Nat) (j : Nat) (X : Nat → Int32), 10 - j < n → j ≤ 10 → XX RX4 cX4_stormFor 5 (some .int) 5 110 K 27 [some (.ref 0), some (.int (nI k)), some (.int (nI c)), some (.int (nI j)), none] [] (sr m 13 X) (fun r1 m1 => ∃ X, r1 = some (.int (ansV (srch (fun v => tkn (m.1 1) n8 k c 5 (nI v)) (10 - j) j))) ∧ m1 = memC m X (srch (fun v => tkn (m.1 1) n8 k c 5 (nI v)) (10 - j) j)) := by
  intro n
  induction n with
  | zero => intro j X hlt; exact absurd hlt (Nat.not_lt_zero _)
  | succ n ih =>
    intro j X hlt hj
    have h8 := hI.1
    have hk8 : k < 8 := by omega
    refine x_iload_n (q := 28) dX4_stormFor_27 rfl rfl ?_
    refine x_bipush (q := 30) (v := 9) dX4_stormFor_28 rfl (by decide) ?_
    refine x_icmp_gt (q := 33) (t := 66) dX4_stormFor_30 rfl (by decide) (fun h30 => ?_) (fun h30 => ?_)
    · have e : 9 < j := (jnI_lt (a := 9) (b := j) (by omega) (by omega)).mp h30
      have e2 : j = 10 := by omega
      subst e2
      refine x_aload_n (q := 67) dX4_stormFor_66 rfl rfl ?_
      refine x_ldc (q := 69) dX4_stormFor_67 rfl kc_X4_139 ?_
      refine x_callV1v (q := 72) dX4_stormFor_69 rfl ml_X4_49 mv_X4_finding rv4 rfl (c_X4_finding (w := 3) (by decide) (by decide)) (Nat.le_of_ble_eq_true rfl) ⟨by decide, by decide⟩ ?_
      refine x_ireturn dX4_stormFor_72 rfl rfl ?_
      exact ⟨_, rfl, rfl⟩
    have hj9 : ¬ 9 < j := fun q => h30 ((jnI_lt (a := 9) (b := j) (by omega) (by omega)).mpr q)
    have hu : Iv n8 (upd (bcF X (m.1 1) n8) 5 (nI j)) := (iv_bc hI).upd_lo (by decide) (by decide) (by decide) (by decide)
    have hiv := hI.upd_lo (i := 5) (v := nI j) (by decide) (by decide) (by decide) (by decide)
    have e1 : 10 - j = (10 - (j + 1)) + 1 := by omega
    rw [e1]
    simp only [srch]
    refine x_aload_n (q := 34) dX4_stormFor_33 rfl rfl ?_
    refine x_iload_n (q := 35) dX4_stormFor_34 rfl rfl ?_
    refine x_callV1v (q := 38) dX4_stormFor_35 rfl ml_X4_126 mv_X4_tried rv4 rfl (c_X4_tried hI hk8) (Nat.le_of_ble_eq_true rfl) ⟨by decide, by decide⟩ ?_
    refine x_astore (q := 40) dX4_stormFor_38 rfl (by decide) rfl rfl ?_
    refine x_aload_n (q := 41) dX4_stormFor_40 rfl rfl ?_
    refine x_getR (q := 44) dX4_stormFor_41 rfl fl_X4_16 (or4_trial) ?_
    refine x_iload_n (q := 45) dX4_stormFor_44 rfl rfl ?_
    refine x_putIr (q := 48) dX4_stormFor_45 rfl fl_X4_60 (ob0_storm isC_13) rfl rfl rfl  ?_
    refine x_aload_n (q := 49) dX4_stormFor_48 rfl rfl ?_
    refine x_aload (q := 51) dX4_stormFor_49 rfl rfl ?_
    refine x_iload_n (q := 52) dX4_stormFor_51 rfl rfl ?_
    refine x_callV2v (q := 55) dX4_stormFor_52 rfl ml_X4_140 mv_X4_isTakenOnTrial rv4 rfl (c_X4_isTakenOnTrial hk hu (by omega)) (Nat.le_of_ble_eq_true rfl) ⟨by decide, by decide⟩ ?_
    refine x_ifB_eq (q := 58) (t := 60) dX4_stormFor_55 rfl (by decide) (fun h55 => ?_) (fun h55 => ?_)
    · refine x_iinc (q := 63) (v := nI (j + 1)) dX4_stormFor_60 rfl rfl (jnI_s j) (by decide) rfl rfl ?_
      refine x_goto (q := 27) dX4_stormFor_63 (by decide) ?_
      rw [tkn_bc1 hk hiv] at h55
      rw [if_neg (by rw [h55]; decide)]
      exact x_ls (ih (j + 1) _ (by omega) (by omega)) (And.intro rfl (And.intro rfl (And.intro rfl (And.intro rfl trivial))))
    refine x_iload_n (q := 59) dX4_stormFor_58 rfl rfl ?_
    refine x_ireturn dX4_stormFor_59 rfl rfl ?_
    rw [tkn_bc1 hk hiv] at h55
    rw [if_pos h55]
    exact ⟨_, rfl, rfl⟩
set_option maxRecDepth 20000 in
set_option maxHeartbeats 4000000 in
theorem c_X4_stormFor {K : Cx} {n8 k c : Nat} {m : TM} (hI : Iv n8 (m.1 1)) (hk : k < n8) (hc : c ≤ 60) : CQ yX4_stormFor cX4_stormFor 5 (some .int) 5 110 K [.ref 0, .int (nI k), .int (nI c)] (m) (fun r1 m1 => ∃ X, r1 = some (.int (ansV (srch (fun v => tkn (m.1 1) n8 k c 5 (nI v)) 10 0))) ∧ m1 = memC m X (srch (fun v => tkn (m.1 1) n8 k c 5 (nI v)) 10 0)) := by
  refine ct_ofq (n := 2) (by decide +kernel) rfl rfl ?_
  show XX RX4 cX4_stormFor 5 (some .int) 5 110 K 0 [some (.ref 0), some (.int (nI k)), some (.int (nI c)), none, none] [] (m) (fun r1 m1 => ∃ X, r1 = some (.int (ansV (srch (fun v => tkn (m.1 1) n8 k c 5 (nI v)) 10 0))) ∧ m1 = memC m X (srch (fun v => tkn (m.1 1) n8 k c 5 (nI v)) 10 0))
  refine x_aload_n (q := 1) dX4_stormFor_0 rfl rfl ?_
  refine x_iload_n (q := 2) dX4_stormFor_1 rfl rfl ?_
  refine x_callV1v (q := 5) dX4_stormFor_2 rfl ml_X4_76 mv_X4_isNoParcel rv4 rfl c_X4_isNoParcel (Nat.le_of_ble_eq_true rfl) ⟨by decide, by decide⟩ ?_
  refine x_ifB_ne (q := 8) (t := 18) dX4_stormFor_5 rfl (by decide) (fun h5 => ?_) (fun h5 => ?_)
  · exact absurd (par_in hI.2.1 hI.1 hk) (by rw [h5]; decide)
  refine x_iload_n (q := 9) dX4_stormFor_8 rfl rfl ?_
  refine x_iconst (q := 10) (v := 0) dX4_stormFor_9 rfl (by decide) ?_
  refine x_bipush (q := 12) (v := 60) dX4_stormFor_10 rfl (by decide) ?_
  refine x_callS3v (q := 15) dX4_stormFor_12 rfl ml_X4_44 ms_X4_isOut c_X4_isOut (Nat.le_of_ble_eq_true rfl) ⟨by decide, by decide⟩ ?_
  refine x_ifB_eq (q := 18) (t := 25) dX4_stormFor_15 rfl (by decide) (fun h15 => ?_) (fun h15 => ?_)
  · refine x_iconst (q := 26) (v := 0) dX4_stormFor_25 rfl (by decide) ?_
    refine x_istore_n (q := 27) dX4_stormFor_26 rfl (by decide) rfl rfl ?_
    have h := l_X4_stormFor (K := K) hI hk hc 11 0 (m.1 13) (by omega) (by omega)
    rw [sr_self] at h
    exact h
  exact absurd (rng_in (a := 0) (Nat.zero_le c) hc (by decide)) (by show ¬ outI (nI c) 0 60 = false; rw [h15]; decide)
set_option maxRecDepth 20000 in
set_option maxHeartbeats 4000000 in
theorem c_X4_stormForB {K : Cx} {p y : Int32} {m : TM} (hb : (outI p 0 (m.1 1 1 - 1) || outI y 0 60) = true) : CT yX4_stormFor cX4_stormFor 5 (some .int) 5 110 K [.ref 0, .int p, .int y] (m) (some (.int (-1000001))) (fnd m 0) := by
  refine ct_ofd (n := 2) (by decide +kernel) rfl rfl ?_
  show XX RX4 cX4_stormFor 5 (some .int) 5 110 K 0 [some (.ref 0), some (.int p), some (.int y), none, none] [] (m) (fun r1 m1 => r1 = (some (.int (-1000001))) ∧ m1 = fnd m 0)
  refine x_aload_n (q := 1) dX4_stormFor_0 rfl rfl ?_
  refine x_iload_n (q := 2) dX4_stormFor_1 rfl rfl ?_
  refine x_callV1v (q := 5) dX4_stormFor_2 rfl ml_X4_76 mv_X4_isNoParcel rv4 rfl c_X4_isNoParcel (Nat.le_of_ble_eq_true rfl) ⟨by decide, by decide⟩ ?_
  refine x_ifB_ne (q := 8) (t := 18) dX4_stormFor_5 rfl (by decide) (fun h5 => ?_) (fun h5 => ?_)
  · refine x_aload_n (q := 19) dX4_stormFor_18 rfl rfl ?_
    refine x_ldc (q := 21) dX4_stormFor_19 rfl kc_X4_48 ?_
    refine x_callV1v (q := 24) dX4_stormFor_21 rfl ml_X4_49 mv_X4_finding rv4 rfl (c_X4_finding (w := 0) (by decide) (by decide)) (Nat.le_of_ble_eq_true rfl) ⟨by decide, by decide⟩ ?_
    refine x_ireturn dX4_stormFor_24 rfl rfl ?_
    exact ⟨rfl, rfl⟩
  refine x_iload_n (q := 9) dX4_stormFor_8 rfl rfl ?_
  refine x_iconst (q := 10) (v := 0) dX4_stormFor_9 rfl (by decide) ?_
  refine x_bipush (q := 12) (v := 60) dX4_stormFor_10 rfl (by decide) ?_
  refine x_callS3v (q := 15) dX4_stormFor_12 rfl ml_X4_44 ms_X4_isOut c_X4_isOut (Nat.le_of_ble_eq_true rfl) ⟨by decide, by decide⟩ ?_
  refine x_ifB_eq (q := 18) (t := 25) dX4_stormFor_15 rfl (by decide) (fun h15 => ?_) (fun h15 => ?_)
  · exact absurd hb (by simp [h5, h15])
  refine x_aload_n (q := 19) dX4_stormFor_18 rfl rfl ?_
  refine x_ldc (q := 21) dX4_stormFor_19 rfl kc_X4_48 ?_
  refine x_callV1v (q := 24) dX4_stormFor_21 rfl ml_X4_49 mv_X4_finding rv4 rfl (c_X4_finding (w := 0) (by decide) (by decide)) (Nat.le_of_ble_eq_true rfl) ⟨by decide, by decide⟩ ?_
  refine x_ireturn dX4_stormFor_24 rfl rfl ?_
  exact ⟨rfl, rfl⟩
theorem dX4_kindFor_0 : decode cX4_kindFor 0 = .ok (.aload_n 0, 1) := by decide +kernel
theorem dX4_kindFor_1 : decode cX4_kindFor 1 = .ok (.iload_n 1, 1) := by decide +kernel
theorem dX4_kindFor_2 : decode cX4_kindFor 2 = .ok (.invokevirtual 76, 3) := by decide +kernel
theorem dX4_kindFor_5 : decode cX4_kindFor 5 = .ok (.ifCond .ne 13, 3) := by decide +kernel
theorem dX4_kindFor_8 : decode cX4_kindFor 8 = .ok (.iload_n 2, 1) := by decide +kernel
theorem dX4_kindFor_9 : decode cX4_kindFor 9 = .ok (.iconst 0, 1) := by decide +kernel
theorem dX4_kindFor_10 : decode cX4_kindFor 10 = .ok (.bipush 60, 2) := by decide +kernel
theorem dX4_kindFor_12 : decode cX4_kindFor 12 = .ok (.invokestatic 44, 3) := by decide +kernel
theorem dX4_kindFor_15 : decode cX4_kindFor 15 = .ok (.ifCond .eq 10, 3) := by decide +kernel
theorem dX4_kindFor_18 : decode cX4_kindFor 18 = .ok (.aload_n 0, 1) := by decide +kernel
theorem dX4_kindFor_19 : decode cX4_kindFor 19 = .ok (.ldc 48, 2) := by decide +kernel
theorem dX4_kindFor_21 : decode cX4_kindFor 21 = .ok (.invokevirtual 49, 3) := by decide +kernel
theorem dX4_kindFor_24 : decode cX4_kindFor 24 = .ok (.ireturn, 1) := by decide +kernel
theorem dX4_kindFor_25 : decode cX4_kindFor 25 = .ok (.iconst 0, 1) := by decide +kernel
theorem dX4_kindFor_26 : decode cX4_kindFor 26 = .ok (.istore_n 3, 1) := by decide +kernel
theorem dX4_kindFor_27 : decode cX4_kindFor 27 = .ok (.iconst (-1), 1) := by decide +kernel
theorem dX4_kindFor_28 : decode cX4_kindFor 28 = .ok (.istore 4, 2) := by decide +kernel
theorem dX4_kindFor_30 : decode cX4_kindFor 30 = .ok (.iconst 0, 1) := by decide +kernel
theorem dX4_kindFor_31 : decode cX4_kindFor 31 = .ok (.istore 5, 2) := by decide +kernel
theorem dX4_kindFor_33 : decode cX4_kindFor 33 = .ok (.iload 5, 2) := by decide +kernel
theorem dX4_kindFor_35 : decode cX4_kindFor 35 = .ok (.bipush 6, 2) := by decide +kernel
theorem dX4_kindFor_37 : decode cX4_kindFor 37 = .ok (.if_icmp .gt 55, 3) := by decide +kernel
theorem dX4_kindFor_40 : decode cX4_kindFor 40 = .ok (.aload_n 0, 1) := by decide +kernel
theorem dX4_kindFor_41 : decode cX4_kindFor 41 = .ok (.iload_n 1, 1) := by decide +kernel
theorem dX4_kindFor_42 : decode cX4_kindFor 42 = .ok (.invokevirtual 126, 3) := by decide +kernel
theorem dX4_kindFor_45 : decode cX4_kindFor 45 = .ok (.astore 6, 2) := by decide +kernel
theorem dX4_kindFor_47 : decode cX4_kindFor 47 = .ok (.aload 6, 2) := by decide +kernel
theorem dX4_kindFor_49 : decode cX4_kindFor 49 = .ok (.iload 5, 2) := by decide +kernel
theorem dX4_kindFor_51 : decode cX4_kindFor 51 = .ok (.putfield 150, 3) := by decide +kernel
theorem dX4_kindFor_54 : decode cX4_kindFor 54 = .ok (.aload_n 0, 1) := by decide +kernel
theorem dX4_kindFor_55 : decode cX4_kindFor 55 = .ok (.getfield 16, 3) := by decide +kernel
theorem dX4_kindFor_58 : decode cX4_kindFor 58 = .ok (.iload_n 2, 1) := by decide +kernel
theorem dX4_kindFor_59 : decode cX4_kindFor 59 = .ok (.invokevirtual 109, 3) := by decide +kernel
theorem dX4_kindFor_62 : decode cX4_kindFor 62 = .ok (.aload_n 0, 1) := by decide +kernel
theorem dX4_kindFor_63 : decode cX4_kindFor 63 = .ok (.getfield 16, 3) := by decide +kernel
theorem dX4_kindFor_66 : decode cX4_kindFor 66 = .ok (.getfield 116, 3) := by decide +kernel
theorem dX4_kindFor_69 : decode cX4_kindFor 69 = .ok (.iload 4, 2) := by decide +kernel
theorem dX4_kindFor_71 : decode cX4_kindFor 71 = .ok (.if_icmp .le 15, 3) := by decide +kernel
theorem dX4_kindFor_74 : decode cX4_kindFor 74 = .ok (.aload_n 0, 1) := by decide +kernel
theorem dX4_kindFor_75 : decode cX4_kindFor 75 = .ok (.getfield 16, 3) := by decide +kernel
theorem dX4_kindFor_78 : decode cX4_kindFor 78 = .ok (.getfield 116, 3) := by decide +kernel
theorem dX4_kindFor_81 : decode cX4_kindFor 81 = .ok (.istore 4, 2) := by decide +kernel
theorem dX4_kindFor_83 : decode cX4_kindFor 83 = .ok (.iload 5, 2) := by decide +kernel
theorem dX4_kindFor_85 : decode cX4_kindFor 85 = .ok (.istore_n 3, 1) := by decide +kernel
theorem dX4_kindFor_86 : decode cX4_kindFor 86 = .ok (.iinc 5 1, 3) := by decide +kernel
theorem dX4_kindFor_89 : decode cX4_kindFor 89 = .ok (.goto (-56), 3) := by decide +kernel
theorem dX4_kindFor_92 : decode cX4_kindFor 92 = .ok (.iload_n 3, 1) := by decide +kernel
theorem dX4_kindFor_93 : decode cX4_kindFor 93 = .ok (.ireturn, 1) := by decide +kernel
set_option maxRecDepth 20000 in
set_option maxHeartbeats 4000000 in
theorem l_X4_kindFor {K : Cx} {n8 k c : Nat} {m : TM} (hI : Iv n8 (m.1 1)) (hk : k < n8) (hc : c ≤ 60) {N : Nat} (hN : N = 7) : ∀ (n : Nat) (j : Nat) (X : Nat → Int32), 7 - j < n → j ≤ 7 → XX RX4 cX4_kindFor 7 (some .int) 5 109 K 33 [some (.ref 0), some (.int (nI k)), some (.int (nI c)), some (.int (kfF (kfA (m.1 1) n8 k c) j).1), some (.int (kfF (kfA (m.1 1) n8 k c) j).2), some (.int (nI j)), none] [] (sr m 13 X) (fun r1 m1 => ∃ X, r1 = some (.int (kfF (kfA (m.1 1) n8 k c) N).1) ∧ m1 = sr m 13 X) := by
  intro n
  induction n with
  | zero => intro j X hlt; exact absurd hlt (Nat.not_lt_zero _)
  | succ n ih =>
    intro j X hlt hj
    have h8 := hI.1
    have hk8 : k < 8 := by omega
    refine x_iload (q := 35) dX4_kindFor_33 rfl rfl ?_
    refine x_bipush (q := 37) (v := 6) dX4_kindFor_35 rfl (by decide) ?_
    refine x_icmp_gt (q := 40) (t := 92) dX4_kindFor_37 rfl (by decide) (fun h37 => ?_) (fun h37 => ?_)
    · have e : 6 < j := (jnI_lt (a := 6) (b := j) (by omega) (by omega)).mp h37
      have e2 : j = 7 := by omega
      subst e2
      subst hN
      refine x_iload_n (q := 93) dX4_kindFor_92 rfl rfl ?_
      refine x_ireturn dX4_kindFor_93 rfl rfl ?_
      exact ⟨_, rfl, rfl⟩
    have hj6 : ¬ 6 < j := fun q => h37 ((jnI_lt (a := 6) (b := j) (by omega) (by omega)).mpr q)
    have hu : Iv n8 (upd (bcF X (m.1 1) n8) (12 + 7 * k + 0) (nI j)) := (iv_bc hI).upd_p hk (by decide) (fun _ => ⟨j, by omega, rfl⟩) (fun q => by omega)
    have hiv := hI.upd_p (v := nI j) (f := 0) hk (by decide) (fun _ => ⟨j, by omega, rfl⟩) (fun q => by omega)
    have ea : dysC n8 c (upd (bcF X (m.1 1) n8) (12 + 7 * k + 0) (nI j)) 3 = kfA (m.1 1) n8 k c j := ((eqv_upd (bcF_eqv h8)).days c hu).lo (by decide)
    refine x_aload_n (q := 41) dX4_kindFor_40 rfl rfl ?_
    refine x_iload_n (q := 42) dX4_kindFor_41 rfl rfl ?_
    refine x_callV1v (q := 45) dX4_kindFor_42 rfl ml_X4_126 mv_X4_tried rv4 rfl (c_X4_tried hI hk8) (Nat.le_of_ble_eq_true rfl) ⟨by decide, by decide⟩ ?_
    refine x_astore (q := 47) dX4_kindFor_45 rfl (by decide) rfl rfl ?_
    refine x_aload (q := 49) dX4_kindFor_47 rfl rfl ?_
    refine x_iload (q := 51) dX4_kindFor_49 rfl rfl ?_
    refine x_putIr (q := 54) dX4_kindFor_51 rfl fl_X4_150 (ob1 isC_13 hk8 0 (by decide)) rfl rfl rfl  ?_
    refine x_aload_n (q := 55) dX4_kindFor_54 rfl rfl ?_
    refine x_getR (q := 58) dX4_kindFor_55 rfl fl_X4_16 (or4_trial) ?_
    refine x_iload_n (q := 59) dX4_kindFor_58 rfl rfl ?_
    refine x_callV1n (q := 62) dX4_kindFor_59 rfl ml_X4_109 mv_X0_passDays (rv0 isC_13) rfl (c_X0_passDays isC_13 (by omega) hu) (Nat.le_of_ble_eq_true rfl) ⟨by decide, by decide⟩ ?_
    refine x_aload_n (q := 63) dX4_kindFor_62 rfl rfl ?_
    refine x_getR (q := 66) dX4_kindFor_63 rfl fl_X4_16 (or4_trial) ?_
    refine x_getIr (q := 69) dX4_kindFor_66 rfl fl_X4_116 (ob0_amber isC_13) ?_
    refine x_iload (q := 71) dX4_kindFor_69 rfl rfl ?_
    refine x_icmp_le (q := 74) (t := 86) dX4_kindFor_71 rfl (by decide) (fun h71 => ?_) (fun h71 => ?_)
    · refine x_iinc (q := 89) (v := nI (j + 1)) dX4_kindFor_86 rfl rfl (jnI_s j) (by decide) rfl rfl ?_
      refine x_goto (q := 33) dX4_kindFor_89 (by decide) ?_
      have key := ih (j + 1) (dysC n8 c (upd (bcF X (m.1 1) n8) (12 + 7 * k + 0) (nI j))) (by omega) (by omega)
      rw [ea] at h71
      rw [kfF, if_neg (Int32.not_lt.mpr h71)] at key
      exact x_ls key (And.intro rfl (And.intro rfl (And.intro rfl (And.intro rfl (And.intro rfl (And.intro rfl trivial))))))
    refine x_aload_n (q := 75) dX4_kindFor_74 rfl rfl ?_
    refine x_getR (q := 78) dX4_kindFor_75 rfl fl_X4_16 (or4_trial) ?_
    refine x_getIr (q := 81) dX4_kindFor_78 rfl fl_X4_116 (ob0_amber isC_13) ?_
    refine x_istore (q := 83) dX4_kindFor_81 rfl (by decide) rfl rfl ?_
    refine x_iload (q := 85) dX4_kindFor_83 rfl rfl ?_
    refine x_istore_n (q := 86) dX4_kindFor_85 rfl (by decide) rfl rfl ?_
    refine x_iinc (q := 89) (v := nI (j + 1)) dX4_kindFor_86 rfl rfl (jnI_s j) (by decide) rfl rfl ?_
    refine x_goto (q := 33) dX4_kindFor_89 (by decide) ?_
    have key := ih (j + 1) (dysC n8 c (upd (bcF X (m.1 1) n8) (12 + 7 * k + 0) (nI j))) (by omega) (by omega)
    rw [ea] at h71
    rw [kfF, if_pos (Int32.not_le.mp h71)] at key
    rw [ea]
    exact x_ls key (And.intro rfl (And.intro rfl (And.intro rfl (And.intro rfl (And.intro rfl (And.intro rfl trivial))))))
set_option maxRecDepth 20000 in
set_option maxHeartbeats 4000000 in
theorem c_X4_kindFor {K : Cx} {n8 k c : Nat} {m : TM} (hI : Iv n8 (m.1 1)) (hk : k < n8) (hc : c ≤ 60) : CQ yX4_kindFor cX4_kindFor 7 (some .int) 5 109 K [.ref 0, .int (nI k), .int (nI c)] (m) (fun r1 m1 => ∃ X, r1 = some (.int (kfF (kfA (m.1 1) n8 k c) 7).1) ∧ m1 = sr m 13 X) := by
  refine ct_ofq (n := 4) (by decide +kernel) rfl rfl ?_
  show XX RX4 cX4_kindFor 7 (some .int) 5 109 K 0 [some (.ref 0), some (.int (nI k)), some (.int (nI c)), none, none, none, none] [] (m) (fun r1 m1 => ∃ X, r1 = some (.int (kfF (kfA (m.1 1) n8 k c) 7).1) ∧ m1 = sr m 13 X)
  refine x_aload_n (q := 1) dX4_kindFor_0 rfl rfl ?_
  refine x_iload_n (q := 2) dX4_kindFor_1 rfl rfl ?_
  refine x_callV1v (q := 5) dX4_kindFor_2 rfl ml_X4_76 mv_X4_isNoParcel rv4 rfl c_X4_isNoParcel (Nat.le_of_ble_eq_true rfl) ⟨by decide, by decide⟩ ?_
  refine x_ifB_ne (q := 8) (t := 18) dX4_kindFor_5 rfl (by decide) (fun h5 => ?_) (fun h5 => ?_)
  · exact absurd (par_in hI.2.1 hI.1 hk) (by rw [h5]; decide)
  refine x_iload_n (q := 9) dX4_kindFor_8 rfl rfl ?_
  refine x_iconst (q := 10) (v := 0) dX4_kindFor_9 rfl (by decide) ?_
  refine x_bipush (q := 12) (v := 60) dX4_kindFor_10 rfl (by decide) ?_
  refine x_callS3v (q := 15) dX4_kindFor_12 rfl ml_X4_44 ms_X4_isOut c_X4_isOut (Nat.le_of_ble_eq_true rfl) ⟨by decide, by decide⟩ ?_
  refine x_ifB_eq (q := 18) (t := 25) dX4_kindFor_15 rfl (by decide) (fun h15 => ?_) (fun h15 => ?_)
  · refine x_iconst (q := 26) (v := 0) dX4_kindFor_25 rfl (by decide) ?_
    refine x_istore_n (q := 27) dX4_kindFor_26 rfl (by decide) rfl rfl ?_
    refine x_iconst (q := 28) (v := (-1)) dX4_kindFor_27 rfl (by decide) ?_
    refine x_istore (q := 30) dX4_kindFor_28 rfl (by decide) rfl rfl ?_
    refine x_iconst (q := 31) (v := 0) dX4_kindFor_30 rfl (by decide) ?_
    refine x_istore (q := 33) dX4_kindFor_31 rfl (by decide) rfl rfl ?_
    have h := l_X4_kindFor (K := K) hI hk hc (N := 7) rfl 8 0 (m.1 13) (by omega) (by omega)
    rw [sr_self] at h
    exact x_ls h (And.intro rfl (And.intro rfl (And.intro rfl (And.intro rfl (And.intro rfl (And.intro rfl trivial))))))
  exact absurd (rng_in (a := 0) (Nat.zero_le c) hc (by decide)) (by show ¬ outI (nI c) 0 60 = false; rw [h15]; decide)
set_option maxRecDepth 20000 in
set_option maxHeartbeats 4000000 in
theorem c_X4_kindForB {K : Cx} {p y : Int32} {m : TM} (hb : (outI p 0 (m.1 1 1 - 1) || outI y 0 60) = true) : CT yX4_kindFor cX4_kindFor 7 (some .int) 5 109 K [.ref 0, .int p, .int y] (m) (some (.int (-1000001))) (fnd m 0) := by
  refine ct_ofd (n := 4) (by decide +kernel) rfl rfl ?_
  show XX RX4 cX4_kindFor 7 (some .int) 5 109 K 0 [some (.ref 0), some (.int p), some (.int y), none, none, none, none] [] (m) (fun r1 m1 => r1 = (some (.int (-1000001))) ∧ m1 = fnd m 0)
  refine x_aload_n (q := 1) dX4_kindFor_0 rfl rfl ?_
  refine x_iload_n (q := 2) dX4_kindFor_1 rfl rfl ?_
  refine x_callV1v (q := 5) dX4_kindFor_2 rfl ml_X4_76 mv_X4_isNoParcel rv4 rfl c_X4_isNoParcel (Nat.le_of_ble_eq_true rfl) ⟨by decide, by decide⟩ ?_
  refine x_ifB_ne (q := 8) (t := 18) dX4_kindFor_5 rfl (by decide) (fun h5 => ?_) (fun h5 => ?_)
  · refine x_aload_n (q := 19) dX4_kindFor_18 rfl rfl ?_
    refine x_ldc (q := 21) dX4_kindFor_19 rfl kc_X4_48 ?_
    refine x_callV1v (q := 24) dX4_kindFor_21 rfl ml_X4_49 mv_X4_finding rv4 rfl (c_X4_finding (w := 0) (by decide) (by decide)) (Nat.le_of_ble_eq_true rfl) ⟨by decide, by decide⟩ ?_
    refine x_ireturn dX4_kindFor_24 rfl rfl ?_
    exact ⟨rfl, rfl⟩
  refine x_iload_n (q := 9) dX4_kindFor_8 rfl rfl ?_
  refine x_iconst (q := 10) (v := 0) dX4_kindFor_9 rfl (by decide) ?_
  refine x_bipush (q := 12) (v := 60) dX4_kindFor_10 rfl (by decide) ?_
  refine x_callS3v (q := 15) dX4_kindFor_12 rfl ml_X4_44 ms_X4_isOut c_X4_isOut (Nat.le_of_ble_eq_true rfl) ⟨by decide, by decide⟩ ?_
  refine x_ifB_eq (q := 18) (t := 25) dX4_kindFor_15 rfl (by decide) (fun h15 => ?_) (fun h15 => ?_)
  · exact absurd hb (by simp [h5, h15])
  refine x_aload_n (q := 19) dX4_kindFor_18 rfl rfl ?_
  refine x_ldc (q := 21) dX4_kindFor_19 rfl kc_X4_48 ?_
  refine x_callV1v (q := 24) dX4_kindFor_21 rfl ml_X4_49 mv_X4_finding rv4 rfl (c_X4_finding (w := 0) (by decide) (by decide)) (Nat.le_of_ble_eq_true rfl) ⟨by decide, by decide⟩ ?_
  refine x_ireturn dX4_kindFor_24 rfl rfl ?_
  exact ⟨rfl, rfl⟩
