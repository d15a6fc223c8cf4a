/-! how to send, of the reference -/
section CQ4
variable {own : String} {cc : ByteArray} {mL : Nat} {rt : Option FieldType} {fr lo : Nat} {K : Cx} {pc q : Nat} {ls : List (Option Value)} {st : List Value} {m : TM} {Q : Option Value → TM → Prop}
theorem x_callV4q {a1 a2 a3 a4 : Value} {o ci : Nat} {Q1 : Int32 → TM → Prop} {y : MethodName} {cy : ByteArray} {nL idx f2 l2 : Nat} {ry : Option FieldType} (hd : decode cc pc = .ok (.invokevirtual idx, 3)) (hq : pc + 3 = q) (hl : Cond.methodLink own idx y ∈ WT) (hm : MV y cy nL ry 4) (hv : RV o ci) (hC : RR ci = y.cls) (hc : CQ y cy nL ry f2 l2 K (.ref o :: [a1, a2, a3, a4]) m (fun r1 m1 => ∃ v, r1 = some (.int v) ∧ Q1 v m1)) (hw : (st.map fun v => v.category).sum ≤ 8) (hR : f2 + 1 ≤ fr ∧ 8 + (nL + 11) + l2 ≤ lo) (kk : ∀ v m1, Q1 v m1 → XX own cc mL rt fr lo K q ls (.int v :: st) m1 Q) : XX own cc mL rt fr lo K pc ls (a4 :: a3 :: a2 :: a1 :: .ref o :: st) m Q :=
  x_callV (as := [a1, a2, a3, a4]) hd hq hl hm hv hC hc rfl rfl hw hR (fun r m1 h => by obtain ⟨v, rfl, h⟩ := h; exact kk v m1 h)
theorem x_callV3q {a1 a2 a3 : Value} {o ci : Nat} {Q1 : Int32 → TM → Prop} {y : MethodName} {cy : ByteArray} {nL idx f2 l2 : Nat} {ry : Option FieldType} (hd : decode cc pc = .ok (.invokevirtual idx, 3)) (hq : pc + 3 = q) (hl : Cond.methodLink own idx y ∈ WT) (hm : MV y cy nL ry 3) (hv : RV o ci) (hC : RR ci = y.cls) (hc : CQ y cy nL ry f2 l2 K (.ref o :: [a1, a2, a3]) m (fun r1 m1 => ∃ v, r1 = some (.int v) ∧ Q1 v m1)) (hw : (st.map fun v => v.category).sum ≤ 8) (hR : f2 + 1 ≤ fr ∧ 8 + (nL + 11) + l2 ≤ lo) (kk : ∀ v m1, Q1 v m1 → XX own cc mL rt fr lo K q ls (.int v :: st) m1 Q) : XX own cc mL rt fr lo K pc ls (a3 :: a2 :: a1 :: .ref o :: st) m Q :=
  x_callV (as := [a1, a2, a3]) hd hq hl hm hv hC hc rfl rfl hw hR (fun r m1 h => by obtain ⟨v, rfl, h⟩ := h; exact kk v m1 h)
end CQ4
theorem dX5_isAsked_0 : decode cX5_isAsked 0 = .ok (.aload_n 0, 1) := by decide +kernel
theorem dX5_isAsked_1 : decode cX5_isAsked 1 = .ok (.iload_n 1, 1) := by decide +kernel
theorem dX5_isAsked_2 : decode cX5_isAsked 2 = .ok (.invokevirtual 109, 3) := by decide +kernel
theorem dX5_isAsked_5 : decode cX5_isAsked 5 = .ok (.ifCond .eq 17, 3) := by decide +kernel
theorem dX5_isAsked_8 : decode cX5_isAsked 8 = .ok (.iload_n 2, 1) := by decide +kernel
theorem dX5_isAsked_9 : decode cX5_isAsked 9 = .ok (.iconst 0, 1) := by decide +kernel
theorem dX5_isAsked_10 : decode cX5_isAsked 10 = .ok (.bipush 60, 2) := by decide +kernel
theorem dX5_isAsked_12 : decode cX5_isAsked 12 = .ok (.invokestatic 48, 3) := by decide +kernel
theorem dX5_isAsked_15 : decode cX5_isAsked 15 = .ok (.ifCond .eq 7, 3) := by decide +kernel
theorem dX5_isAsked_18 : decode cX5_isAsked 18 = .ok (.iconst 1, 1) := by decide +kernel
theorem dX5_isAsked_19 : decode cX5_isAsked 19 = .ok (.goto 4, 3) := by decide +kernel
theorem dX5_isAsked_22 : decode cX5_isAsked 22 = .ok (.iconst 0, 1) := by decide +kernel
theorem dX5_isAsked_23 : decode cX5_isAsked 23 = .ok (.ireturn, 1) := by decide +kernel
set_option maxRecDepth 20000 in
set_option maxHeartbeats 4000000 in
theorem c_X5_isAsked {K : Cx} {p y : Int32} {m : TM} : CT yX5_isAsked cX5_isAsked 3 (some .boolean) 2 43 K [.ref 49, .int p, .int y] (m) (some (.int (bI (!outI p 0 (m.1 50 1 - 1) && !outI y 0 60)))) (m) := by
  refine ct_ofd (n := 0) (by decide +kernel) rfl rfl ?_
  show XX RX5 cX5_isAsked 3 (some .boolean) 2 43 K 0 [some (.ref 49), some (.int p), some (.int y)] [] (m) (fun r1 m1 => r1 = (some (.int (bI (!outI p 0 (m.1 50 1 - 1) && !outI y 0 60)))) ∧ m1 = m)
  refine x_aload_n (q := 1) dX5_isAsked_0 rfl rfl ?_
  refine x_iload_n (q := 2) dX5_isAsked_1 rfl rfl ?_
  refine x_callV1v (q := 5) dX5_isAsked_2 rfl ml_X5_109 mv_X5_isParcel rv5 rfl c_X5_isParcel (Nat.le_of_ble_eq_true rfl) ⟨by decide, by decide⟩ ?_
  refine x_ifB_eq (q := 8) (t := 22) dX5_isAsked_5 rfl (by decide) (fun h5 => ?_) (fun h5 => ?_)
  · replace h5 := in_f h5
    refine x_iconst (q := 23) (v := 0) dX5_isAsked_22 rfl (by decide) ?_
    refine x_ireturn dX5_isAsked_23 rfl (by decide) ?_
    exact ⟨by simp [h5, bI], rfl⟩
  replace h5 := in_t h5
  refine x_iload_n (q := 9) dX5_isAsked_8 rfl rfl ?_
  refine x_iconst (q := 10) (v := 0) dX5_isAsked_9 rfl (by decide) ?_
  refine x_bipush (q := 12) (v := 60) dX5_isAsked_10 rfl (by decide) ?_
  refine x_callS3v (q := 15) dX5_isAsked_12 rfl ml_X5_48 ms_X5_in1 c_X5_in1 (Nat.le_of_ble_eq_true rfl) ⟨by decide, by decide⟩ ?_
  refine x_ifB_eq (q := 18) (t := 22) dX5_isAsked_15 rfl (by decide) (fun h15 => ?_) (fun h15 => ?_)
  · replace h15 := in_f h15
    refine x_iconst (q := 23) (v := 0) dX5_isAsked_22 rfl (by decide) ?_
    refine x_ireturn dX5_isAsked_23 rfl (by decide) ?_
    exact ⟨by simp [h5, h15, bI], rfl⟩
  replace h15 := in_t h15
  refine x_iconst (q := 19) (v := 1) dX5_isAsked_18 rfl (by decide) ?_
  refine x_goto (q := 23) dX5_isAsked_19 (by decide) ?_
  refine x_ireturn dX5_isAsked_23 rfl (by decide) ?_
  exact ⟨by simp [h5, h15, bI], rfl⟩
theorem dX5_isTakenBy_0 : decode cX5_isTakenBy 0 = .ok (.aload_n 0, 1) := by decide +kernel
theorem dX5_isTakenBy_1 : decode cX5_isTakenBy 1 = .ok (.iload_n 2, 1) := by decide +kernel
theorem dX5_isTakenBy_2 : decode cX5_isTakenBy 2 = .ok (.invokevirtual 115, 3) := by decide +kernel
theorem dX5_isTakenBy_5 : decode cX5_isTakenBy 5 = .ok (.aload_n 0, 1) := by decide +kernel
theorem dX5_isTakenBy_6 : decode cX5_isTakenBy 6 = .ok (.iload_n 1, 1) := by decide +kernel
theorem dX5_isTakenBy_7 : decode cX5_isTakenBy 7 = .ok (.iconst 4, 1) := by decide +kernel
theorem dX5_isTakenBy_8 : decode cX5_isTakenBy 8 = .ok (.invokevirtual 52, 3) := by decide +kernel
theorem dX5_isTakenBy_11 : decode cX5_isTakenBy 11 = .ok (.iconst 1, 1) := by decide +kernel
theorem dX5_isTakenBy_12 : decode cX5_isTakenBy 12 = .ok (.if_icmp .ne 7, 3) := by decide +kernel
theorem dX5_isTakenBy_15 : decode cX5_isTakenBy 15 = .ok (.iconst 1, 1) := by decide +kernel
theorem dX5_isTakenBy_16 : decode cX5_isTakenBy 16 = .ok (.goto 4, 3) := by decide +kernel
theorem dX5_isTakenBy_19 : decode cX5_isTakenBy 19 = .ok (.iconst 0, 1) := by decide +kernel
theorem dX5_isTakenBy_20 : decode cX5_isTakenBy 20 = .ok (.istore_n 3, 1) := by decide +kernel
theorem dX5_isTakenBy_21 : decode cX5_isTakenBy 21 = .ok (.aload_n 0, 1) := by decide +kernel
theorem dX5_isTakenBy_22 : decode cX5_isTakenBy 22 = .ok (.invokevirtual 127, 3) := by decide +kernel
theorem dX5_isTakenBy_25 : decode cX5_isTakenBy 25 = .ok (.iload_n 3, 1) := by decide +kernel
theorem dX5_isTakenBy_26 : decode cX5_isTakenBy 26 = .ok (.ireturn, 1) := by decide +kernel
set_option maxRecDepth 20000 in
set_option maxHeartbeats 4000000 in
theorem c_X5_isTakenBy {K : Cx} {n8 k c : Nat} {u : Nat → Int32} {m : TM} (hI : Iv n8 u) (hk8 : k < 8) (hc : c ≤ 1000) : CT yX5_isTakenBy cX5_isTakenBy 4 (some .boolean) 5 113 K [.ref 49, .int (nI k), .int (nI c)] (sr (asM m) 50 u) (some (.int (bI (d1 (dysC n8 c u (12 + 7 * k + 4)))))) (asM m) := by
  refine ct_ofd (n := 1) (by decide +kernel) rfl rfl ?_
  show XX RX5 cX5_isTakenBy 4 (some .boolean) 5 113 K 0 [some (.ref 49), some (.int (nI k)), some (.int (nI c)), none] [] (sr (asM m) 50 u) (fun r1 m1 => r1 = (some (.int (bI (d1 (dysC n8 c u (12 + 7 * k + 4)))))) ∧ m1 = asM m)
  refine x_aload_n (q := 1) dX5_isTakenBy_0 rfl rfl ?_
  refine x_iload_n (q := 2) dX5_isTakenBy_1 rfl rfl ?_
  refine x_callV1n (q := 5) dX5_isTakenBy_2 rfl ml_X5_115 mv_X5_goes rv5 rfl (c_X5_goes hc hI) (Nat.le_of_ble_eq_true rfl) ⟨by decide, by decide⟩ ?_
  refine x_aload_n (q := 6) dX5_isTakenBy_5 rfl rfl ?_
  refine x_iload_n (q := 7) dX5_isTakenBy_6 rfl rfl ?_
  refine x_iconst (q := 8) (v := 4) dX5_isTakenBy_7 rfl (by decide) ?_
  refine x_callV2v (q := 11) dX5_isTakenBy_8 rfl ml_X5_52 mv_X5_get rv5 rfl (c_X5_getr (f := 4) hk8 (by decide)) (Nat.le_of_ble_eq_true rfl) ⟨by decide, by decide⟩ ?_
  refine x_iconst (q := 12) (v := 1) dX5_isTakenBy_11 rfl (by decide) ?_
  refine x_icmp_ne (q := 15) (t := 19) dX5_isTakenBy_12 rfl (by decide) (fun h12 => ?_) (fun h12 => ?_)
  · refine x_iconst (q := 20) (v := 0) dX5_isTakenBy_19 rfl (by decide) ?_
    refine x_istore_n (q := 21) dX5_isTakenBy_20 rfl (by decide) rfl rfl ?_
    refine x_aload_n (q := 22) dX5_isTakenBy_21 rfl rfl ?_
    refine x_callV0n (q := 25) dX5_isTakenBy_22 rfl ml_X5_127 mv_X5_laysBack rv5 rfl c_back (Nat.le_of_ble_eq_true rfl) ⟨by decide, by decide⟩ ?_
    refine x_iload_n (q := 26) dX5_isTakenBy_25 rfl rfl ?_
    refine x_ireturn dX5_isTakenBy_26 rfl (by decide) ?_
    exact ⟨by rw [d1, decide_eq_false h12]; rfl, rfl⟩
  refine x_iconst (q := 16) (v := 1) dX5_isTakenBy_15 rfl (by decide) ?_
  refine x_goto (q := 20) dX5_isTakenBy_16 (by decide) ?_
  refine x_istore_n (q := 21) dX5_isTakenBy_20 rfl (by decide) rfl rfl ?_
  refine x_aload_n (q := 22) dX5_isTakenBy_21 rfl rfl ?_
  refine x_callV0n (q := 25) dX5_isTakenBy_22 rfl ml_X5_127 mv_X5_laysBack rv5 rfl c_back (Nat.le_of_ble_eq_true rfl) ⟨by decide, by decide⟩ ?_
  refine x_iload_n (q := 26) dX5_isTakenBy_25 rfl rfl ?_
  refine x_ireturn dX5_isTakenBy_26 rfl (by decide) ?_
  exact ⟨by rw [d1, decide_eq_true h12]; rfl, rfl⟩
theorem dX5_greatestBy_0 : decode cX5_greatestBy 0 = .ok (.iload_n 2, 1) := by decide +kernel
theorem dX5_greatestBy_1 : decode cX5_greatestBy 1 = .ok (.invokestatic 112, 3) := by decide +kernel
theorem dX5_greatestBy_4 : decode cX5_greatestBy 4 = .ok (.istore 5, 2) := by decide +kernel
theorem dX5_greatestBy_6 : decode cX5_greatestBy 6 = .ok (.iload 5, 2) := by decide +kernel
theorem dX5_greatestBy_8 : decode cX5_greatestBy 8 = .ok (.iload_n 3, 1) := by decide +kernel
theorem dX5_greatestBy_9 : decode cX5_greatestBy 9 = .ok (.if_icmp .lt 34, 3) := by decide +kernel
theorem dX5_greatestBy_12 : decode cX5_greatestBy 12 = .ok (.aload_n 0, 1) := by decide +kernel
theorem dX5_greatestBy_13 : decode cX5_greatestBy 13 = .ok (.invokevirtual 124, 3) := by decide +kernel
theorem dX5_greatestBy_16 : decode cX5_greatestBy 16 = .ok (.aload_n 0, 1) := by decide +kernel
theorem dX5_greatestBy_17 : decode cX5_greatestBy 17 = .ok (.iload_n 1, 1) := by decide +kernel
theorem dX5_greatestBy_18 : decode cX5_greatestBy 18 = .ok (.iload_n 2, 1) := by decide +kernel
theorem dX5_greatestBy_19 : decode cX5_greatestBy 19 = .ok (.iload 5, 2) := by decide +kernel
theorem dX5_greatestBy_21 : decode cX5_greatestBy 21 = .ok (.invokevirtual 60, 3) := by decide +kernel
theorem dX5_greatestBy_24 : decode cX5_greatestBy 24 = .ok (.aload_n 0, 1) := by decide +kernel
theorem dX5_greatestBy_25 : decode cX5_greatestBy 25 = .ok (.iload_n 1, 1) := by decide +kernel
theorem dX5_greatestBy_26 : decode cX5_greatestBy 26 = .ok (.iload 4, 2) := by decide +kernel
theorem dX5_greatestBy_28 : decode cX5_greatestBy 28 = .ok (.invokevirtual 139, 3) := by decide +kernel
theorem dX5_greatestBy_31 : decode cX5_greatestBy 31 = .ok (.ifCond .eq 6, 3) := by decide +kernel
theorem dX5_greatestBy_34 : decode cX5_greatestBy 34 = .ok (.iload 5, 2) := by decide +kernel
theorem dX5_greatestBy_36 : decode cX5_greatestBy 36 = .ok (.ireturn, 1) := by decide +kernel
theorem dX5_greatestBy_37 : decode cX5_greatestBy 37 = .ok (.iinc 5 (-1), 3) := by decide +kernel
theorem dX5_greatestBy_40 : decode cX5_greatestBy 40 = .ok (.goto (-34), 3) := by decide +kernel
theorem dX5_greatestBy_43 : decode cX5_greatestBy 43 = .ok (.aload_n 0, 1) := by decide +kernel
theorem dX5_greatestBy_44 : decode cX5_greatestBy 44 = .ok (.iconst 3, 1) := by decide +kernel
theorem dX5_greatestBy_45 : decode cX5_greatestBy 45 = .ok (.invokevirtual 103, 3) := by decide +kernel
theorem dX5_greatestBy_48 : decode cX5_greatestBy 48 = .ok (.ireturn, 1) := by decide +kernel
set_option maxRecDepth 20000 in
set_option maxHeartbeats 4000000 in
theorem l_X5_greatestBy {K : Cx} {n8 k c : Nat} {m : TM} (hI : Iv n8 (m.1 50)) (hk : k < n8) (hc : c ≤ 60) {f lo : Nat} (hf : f < 7) (hf0 : f ≠ 0) (hf5 : f ≠ 5) (hlo : lo ≤ 1000) : ∀ (n : Nat) (j : Nat) (Y : Nat → Int32), j < n → j ≤ 1000 → XX RX5 cX5_greatestBy 6 (some .int) 6 136 K 6 [some (.ref 49), some (.int (nI k)), some (.int (nI f)), some (.int (nI lo)), some (.int (nI c)), some (.int (dI j))] [] (sr m 52 Y) (fun r1 m1 => ∃ v, r1 = some (.int v) ∧ ∃ Y, v = ansV (srD (fun v => tkn (m.1 50) n8 k c (12 + 7 * k + f) (nI v)) lo j) ∧ m1 = memR m Y (srD (fun v => tkn (m.1 50) n8 k c (12 + 7 * k + f) (nI v)) lo j)) := by
  intro n
  induction n with
  | zero => intro j Y hlt; exact absurd hlt (Nat.not_lt_zero _)
  | succ n ih =>
    intro j Y hlt hj
    have h8 := hI.1
    have hk8 : k < 8 := by omega
    refine x_iload (q := 8) dX5_greatestBy_6 rfl rfl ?_
    refine x_iload_n (q := 9) dX5_greatestBy_8 rfl rfl ?_
    refine x_icmp_lt (q := 12) (t := 43) dX5_greatestBy_9 rfl (by decide) (fun h9 => ?_) (fun h9 => ?_)
    · have e : j ≤ lo := (dI_lt (j := j) (lo := lo) (by omega) (by omega)).mp h9
      have e2 : srD (fun v => tkn (m.1 50) n8 k c (12 + 7 * k + f) (nI v)) lo j = none := by
        cases j with
        | zero => rfl
        | succ v => rw [srD, if_pos (by omega)]
      rw [e2]
      refine x_aload_n (q := 44) dX5_greatestBy_43 rfl rfl ?_
      refine x_iconst (q := 45) (v := 3) dX5_greatestBy_44 rfl (by decide) ?_
      refine x_callV1v (q := 48) dX5_greatestBy_45 rfl ml_X5_103 mv_X5_no rv5 rfl (c_X5_nox (w := 3) (x := -1000004) (by decide) (by decide)) (Nat.le_of_ble_eq_true rfl) ⟨by decide, by decide⟩ ?_
      refine x_ireturn dX5_greatestBy_48 rfl rfl ?_
      exact ⟨_, rfl, _, rfl, rfl⟩
    have hj0 : ¬ j ≤ lo := fun q => h9 ((dI_lt (j := j) (lo := lo) (by omega) (by omega)).mpr q)
    obtain ⟨v, rfl⟩ : ∃ v, j = v + 1 := ⟨j - 1, by omega⟩
    have hv1 : ¬ v < lo := by omega
    have hiv : Iv n8 (upd (m.1 50) (12 + 7 * k + f) (dI (v + 1))) := hI.upd_p hk hf (fun q => absurd q hf0) (fun q => absurd q hf5)
    simp only [srD, hv1, if_false]
    refine x_aload_n (q := 13) dX5_greatestBy_12 rfl rfl ?_
    refine x_callV0n (q := 16) dX5_greatestBy_13 rfl ml_X5_124 mv_X5_setsAside rv5 rfl c_setY (Nat.le_of_ble_eq_true rfl) ⟨by decide, by decide⟩ ?_
    refine x_aload_n (q := 17) dX5_greatestBy_16 rfl rfl ?_
    refine x_iload_n (q := 18) dX5_greatestBy_17 rfl rfl ?_
    refine x_iload_n (q := 19) dX5_greatestBy_18 rfl rfl ?_
    refine x_iload (q := 21) dX5_greatestBy_19 rfl rfl ?_
    refine x_callV3n (q := 24) dX5_greatestBy_21 rfl ml_X5_60 mv_X5_puts rv5 rfl (c_X5_putsr hk8 hf) (Nat.le_of_ble_eq_true rfl) ⟨by decide, by decide⟩ ?_
    refine x_aload_n (q := 25) dX5_greatestBy_24 rfl rfl ?_
    refine x_iload_n (q := 26) dX5_greatestBy_25 rfl rfl ?_
    refine x_iload (q := 28) dX5_greatestBy_26 rfl rfl ?_
    refine x_callV2v (q := 31) dX5_greatestBy_28 rfl ml_X5_139 mv_X5_isTakenBy rv5 rfl (c_X5_isTakenBy hiv hk8 (by omega)) (Nat.le_of_ble_eq_true rfl) ⟨by decide, by decide⟩ ?_
    refine x_ifB_eq (q := 34) (t := 37) dX5_greatestBy_31 rfl (by decide) (fun h31 => ?_) (fun h31 => ?_)
    · refine x_iinc (q := 40) (v := dI v) dX5_greatestBy_37 rfl rfl (dI_dec v) (by decide) rfl rfl ?_
      refine x_goto (q := 6) dX5_greatestBy_40 (by decide) ?_
      have h32 : tkn (m.1 50) n8 k c (12 + 7 * k + f) (nI v) = false := by rw [← dI_s]; exact h31
      rw [if_neg (by rw [h32]; decide)]
      exact ih v _ (by omega) (by omega)
    refine x_iload (q := 36) dX5_greatestBy_34 rfl rfl ?_
    refine x_ireturn dX5_greatestBy_36 rfl rfl ?_
    have h32 : tkn (m.1 50) n8 k c (12 + 7 * k + f) (nI v) = true := by rw [← dI_s]; exact h31
    rw [if_pos h32, dI_s]
    exact ⟨_, rfl, _, rfl, rfl⟩
set_option maxRecDepth 20000 in
set_option maxHeartbeats 4000000 in
theorem c_X5_greatestBy {K : Cx} {n8 k c : Nat} {m : TM} (hI : Iv n8 (m.1 50)) (hk : k < n8) (hc : c ≤ 60) {f lo : Nat} (hf : f < 7) (hf0 : f ≠ 0) (hf5 : f ≠ 5) (hlo : lo ≤ 1000) {J : Nat} (hJ : J ≤ 1000) (hm : mst (nI f) = dI J) : CQ yX5_greatestBy cX5_greatestBy 6 (some .int) 6 136 K [.ref 49, .int (nI k), .int (nI f), .int (nI lo), .int (nI c)] (m) (fun r1 m1 => ∃ v, r1 = some (.int v) ∧ ∃ Y, v = ansV (srD (fun v => tkn (m.1 50) n8 k c (12 + 7 * k + f) (nI v)) lo J) ∧ m1 = memR m Y (srD (fun v => tkn (m.1 50) n8 k c (12 + 7 * k + f) (nI v)) lo J)) := by
  refine ct_ofq (n := 1) (by decide +kernel) rfl rfl ?_
  show XX RX5 cX5_greatestBy 6 (some .int) 6 136 K 0 [some (.ref 49), some (.int (nI k)), some (.int (nI f)), some (.int (nI lo)), some (.int (nI c)), none] [] (m) (fun r1 m1 => ∃ v, r1 = some (.int v) ∧ ∃ Y, v = ansV (srD (fun v => tkn (m.1 50) n8 k c (12 + 7 * k + f) (nI v)) lo J) ∧ m1 = memR m Y (srD (fun v => tkn (m.1 50) n8 k c (12 + 7 * k + f) (nI v)) lo J))
  refine x_iload_n (q := 1) dX5_greatestBy_0 rfl rfl ?_
  refine x_callS1v (q := 4) dX5_greatestBy_1 rfl ml_X5_112 ms_X5_mostOf c_X5_mostOf (Nat.le_of_ble_eq_true rfl) ⟨by decide, by decide⟩ ?_
  refine x_istore (q := 6) dX5_greatestBy_4 rfl (by decide) rfl rfl ?_
  rw [hm]
  have h := l_X5_greatestBy (K := K) hI hk hc hf hf0 hf5 hlo (J + 1) J (m.1 52) (by omega) hJ
  rw [sr_self] at h
  exact h
theorem dX5_lineFor_0 : decode cX5_lineFor 0 = .ok (.aload_n 0, 1) := by decide +kernel
theorem dX5_lineFor_1 : decode cX5_lineFor 1 = .ok (.iload_n 1, 1) := by decide +kernel
theorem dX5_lineFor_2 : decode cX5_lineFor 2 = .ok (.iload_n 2, 1) := by decide +kernel
theorem dX5_lineFor_3 : decode cX5_lineFor 3 = .ok (.invokevirtual 142, 3) := by decide +kernel
theorem dX5_lineFor_6 : decode cX5_lineFor 6 = .ok (.ifCond .eq 14, 3) := by decide +kernel
theorem dX5_lineFor_9 : decode cX5_lineFor 9 = .ok (.aload_n 0, 1) := by decide +kernel
theorem dX5_lineFor_10 : decode cX5_lineFor 10 = .ok (.iload_n 1, 1) := by decide +kernel
theorem dX5_lineFor_11 : decode cX5_lineFor 11 = .ok (.iconst 1, 1) := by decide +kernel
theorem dX5_lineFor_12 : decode cX5_lineFor 12 = .ok (.iconst 0, 1) := by decide +kernel
theorem dX5_lineFor_13 : decode cX5_lineFor 13 = .ok (.iload_n 2, 1) := by decide +kernel
theorem dX5_lineFor_14 : decode cX5_lineFor 14 = .ok (.invokevirtual 145, 3) := by decide +kernel
theorem dX5_lineFor_17 : decode cX5_lineFor 17 = .ok (.goto 8, 3) := by decide +kernel
theorem dX5_lineFor_20 : decode cX5_lineFor 20 = .ok (.aload_n 0, 1) := by decide +kernel
theorem dX5_lineFor_21 : decode cX5_lineFor 21 = .ok (.iconst 0, 1) := by decide +kernel
theorem dX5_lineFor_22 : decode cX5_lineFor 22 = .ok (.invokevirtual 103, 3) := by decide +kernel
theorem dX5_lineFor_25 : decode cX5_lineFor 25 = .ok (.ireturn, 1) := by decide +kernel
set_option maxRecDepth 20000 in
set_option maxHeartbeats 4000000 in
theorem c_X5_lineFor {K : Cx} {n8 k c : Nat} {m : TM} (hI : Iv n8 (m.1 50)) (hk : k < n8) (hc : c ≤ 60) : CQ yX5_lineFor cX5_lineFor 3 (some .int) 7 161 K [.ref 49, .int (nI k), .int (nI c)] (m) (fun r1 m1 => ∃ Y, r1 = some (.int (ansV (srD (fun v => tkn (m.1 50) n8 k c (12 + 7 * k + 1) (nI v)) 0 21))) ∧ m1 = memR m Y (srD (fun v => tkn (m.1 50) n8 k c (12 + 7 * k + 1) (nI v)) 0 21)) := by
  refine ct_ofq (n := 0) (by decide +kernel) rfl rfl ?_
  show XX RX5 cX5_lineFor 3 (some .int) 7 161 K 0 [some (.ref 49), some (.int (nI k)), some (.int (nI c))] [] (m) (fun r1 m1 => ∃ Y, r1 = some (.int (ansV (srD (fun v => tkn (m.1 50) n8 k c (12 + 7 * k + 1) (nI v)) 0 21))) ∧ m1 = memR m Y (srD (fun v => tkn (m.1 50) n8 k c (12 + 7 * k + 1) (nI v)) 0 21))
  refine x_aload_n (q := 1) dX5_lineFor_0 rfl rfl ?_
  refine x_iload_n (q := 2) dX5_lineFor_1 rfl rfl ?_
  refine x_iload_n (q := 3) dX5_lineFor_2 rfl rfl ?_
  refine x_callV2v (q := 6) dX5_lineFor_3 rfl ml_X5_142 mv_X5_isAsked rv5 rfl c_X5_isAsked (Nat.le_of_ble_eq_true rfl) ⟨by decide, by decide⟩ ?_
  refine x_ifB_eq (q := 9) (t := 20) dX5_lineFor_6 rfl (by decide) (fun h6 => ?_) (fun h6 => ?_)
  · exact absurd h6 (by rw [par_in hI.2.1 hI.1 hk, show outI (nI c) 0 60 = false from rng_in (a := 0) (Nat.zero_le c) hc (by decide)]; decide)
  refine x_aload_n (q := 10) dX5_lineFor_9 rfl rfl ?_
  refine x_iload_n (q := 11) dX5_lineFor_10 rfl rfl ?_
  refine x_iconst (q := 12) (v := 1) dX5_lineFor_11 rfl (by decide) ?_
  refine x_iconst (q := 13) (v := 0) dX5_lineFor_12 rfl (by decide) ?_
  refine x_iload_n (q := 14) dX5_lineFor_13 rfl rfl ?_
  refine x_callV4q (q := 17) dX5_lineFor_14 rfl ml_X5_145 mv_X5_greatestBy rv5 rfl (c_X5_greatestBy (f := 1) (lo := 0) hI hk hc (by decide) (by decide) (by decide) (by decide) (J := 21) (by decide) (by decide)) (Nat.le_of_ble_eq_true rfl) ⟨by decide, by decide⟩ (fun v m1 hQ => ?_)
  obtain ⟨Y, rfl, rfl⟩ := hQ
  refine x_goto (q := 25) dX5_lineFor_17 (by decide) ?_
  refine x_ireturn dX5_lineFor_25 rfl rfl ?_
  exact ⟨Y, rfl, rfl⟩
set_option maxRecDepth 20000 in
set_option maxHeartbeats 4000000 in
theorem c_X5_lineForB {K : Cx} {p y : Int32} {m : TM} (hb : (outI p 0 (m.1 50 1 - 1) || outI y 0 60) = true) : CT yX5_lineFor cX5_lineFor 3 (some .int) 7 161 K [.ref 49, .int p, .int y] (m) (some (.int (-1000001))) (fnm m 0) := by
  refine ct_ofd (n := 0) (by decide +kernel) rfl rfl ?_
  show XX RX5 cX5_lineFor 3 (some .int) 7 161 K 0 [some (.ref 49), some (.int p), some (.int y)] [] (m) (fun r1 m1 => r1 = (some (.int (-1000001))) ∧ m1 = fnm m 0)
  refine x_aload_n (q := 1) dX5_lineFor_0 rfl rfl ?_
  refine x_iload_n (q := 2) dX5_lineFor_1 rfl rfl ?_
  refine x_iload_n (q := 3) dX5_lineFor_2 rfl rfl ?_
  refine x_callV2v (q := 6) dX5_lineFor_3 rfl ml_X5_142 mv_X5_isAsked rv5 rfl c_X5_isAsked (Nat.le_of_ble_eq_true rfl) ⟨by decide, by decide⟩ ?_
  refine x_ifB_eq (q := 9) (t := 20) dX5_lineFor_6 rfl (by decide) (fun h6 => ?_) (fun h6 => ?_)
  · refine x_aload_n (q := 21) dX5_lineFor_20 rfl rfl ?_
    refine x_iconst (q := 22) (v := 0) dX5_lineFor_21 rfl (by decide) ?_
    refine x_callV1v (q := 25) dX5_lineFor_22 rfl ml_X5_103 mv_X5_no rv5 rfl (c_X5_nox (w := 0) (x := -1000001) (by decide) (by decide)) (Nat.le_of_ble_eq_true rfl) ⟨by decide, by decide⟩ ?_
    refine x_ireturn dX5_lineFor_25 rfl rfl ?_
    exact ⟨rfl, rfl⟩
  exact absurd h6 (by revert hb; cases outI p 0 (m.1 50 1 - 1) <;> cases outI y 0 60 <;> decide)
theorem dX5_weightFor_0 : decode cX5_weightFor 0 = .ok (.aload_n 0, 1) := by decide +kernel
theorem dX5_weightFor_1 : decode cX5_weightFor 1 = .ok (.iload_n 1, 1) := by decide +kernel
theorem dX5_weightFor_2 : decode cX5_weightFor 2 = .ok (.iload_n 2, 1) := by decide +kernel
theorem dX5_weightFor_3 : decode cX5_weightFor 3 = .ok (.invokevirtual 142, 3) := by decide +kernel
theorem dX5_weightFor_6 : decode cX5_weightFor 6 = .ok (.ifCond .eq 14, 3) := by decide +kernel
theorem dX5_weightFor_9 : decode cX5_weightFor 9 = .ok (.aload_n 0, 1) := by decide +kernel
theorem dX5_weightFor_10 : decode cX5_weightFor 10 = .ok (.iload_n 1, 1) := by decide +kernel
theorem dX5_weightFor_11 : decode cX5_weightFor 11 = .ok (.iconst 2, 1) := by decide +kernel
theorem dX5_weightFor_12 : decode cX5_weightFor 12 = .ok (.iconst 1, 1) := by decide +kernel
theorem dX5_weightFor_13 : decode cX5_weightFor 13 = .ok (.iload_n 2, 1) := by decide +kernel
theorem dX5_weightFor_14 : decode cX5_weightFor 14 = .ok (.invokevirtual 145, 3) := by decide +kernel
theorem dX5_weightFor_17 : decode cX5_weightFor 17 = .ok (.goto 8, 3) := by decide +kernel
theorem dX5_weightFor_20 : decode cX5_weightFor 20 = .ok (.aload_n 0, 1) := by decide +kernel
theorem dX5_weightFor_21 : decode cX5_weightFor 21 = .ok (.iconst 0, 1) := by decide +kernel
theorem dX5_weightFor_22 : decode cX5_weightFor 22 = .ok (.invokevirtual 103, 3) := by decide +kernel
theorem dX5_weightFor_25 : decode cX5_weightFor 25 = .ok (.ireturn, 1) := by decide +kernel
set_option maxRecDepth 20000 in
set_option maxHeartbeats 4000000 in
theorem c_X5_weightFor {K : Cx} {n8 k c : Nat} {m : TM} (hI : Iv n8 (m.1 50)) (hk : k < n8) (hc : c ≤ 60) : CQ yX5_weightFor cX5_weightFor 3 (some .int) 7 161 K [.ref 49, .int (nI k), .int (nI c)] (m) (fun r1 m1 => ∃ Y, r1 = some (.int (ansV (srD (fun v => tkn (m.1 50) n8 k c (12 + 7 * k + 2) (nI v)) 1 100))) ∧ m1 = memR m Y (srD (fun v => tkn (m.1 50) n8 k c (12 + 7 * k + 2) (nI v)) 1 100)) := by
  refine ct_ofq (n := 0) (by decide +kernel) rfl rfl ?_
  show XX RX5 cX5_weightFor 3 (some .int) 7 161 K 0 [some (.ref 49), some (.int (nI k)), some (.int (nI c))] [] (m) (fun r1 m1 => ∃ Y, r1 = some (.int (ansV (srD (fun v => tkn (m.1 50) n8 k c (12 + 7 * k + 2) (nI v)) 1 100))) ∧ m1 = memR m Y (srD (fun v => tkn (m.1 50) n8 k c (12 + 7 * k + 2) (nI v)) 1 100))
  refine x_aload_n (q := 1) dX5_weightFor_0 rfl rfl ?_
  refine x_iload_n (q := 2) dX5_weightFor_1 rfl rfl ?_
  refine x_iload_n (q := 3) dX5_weightFor_2 rfl rfl ?_
  refine x_callV2v (q := 6) dX5_weightFor_3 rfl ml_X5_142 mv_X5_isAsked rv5 rfl c_X5_isAsked (Nat.le_of_ble_eq_true rfl) ⟨by decide, by decide⟩ ?_
  refine x_ifB_eq (q := 9) (t := 20) dX5_weightFor_6 rfl (by decide) (fun h6 => ?_) (fun h6 => ?_)
  · exact absurd h6 (by rw [par_in hI.2.1 hI.1 hk, show outI (nI c) 0 60 = false from rng_in (a := 0) (Nat.zero_le c) hc (by decide)]; decide)
  refine x_aload_n (q := 10) dX5_weightFor_9 rfl rfl ?_
  refine x_iload_n (q := 11) dX5_weightFor_10 rfl rfl ?_
  refine x_iconst (q := 12) (v := 2) dX5_weightFor_11 rfl (by decide) ?_
  refine x_iconst (q := 13) (v := 1) dX5_weightFor_12 rfl (by decide) ?_
  refine x_iload_n (q := 14) dX5_weightFor_13 rfl rfl ?_
  refine x_callV4q (q := 17) dX5_weightFor_14 rfl ml_X5_145 mv_X5_greatestBy rv5 rfl (c_X5_greatestBy (f := 2) (lo := 1) hI hk hc (by decide) (by decide) (by decide) (by decide) (J := 100) (by decide) (by decide)) (Nat.le_of_ble_eq_true rfl) ⟨by decide, by decide⟩ (fun v m1 hQ => ?_)
  obtain ⟨Y, rfl, rfl⟩ := hQ
  refine x_goto (q := 25) dX5_weightFor_17 (by decide) ?_
  refine x_ireturn dX5_weightFor_25 rfl rfl ?_
  exact ⟨Y, rfl, rfl⟩
set_option maxRecDepth 20000 in
set_option maxHeartbeats 4000000 in
theorem c_X5_weightForB {K : Cx} {p y : Int32} {m : TM} (hb : (outI p 0 (m.1 50 1 - 1) || outI y 0 60) = true) : CT yX5_weightFor cX5_weightFor 3 (some .int) 7 161 K [.ref 49, .int p, .int y] (m) (some (.int (-1000001))) (fnm m 0) := by
  refine ct_ofd (n := 0) (by decide +kernel) rfl rfl ?_
  show XX RX5 cX5_weightFor 3 (some .int) 7 161 K 0 [some (.ref 49), some (.int p), some (.int y)] [] (m) (fun r1 m1 => r1 = (some (.int (-1000001))) ∧ m1 = fnm m 0)
  refine x_aload_n (q := 1) dX5_weightFor_0 rfl rfl ?_
  refine x_iload_n (q := 2) dX5_weightFor_1 rfl rfl ?_
  refine x_iload_n (q := 3) dX5_weightFor_2 rfl rfl ?_
  refine x_callV2v (q := 6) dX5_weightFor_3 rfl ml_X5_142 mv_X5_isAsked rv5 rfl c_X5_isAsked (Nat.le_of_ble_eq_true rfl) ⟨by decide, by decide⟩ ?_
  refine x_ifB_eq (q := 9) (t := 20) dX5_weightFor_6 rfl (by decide) (fun h6 => ?_) (fun h6 => ?_)
  · refine x_aload_n (q := 21) dX5_weightFor_20 rfl rfl ?_
    refine x_iconst (q := 22) (v := 0) dX5_weightFor_21 rfl (by decide) ?_
    refine x_callV1v (q := 25) dX5_weightFor_22 rfl ml_X5_103 mv_X5_no rv5 rfl (c_X5_nox (w := 0) (x := -1000001) (by decide) (by decide)) (Nat.le_of_ble_eq_true rfl) ⟨by decide, by decide⟩ ?_
    refine x_ireturn dX5_weightFor_25 rfl rfl ?_
    exact ⟨rfl, rfl⟩
  exact absurd h6 (by revert hb; cases outI p 0 (m.1 50 1 - 1) <;> cases outI y 0 60 <;> decide)
theorem dX5_stormFor_0 : decode cX5_stormFor 0 = .ok (.aload_n 0, 1) := by decide +kernel
theorem dX5_stormFor_1 : decode cX5_stormFor 1 = .ok (.iload_n 1, 1) := by decide +kernel
theorem dX5_stormFor_2 : decode cX5_stormFor 2 = .ok (.iload_n 2, 1) := by decide +kernel
theorem dX5_stormFor_3 : decode cX5_stormFor 3 = .ok (.invokevirtual 142, 3) := by decide +kernel
theorem dX5_stormFor_6 : decode cX5_stormFor 6 = .ok (.ifCond .ne 9, 3) := by decide +kernel
theorem dX5_stormFor_9 : decode cX5_stormFor 9 = .ok (.aload_n 0, 1) := by decide +kernel
theorem dX5_stormFor_10 : decode cX5_stormFor 10 = .ok (.iconst 0, 1) := by decide +kernel
theorem dX5_stormFor_11 : decode cX5_stormFor 11 = .ok (.invokevirtual 103, 3) := by decide +kernel
theorem dX5_stormFor_14 : decode cX5_stormFor 14 = .ok (.ireturn, 1) := by decide +kernel
theorem dX5_stormFor_15 : decode cX5_stormFor 15 = .ok (.iconst 0, 1) := by decide +kernel
theorem dX5_stormFor_16 : decode cX5_stormFor 16 = .ok (.istore_n 3, 1) := by decide +kernel
theorem dX5_stormFor_17 : decode cX5_stormFor 17 = .ok (.iload_n 3, 1) := by decide +kernel
theorem dX5_stormFor_18 : decode cX5_stormFor 18 = .ok (.bipush 9, 2) := by decide +kernel
theorem dX5_stormFor_20 : decode cX5_stormFor 20 = .ok (.if_icmp .gt 31, 3) := by decide +kernel
theorem dX5_stormFor_23 : decode cX5_stormFor 23 = .ok (.aload_n 0, 1) := by decide +kernel
theorem dX5_stormFor_24 : decode cX5_stormFor 24 = .ok (.invokevirtual 124, 3) := by decide +kernel
theorem dX5_stormFor_27 : decode cX5_stormFor 27 = .ok (.aload_n 0, 1) := by decide +kernel
theorem dX5_stormFor_28 : decode cX5_stormFor 28 = .ok (.getfield 9, 3) := by decide +kernel
theorem dX5_stormFor_31 : decode cX5_stormFor 31 = .ok (.iconst 5, 1) := by decide +kernel
theorem dX5_stormFor_32 : decode cX5_stormFor 32 = .ok (.iload_n 3, 1) := by decide +kernel
theorem dX5_stormFor_33 : decode cX5_stormFor 33 = .ok (.iastore, 1) := by decide +kernel
theorem dX5_stormFor_34 : decode cX5_stormFor 34 = .ok (.aload_n 0, 1) := by decide +kernel
theorem dX5_stormFor_35 : decode cX5_stormFor 35 = .ok (.iload_n 1, 1) := by decide +kernel
theorem dX5_stormFor_36 : decode cX5_stormFor 36 = .ok (.iload_n 2, 1) := by decide +kernel
theorem dX5_stormFor_37 : decode cX5_stormFor 37 = .ok (.invokevirtual 139, 3) := by decide +kernel
theorem dX5_stormFor_40 : decode cX5_stormFor 40 = .ok (.ifCond .eq 5, 3) := by decide +kernel
theorem dX5_stormFor_43 : decode cX5_stormFor 43 = .ok (.iload_n 3, 1) := by decide +kernel
theorem dX5_stormFor_44 : decode cX5_stormFor 44 = .ok (.ireturn, 1) := by decide +kernel
theorem dX5_stormFor_45 : decode cX5_stormFor 45 = .ok (.iinc 3 1, 3) := by decide +kernel
theorem dX5_stormFor_48 : decode cX5_stormFor 48 = .ok (.goto (-31), 3) := by decide +kernel
theorem dX5_stormFor_51 : decode cX5_stormFor 51 = .ok (.aload_n 0, 1) := by decide +kernel
theorem dX5_stormFor_52 : decode cX5_stormFor 52 = .ok (.iconst 3, 1) := by decide +kernel
theorem dX5_stormFor_53 : decode cX5_stormFor 53 = .ok (.invokevirtual 103, 3) := by decide +kernel
theorem dX5_stormFor_56 : decode cX5_stormFor 56 = .ok (.ireturn, 1) := by decide +kernel
set_option maxRecDepth 20000 in
set_option maxHeartbeats 4000000 in
theorem l_X5_stormFor {K : Cx} {n8 k c : Nat} {m : TM} (hI : Iv n8 (m.1 50)) (hk : k < n8) (hc : c ≤ 60) : ∀ (n : Nat) (j : Nat) (Y : Nat → Int32), 10 - j < n → j ≤ 10 → XX RX5 cX5_stormFor 4 (some .int) 6 136 K 17 [some (.ref 49), some (.int (nI k)), some (.int (nI c)), some (.int (nI j))] [] (sr m 52 Y) (fun r1 m1 => ∃ Y, r1 = some (.int (ansV (srch (fun v => tkn (m.1 50) n8 k c 5 (nI v)) (10 - j) j))) ∧ m1 = memR m Y (srch (fun v => tkn (m.1 50) n8 k c 5 (nI v)) (10 - j) j)) := by
  intro n
  induction n with
  | zero => intro j Y hlt; exact absurd hlt (Nat.not_lt_zero _)
  | succ n ih =>
    intro j Y hlt hj
    have h8 := hI.1
    have hk8 : k < 8 := by omega
    refine x_iload_n (q := 18) dX5_stormFor_17 rfl rfl ?_
    refine x_bipush (q := 20) (v := 9) dX5_stormFor_18 rfl (by decide) ?_
    refine x_icmp_gt (q := 23) (t := 51) dX5_stormFor_20 rfl (by decide) (fun h20 => ?_) (fun h20 => ?_)
    · have e : 9 < j := (jnI_lt (a := 9) (b := j) (by omega) (by omega)).mp h20
      have e2 : j = 10 := by omega
      subst e2
      refine x_aload_n (q := 52) dX5_stormFor_51 rfl rfl ?_
      refine x_iconst (q := 53) (v := 3) dX5_stormFor_52 rfl (by decide) ?_
      refine x_callV1v (q := 56) dX5_stormFor_53 rfl ml_X5_103 mv_X5_no rv5 rfl (c_X5_nox (w := 3) (x := -1000004) (by decide) (by decide)) (Nat.le_of_ble_eq_true rfl) ⟨by decide, by decide⟩ ?_
      refine x_ireturn dX5_stormFor_56 rfl rfl ?_
      exact ⟨_, rfl, rfl⟩
    have hj9 : ¬ 9 < j := fun q => h20 ((jnI_lt (a := 9) (b := j) (by omega) (by omega)).mpr q)
    have hiv := hI.upd_lo (i := 5) (v := nI j) (by decide) (by decide) (by decide) (by decide)
    have e1 : 10 - j = (10 - (j + 1)) + 1 := by omega
    rw [e1]
    simp only [srch]
    refine x_aload_n (q := 24) dX5_stormFor_23 rfl rfl ?_
    refine x_callV0n (q := 27) dX5_stormFor_24 rfl ml_X5_124 mv_X5_setsAside rv5 rfl c_setY (Nat.le_of_ble_eq_true rfl) ⟨by decide, by decide⟩ ?_
    refine x_aload_n (q := 28) dX5_stormFor_27 rfl rfl ?_
    refine x_getR (q := 31) dX5_stormFor_28 rfl fl_X5_9 (or5_s) ?_
    refine x_iconst (q := 32) (v := 5) dX5_stormFor_31 rfl (by decide) ?_
    refine x_iload_n (q := 33) dX5_stormFor_32 rfl rfl ?_
    refine x_iastr (q := 34) dX5_stormFor_33 rfl (ar_50) (ix_nI (k := 5) (by decide) (by decide)) (Nat.zero_add _)  ?_
    refine x_aload_n (q := 35) dX5_stormFor_34 rfl rfl ?_
    refine x_iload_n (q := 36) dX5_stormFor_35 rfl rfl ?_
    refine x_iload_n (q := 37) dX5_stormFor_36 rfl rfl ?_
    refine x_callV2v (q := 40) dX5_stormFor_37 rfl ml_X5_139 mv_X5_isTakenBy rv5 rfl (c_X5_isTakenBy hiv hk8 (by omega)) (Nat.le_of_ble_eq_true rfl) ⟨by decide, by decide⟩ ?_
    refine x_ifB_eq (q := 43) (t := 45) dX5_stormFor_40 rfl (by decide) (fun h40 => ?_) (fun h40 => ?_)
    · refine x_iinc (q := 48) (v := nI (j + 1)) dX5_stormFor_45 rfl rfl (jnI_s j) (by decide) rfl rfl ?_
      refine x_goto (q := 17) dX5_stormFor_48 (by decide) ?_
      have h41 : tkn (m.1 50) n8 k c 5 (nI j) = false := h40
      rw [if_neg (by rw [h41]; decide)]
      exact ih (j + 1) _ (by omega) (by omega)
    refine x_iload_n (q := 44) dX5_stormFor_43 rfl rfl ?_
    refine x_ireturn dX5_stormFor_44 rfl rfl ?_
    have h41 : tkn (m.1 50) n8 k c 5 (nI j) = true := h40
    rw [if_pos h41]
    exact ⟨_, rfl, rfl⟩
set_option maxRecDepth 20000 in
set_option maxHeartbeats 4000000 in
theorem c_X5_stormFor {K : Cx} {n8 k c : Nat} {m : TM} (hI : Iv n8 (m.1 50)) (hk : k < n8) (hc : c ≤ 60) : CQ yX5_stormFor cX5_stormFor 4 (some .int) 6 136 K [.ref 49, .int (nI k), .int (nI c)] (m) (fun r1 m1 => ∃ Y, r1 = some (.int (ansV (srch (fun v => tkn (m.1 50) n8 k c 5 (nI v)) 10 0))) ∧ m1 = memR m Y (srch (fun v => tkn (m.1 50) n8 k c 5 (nI v)) 10 0)) := by
  refine ct_ofq (n := 1) (by decide +kernel) rfl rfl ?_
  show XX RX5 cX5_stormFor 4 (some .int) 6 136 K 0 [some (.ref 49), some (.int (nI k)), some (.int (nI c)), none] [] (m) (fun r1 m1 => ∃ Y, r1 = some (.int (ansV (srch (fun v => tkn (m.1 50) n8 k c 5 (nI v)) 10 0))) ∧ m1 = memR m Y (srch (fun v => tkn (m.1 50) n8 k c 5 (nI v)) 10 0))
  refine x_aload_n (q := 1) dX5_stormFor_0 rfl rfl ?_
  refine x_iload_n (q := 2) dX5_stormFor_1 rfl rfl ?_
  refine x_iload_n (q := 3) dX5_stormFor_2 rfl rfl ?_
  refine x_callV2v (q := 6) dX5_stormFor_3 rfl ml_X5_142 mv_X5_isAsked rv5 rfl c_X5_isAsked (Nat.le_of_ble_eq_true rfl) ⟨by decide, by decide⟩ ?_
  refine x_ifB_ne (q := 9) (t := 15) dX5_stormFor_6 rfl (by decide) (fun h6 => ?_) (fun h6 => ?_)
  · refine x_iconst (q := 16) (v := 0) dX5_stormFor_15 rfl (by decide) ?_
    refine x_istore_n (q := 17) dX5_stormFor_16 rfl (by decide) rfl rfl ?_
    have h := l_X5_stormFor (K := K) hI hk hc 11 0 (m.1 52) (by omega) (by omega)
    rw [sr_self] at h
    exact h
  exact absurd h6 (by rw [par_in hI.2.1 hI.1 hk, show outI (nI c) 0 60 = false from rng_in (a := 0) (Nat.zero_le c) hc (by decide)]; decide)
set_option maxRecDepth 20000 in
set_option maxHeartbeats 4000000 in
theorem c_X5_stormForB {K : Cx} {p y : Int32} {m : TM} (hb : (outI p 0 (m.1 50 1 - 1) || outI y 0 60) = true) : CT yX5_stormFor cX5_stormFor 4 (some .int) 6 136 K [.ref 49, .int p, .int y] (m) (some (.int (-1000001))) (fnm m 0) := by
  refine ct_ofd (n := 1) (by decide +kernel) rfl rfl ?_
  show XX RX5 cX5_stormFor 4 (some .int) 6 136 K 0 [some (.ref 49), some (.int p), some (.int y), none] [] (m) (fun r1 m1 => r1 = (some (.int (-1000001))) ∧ m1 = fnm m 0)
  refine x_aload_n (q := 1) dX5_stormFor_0 rfl rfl ?_
  refine x_iload_n (q := 2) dX5_stormFor_1 rfl rfl ?_
  refine x_iload_n (q := 3) dX5_stormFor_2 rfl rfl ?_
  refine x_callV2v (q := 6) dX5_stormFor_3 rfl ml_X5_142 mv_X5_isAsked rv5 rfl c_X5_isAsked (Nat.le_of_ble_eq_true rfl) ⟨by decide, by decide⟩ ?_
  refine x_ifB_ne (q := 9) (t := 15) dX5_stormFor_6 rfl (by decide) (fun h6 => ?_) (fun h6 => ?_)
  · exact absurd h6 (by revert hb; cases outI p 0 (m.1 50 1 - 1) <;> cases outI y 0 60 <;> decide)
  refine x_aload_n (q := 10) dX5_stormFor_9 rfl rfl ?_
  refine x_iconst (q := 11) (v := 0) dX5_stormFor_10 rfl (by decide) ?_
  refine x_callV1v (q := 14) dX5_stormFor_11 rfl ml_X5_103 mv_X5_no rv5 rfl (c_X5_nox (w := 0) (x := -1000001) (by decide) (by decide)) (Nat.le_of_ble_eq_true rfl) ⟨by decide, by decide⟩ ?_
  refine x_ireturn dX5_stormFor_14 rfl rfl ?_
  exact ⟨rfl, rfl⟩
theorem dX5_kindFor_0 : decode cX5_kindFor 0 = .ok (.aload_n 0, 1) := by decide +kernel
theorem dX5_kindFor_1 : decode cX5_kindFor 1 = .ok (.iload_n 1, 1) := by decide +kernel
theorem dX5_kindFor_2 : decode cX5_kindFor 2 = .ok (.iload_n 2, 1) := by decide +kernel
theorem dX5_kindFor_3 : decode cX5_kindFor 3 = .ok (.invokevirtual 142, 3) := by decide +kernel
theorem dX5_kindFor_6 : decode cX5_kindFor 6 = .ok (.ifCond .ne 9, 3) := by decide +kernel
theorem dX5_kindFor_9 : decode cX5_kindFor 9 = .ok (.aload_n 0, 1) := by decide +kernel
theorem dX5_kindFor_10 : decode cX5_kindFor 10 = .ok (.iconst 0, 1) := by decide +kernel
theorem dX5_kindFor_11 : decode cX5_kindFor 11 = .ok (.invokevirtual 103, 3) := by decide +kernel
theorem dX5_kindFor_14 : decode cX5_kindFor 14 = .ok (.ireturn, 1) := by decide +kernel
theorem dX5_kindFor_15 : decode cX5_kindFor 15 = .ok (.iconst 0, 1) := by decide +kernel
theorem dX5_kindFor_16 : decode cX5_kindFor 16 = .ok (.istore_n 3, 1) := by decide +kernel
theorem dX5_kindFor_17 : decode cX5_kindFor 17 = .ok (.iconst (-1), 1) := by decide +kernel
theorem dX5_kindFor_18 : decode cX5_kindFor 18 = .ok (.istore 4, 2) := by decide +kernel
theorem dX5_kindFor_20 : decode cX5_kindFor 20 = .ok (.iconst 0, 1) := by decide +kernel
theorem dX5_kindFor_21 : decode cX5_kindFor 21 = .ok (.istore 5, 2) := by decide +kernel
theorem dX5_kindFor_23 : decode cX5_kindFor 23 = .ok (.iload 5, 2) := by decide +kernel
theorem dX5_kindFor_25 : decode cX5_kindFor 25 = .ok (.bipush 6, 2) := by decide +kernel
theorem dX5_kindFor_27 : decode cX5_kindFor 27 = .ok (.if_icmp .gt 68, 3) := by decide +kernel
theorem dX5_kindFor_30 : decode cX5_kindFor 30 = .ok (.aload_n 0, 1) := by decide +kernel
theorem dX5_kindFor_31 : decode cX5_kindFor 31 = .ok (.invokevirtual 124, 3) := by decide +kernel
theorem dX5_kindFor_34 : decode cX5_kindFor 34 = .ok (.aload_n 0, 1) := by decide +kernel
theorem dX5_kindFor_35 : decode cX5_kindFor 35 = .ok (.iload_n 1, 1) := by decide +kernel
theorem dX5_kindFor_36 : decode cX5_kindFor 36 = .ok (.iconst 0, 1) := by decide +kernel
theorem dX5_kindFor_37 : decode cX5_kindFor 37 = .ok (.iload 5, 2) := by decide +kernel
theorem dX5_kindFor_39 : decode cX5_kindFor 39 = .ok (.invokevirtual 60, 3) := by decide +kernel
theorem dX5_kindFor_42 : decode cX5_kindFor 42 = .ok (.aload_n 0, 1) := by decide +kernel
theorem dX5_kindFor_43 : decode cX5_kindFor 43 = .ok (.iload_n 2, 1) := by decide +kernel
theorem dX5_kindFor_44 : decode cX5_kindFor 44 = .ok (.invokevirtual 115, 3) := by decide +kernel
theorem dX5_kindFor_47 : decode cX5_kindFor 47 = .ok (.aload_n 0, 1) := by decide +kernel
theorem dX5_kindFor_48 : decode cX5_kindFor 48 = .ok (.getfield 9, 3) := by decide +kernel
theorem dX5_kindFor_51 : decode cX5_kindFor 51 = .ok (.iconst 3, 1) := by decide +kernel
theorem dX5_kindFor_52 : decode cX5_kindFor 52 = .ok (.iaload, 1) := by decide +kernel
theorem dX5_kindFor_53 : decode cX5_kindFor 53 = .ok (.istore 6, 2) := by decide +kernel
theorem dX5_kindFor_55 : decode cX5_kindFor 55 = .ok (.aload_n 0, 1) := by decide +kernel
theorem dX5_kindFor_56 : decode cX5_kindFor 56 = .ok (.invokevirtual 127, 3) := by decide +kernel
theorem dX5_kindFor_59 : decode cX5_kindFor 59 = .ok (.iload 6, 2) := by decide +kernel
theorem dX5_kindFor_61 : decode cX5_kindFor 61 = .ok (.iload 4, 2) := by decide +kernel
theorem dX5_kindFor_63 : decode cX5_kindFor 63 = .ok (.if_icmp .le 8, 3) := by decide +kernel
theorem dX5_kindFor_66 : decode cX5_kindFor 66 = .ok (.iload 5, 2) := by decide +kernel
theorem dX5_kindFor_68 : decode cX5_kindFor 68 = .ok (.goto 4, 3) := by decide +kernel
theorem dX5_kindFor_71 : decode cX5_kindFor 71 = .ok (.iload_n 3, 1) := by decide +kernel
theorem dX5_kindFor_72 : decode cX5_kindFor 72 = .ok (.istore_n 3, 1) := by decide +kernel
theorem dX5_kindFor_73 : decode cX5_kindFor 73 = .ok (.iload 6, 2) := by decide +kernel
theorem dX5_kindFor_75 : decode cX5_kindFor 75 = .ok (.iload 4, 2) := by decide +kernel
theorem dX5_kindFor_77 : decode cX5_kindFor 77 = .ok (.if_icmp .le 8, 3) := by decide +kernel
theorem dX5_kindFor_80 : decode cX5_kindFor 80 = .ok (.iload 6, 2) := by decide +kernel
theorem dX5_kindFor_82 : decode cX5_kindFor 82 = .ok (.goto 5, 3) := by decide +kernel
theorem dX5_kindFor_85 : decode cX5_kindFor 85 = .ok (.iload 4, 2) := by decide +kernel
theorem dX5_kindFor_87 : decode cX5_kindFor 87 = .ok (.istore 4, 2) := by decide +kernel
theorem dX5_kindFor_89 : decode cX5_kindFor 89 = .ok (.iinc 5 1, 3) := by decide +kernel
theorem dX5_kindFor_92 : decode cX5_kindFor 92 = .ok (.goto (-69), 3) := by decide +kernel
theorem dX5_kindFor_95 : decode cX5_kindFor 95 = .ok (.iload_n 3, 1) := by decide +kernel
theorem dX5_kindFor_96 : decode cX5_kindFor 96 = .ok (.ireturn, 1) := by decide +kernel
set_option maxRecDepth 20000 in
set_option maxHeartbeats 4000000 in
theorem l_X5_kindFor {K : Cx} {n8 k c : Nat} {m : TM} (hI : Iv n8 (m.1 50)) (hk : k < n8) (hc : c ≤ 60) {N : Nat} (hN : N = 7) : ∀ (n : Nat) (j : Nat) (Y : Nat → Int32), 7 - j < n → j ≤ 7 → XX RX5 cX5_kindFor 7 (some .int) 5 113 K 23 [some (.ref 49), some (.int (nI k)), some (.int (nI c)), some (.int (kfF (kfA (m.1 50) n8 k c) j).1), some (.int (kfF (kfA (m.1 50) n8 k c) j).2), some (.int (nI j)), none] [] (sr m 52 Y) (fun r1 m1 => ∃ Y, r1 = some (.int (kfF (kfA (m.1 50) n8 k c) N).1) ∧ m1 = sr m 52 Y) := by
  intro n
  induction n with
  | zero => intro j Y hlt; exact absurd hlt (Nat.not_lt_zero _)
  | succ n ih =>
    intro j Y hlt hj
    have h8 := hI.1
    have hk8 : k < 8 := by omega
    refine x_iload (q := 25) dX5_kindFor_23 rfl rfl ?_
    refine x_bipush (q := 27) (v := 6) dX5_kindFor_25 rfl (by decide) ?_
    refine x_icmp_gt (q := 30) (t := 95) dX5_kindFor_27 rfl (by decide) (fun h27 => ?_) (fun h27 => ?_)
    · have e : 6 < j := (jnI_lt (a := 6) (b := j) (by omega) (by omega)).mp h27
      have e2 : j = 7 := by omega
      subst e2
      subst hN
      refine x_iload_n (q := 96) dX5_kindFor_95 rfl rfl ?_
      refine x_ireturn dX5_kindFor_96 rfl rfl ?_
      exact ⟨_, rfl, rfl⟩
    have hj6 : ¬ 6 < j := fun q => h27 ((jnI_lt (a := 6) (b := j) (by omega) (by omega)).mpr q)
    have hiv := hI.upd_p (v := nI j) (f := 0) hk (by decide) (fun _ => ⟨j, by omega, rfl⟩) (fun q => by omega)
    refine x_aload_n (q := 31) dX5_kindFor_30 rfl rfl ?_
    refine x_callV0n (q := 34) dX5_kindFor_31 rfl ml_X5_124 mv_X5_setsAside rv5 rfl c_setY (Nat.le_of_ble_eq_true rfl) ⟨by decide, by decide⟩ ?_
    refine x_aload_n (q := 35) dX5_kindFor_34 rfl rfl ?_
    refine x_iload_n (q := 36) dX5_kindFor_35 rfl rfl ?_
    refine x_iconst (q := 37) (v := 0) dX5_kindFor_36 rfl (by decide) ?_
    refine x_iload (q := 39) dX5_kindFor_37 rfl rfl ?_
    refine x_callV3n (q := 42) dX5_kindFor_39 rfl ml_X5_60 mv_X5_puts rv5 rfl (c_X5_putsr (f := 0) hk8 (by decide)) (Nat.le_of_ble_eq_true rfl) ⟨by decide, by decide⟩ ?_
    refine x_aload_n (q := 43) dX5_kindFor_42 rfl rfl ?_
    refine x_iload_n (q := 44) dX5_kindFor_43 rfl rfl ?_
    refine x_callV1n (q := 47) dX5_kindFor_44 rfl ml_X5_115 mv_X5_goes rv5 rfl (c_X5_goes (by omega) hiv) (Nat.le_of_ble_eq_true rfl) ⟨by decide, by decide⟩ ?_
    refine x_aload_n (q := 48) dX5_kindFor_47 rfl rfl ?_
    refine x_getR (q := 51) dX5_kindFor_48 rfl fl_X5_9 (or5_s) ?_
    refine x_iconst (q := 52) (v := 3) dX5_kindFor_51 rfl (by decide) ?_
    refine x_ialdr (q := 53) dX5_kindFor_52 rfl (ar_50) (ix_nI (k := 3) (by decide) (by decide)) (Nat.zero_add _) ?_
    refine x_istore (q := 55) dX5_kindFor_53 rfl (by decide) rfl rfl ?_
    refine x_aload_n (q := 56) dX5_kindFor_55 rfl rfl ?_
    refine x_callV0n (q := 59) dX5_kindFor_56 rfl ml_X5_127 mv_X5_laysBack rv5 rfl c_back (Nat.le_of_ble_eq_true rfl) ⟨by decide, by decide⟩ ?_
    refine x_iload (q := 61) dX5_kindFor_59 rfl rfl ?_
    refine x_iload (q := 63) dX5_kindFor_61 rfl rfl ?_
    refine x_icmp_le (q := 66) (t := 71) dX5_kindFor_63 rfl (by decide) (fun h63 => ?_) (fun h63 => ?_)
    · refine x_iload_n (q := 72) dX5_kindFor_71 rfl rfl ?_
      refine x_istore_n (q := 73) dX5_kindFor_72 rfl (by decide) rfl rfl ?_
      refine x_iload (q := 75) dX5_kindFor_73 rfl rfl ?_
      refine x_iload (q := 77) dX5_kindFor_75 rfl rfl ?_
      refine x_icmp_le (q := 80) (t := 85) dX5_kindFor_77 rfl (by decide) (fun h77 => ?_) (fun h77 => ?_)
      · refine x_iload (q := 87) dX5_kindFor_85 rfl rfl ?_
        refine x_istore (q := 89) dX5_kindFor_87 rfl (by decide) rfl rfl ?_
        refine x_iinc (q := 92) (v := nI (j + 1)) dX5_kindFor_89 rfl rfl (jnI_s j) (by decide) rfl rfl ?_
        refine x_goto (q := 23) dX5_kindFor_92 (by decide) ?_
        have key := ih (j + 1) (m.1 50) (by omega) (by omega)
        have h64 : kfA (m.1 50) n8 k c j ≤ (kfF (kfA (m.1 50) n8 k c) j).2 := h63
        rw [kfF, if_neg (Int32.not_lt.mpr h64)] at key
        exact x_ls key (And.intro rfl (And.intro rfl (And.intro rfl (And.intro rfl (And.intro rfl (And.intro rfl trivial))))))
      refine x_iload (q := 82) dX5_kindFor_80 rfl rfl ?_
      refine x_goto (q := 87) dX5_kindFor_82 (by decide) ?_
      refine x_istore (q := 89) dX5_kindFor_87 rfl (by decide) rfl rfl ?_
      refine x_iinc (q := 92) (v := nI (j + 1)) dX5_kindFor_89 rfl rfl (jnI_s j) (by decide) rfl rfl ?_
      refine x_goto (q := 23) dX5_kindFor_92 (by decide) ?_
      exact absurd h63 h77
    refine x_iload (q := 68) dX5_kindFor_66 rfl rfl ?_
    refine x_goto (q := 72) dX5_kindFor_68 (by decide) ?_
    refine x_istore_n (q := 73) dX5_kindFor_72 rfl (by decide) rfl rfl ?_
    refine x_iload (q := 75) dX5_kindFor_73 rfl rfl ?_
    refine x_iload (q := 77) dX5_kindFor_75 rfl rfl ?_
    refine x_icmp_le (q := 80) (t := 85) dX5_kindFor_77 rfl (by decide) (fun h77 => ?_) (fun h77 => ?_)
    · refine x_iload (q := 87) dX5_kindFor_85 rfl rfl ?_
      refine x_istore (q := 89) dX5_kindFor_87 rfl (by decide) rfl rfl ?_
      refine x_iinc (q := 92) (v := nI (j + 1)) dX5_kindFor_89 rfl rfl (jnI_s j) (by decide) rfl rfl ?_
      refine x_goto (q := 23) dX5_kindFor_92 (by decide) ?_
      exact absurd h77 h63
    refine x_iload (q := 82) dX5_kindFor_80 rfl rfl ?_
    refine x_goto (q := 87) dX5_kindFor_82 (by decide) ?_
    refine x_istore (q := 89) dX5_kindFor_87 rfl (by decide) rfl rfl ?_
    refine x_iinc (q := 92) (v := nI (j + 1)) dX5_kindFor_89 rfl rfl (jnI_s j) (by decide) rfl rfl ?_
    refine x_goto (q := 23) dX5_kindFor_92 (by decide) ?_
    have key := ih (j + 1) (m.1 50) (by omega) (by omega)
    have h64 : ¬ kfA (m.1 50) n8 k c j ≤ (kfF (kfA (m.1 50) n8 k c) j).2 := h63
    rw [kfF, if_pos (Int32.not_le.mp h64)] at key
    exact x_ls key (And.intro rfl (And.intro rfl (And.intro rfl (And.intro rfl (And.intro rfl (And.intro rfl trivial))))))
set_option maxRecDepth 20000 in
set_option maxHeartbeats 4000000 in
theorem c_X5_kindFor {K : Cx} {n8 k c : Nat} {m : TM} (hI : Iv n8 (m.1 50)) (hk : k < n8) (hc : c ≤ 60) : CQ yX5_kindFor cX5_kindFor 7 (some .int) 5 113 K [.ref 49, .int (nI k), .int (nI c)] (m) (fun r1 m1 => ∃ Y, r1 = some (.int (kfF (kfA (m.1 50) n8 k c) 7).1) ∧ m1 = sr m 52 Y) := by
  refine ct_ofq (n := 4) (by decide +kernel) rfl rfl ?_
  show XX RX5 cX5_kindFor 7 (some .int) 5 113 K 0 [some (.ref 49), some (.int (nI k)), some (.int (nI c)), none, none, none, none] [] (m) (fun r1 m1 => ∃ Y, r1 = some (.int (kfF (kfA (m.1 50) n8 k c) 7).1) ∧ m1 = sr m 52 Y)
  refine x_aload_n (q := 1) dX5_kindFor_0 rfl rfl ?_
  refine x_iload_n (q := 2) dX5_kindFor_1 rfl rfl ?_
  refine x_iload_n (q := 3) dX5_kindFor_2 rfl rfl ?_
  refine x_callV2v (q := 6) dX5_kindFor_3 rfl ml_X5_142 mv_X5_isAsked rv5 rfl c_X5_isAsked (Nat.le_of_ble_eq_true rfl) ⟨by decide, by decide⟩ ?_
  refine x_ifB_ne (q := 9) (t := 15) dX5_kindFor_6 rfl (by decide) (fun h6 => ?_) (fun h6 => ?_)
  · refine x_iconst (q := 16) (v := 0) dX5_kindFor_15 rfl (by decide) ?_
    refine x_istore_n (q := 17) dX5_kindFor_16 rfl (by decide) rfl rfl ?_
    refine x_iconst (q := 18) (v := (-1)) dX5_kindFor_17 rfl (by decide) ?_
    refine x_istore (q := 20) dX5_kindFor_18 rfl (by decide) rfl rfl ?_
    refine x_iconst (q := 21) (v := 0) dX5_kindFor_20 rfl (by decide) ?_
    refine x_istore (q := 23) dX5_kindFor_21 rfl (by decide) rfl rfl ?_
    have h := l_X5_kindFor (K := K) hI hk hc (N := 7) rfl 8 0 (m.1 52) (by omega) (by omega)
    rw [sr_self] at h
    exact x_ls h (And.intro rfl (And.intro rfl (And.intro rfl (And.intro rfl (And.intro rfl (And.intro rfl trivial))))))
  exact absurd h6 (by rw [par_in hI.2.1 hI.1 hk, show outI (nI c) 0 60 = false from rng_in (a := 0) (Nat.zero_le c) hc (by decide)]; decide)
set_option maxRecDepth 20000 in
set_option maxHeartbeats 4000000 in
theorem c_X5_kindForB {K : Cx} {p y : Int32} {m : TM} (hb : (outI p 0 (m.1 50 1 - 1) || outI y 0 60) = true) : CT yX5_kindFor cX5_kindFor 7 (some .int) 5 113 K [.ref 49, .int p, .int y] (m) (some (.int (-1000001))) (fnm m 0) := by
  refine ct_ofd (n := 4) (by decide +kernel) rfl rfl ?_
  show XX RX5 cX5_kindFor 7 (some .int) 5 113 K 0 [some (.ref 49), some (.int p), some (.int y), none, none, none, none] [] (m) (fun r1 m1 => r1 = (some (.int (-1000001))) ∧ m1 = fnm m 0)
  refine x_aload_n (q := 1) dX5_kindFor_0 rfl rfl ?_
  refine x_iload_n (q := 2) dX5_kindFor_1 rfl rfl ?_
  refine x_iload_n (q := 3) dX5_kindFor_2 rfl rfl ?_
  refine x_callV2v (q := 6) dX5_kindFor_3 rfl ml_X5_142 mv_X5_isAsked rv5 rfl c_X5_isAsked (Nat.le_of_ble_eq_true rfl) ⟨by decide, by decide⟩ ?_
  refine x_ifB_ne (q := 9) (t := 15) dX5_kindFor_6 rfl (by decide) (fun h6 => ?_) (fun h6 => ?_)
  · exact absurd h6 (by revert hb; cases outI p 0 (m.1 50 1 - 1) <;> cases outI y 0 60 <;> decide)
  refine x_aload_n (q := 10) dX5_kindFor_9 rfl rfl ?_
  refine x_iconst (q := 11) (v := 0) dX5_kindFor_10 rfl (by decide) ?_
  refine x_callV1v (q := 14) dX5_kindFor_11 rfl ml_X5_103 mv_X5_no rv5 rfl (c_X5_nox (w := 0) (x := -1000001) (by decide) (by decide)) (Nat.le_of_ble_eq_true rfl) ⟨by decide, by decide⟩ ?_
  refine x_ireturn dX5_kindFor_14 rfl rfl ?_
  exact ⟨rfl, rfl⟩
