/-! told places -/
def atR (n k : Nat) (w : Nat → Int32) : Nat → Nat → (Nat → Int32) → Nat → Int32
  | 0, _, u => u
  | r + 1, i, u => if w i = -1 ∨ w i = dyC u n (12 + 7 * k + 1) then atR n k w r (i + 1) (dyC u n) else dyC u n
theorem dX4_isAsTold_0 : decode cX4_isAsTold 0 = .ok (.iconst 0, 1) := by decide +kernel
theorem dX4_isAsTold_1 : decode cX4_isAsTold 1 = .ok (.istore_n 3, 1) := by decide +kernel
theorem dX4_isAsTold_2 : decode cX4_isAsTold 2 = .ok (.iload_n 3, 1) := by decide +kernel
theorem dX4_isAsTold_3 : decode cX4_isAsTold 3 = .ok (.aload_n 2, 1) := by decide +kernel
theorem dX4_isAsTold_4 : decode cX4_isAsTold 4 = .ok (.getfield 192, 3) := by decide +kernel
theorem dX4_isAsTold_7 : decode cX4_isAsTold 7 = .ok (.if_icmp .ge 41, 3) := by decide +kernel
theorem dX4_isAsTold_10 : decode cX4_isAsTold 10 = .ok (.aload_n 0, 1) := by decide +kernel
theorem dX4_isAsTold_11 : decode cX4_isAsTold 11 = .ok (.getfield 16, 3) := by decide +kernel
theorem dX4_isAsTold_14 : decode cX4_isAsTold 14 = .ok (.invokevirtual 136, 3) := by decide +kernel
theorem dX4_isAsTold_17 : decode cX4_isAsTold 17 = .ok (.aload_n 2, 1) := by decide +kernel
theorem dX4_isAsTold_18 : decode cX4_isAsTold 18 = .ok (.getfield 207, 3) := by decide +kernel
theorem dX4_isAsTold_21 : decode cX4_isAsTold 21 = .ok (.iload_n 3, 1) := by decide +kernel
theorem dX4_isAsTold_22 : decode cX4_isAsTold 22 = .ok (.iaload, 1) := by decide +kernel
theorem dX4_isAsTold_23 : decode cX4_isAsTold 23 = .ok (.istore 4, 2) := by decide +kernel
theorem dX4_isAsTold_25 : decode cX4_isAsTold 25 = .ok (.iload 4, 2) := by decide +kernel
theorem dX4_isAsTold_27 : decode cX4_isAsTold 27 = .ok (.iconst (-1), 1) := by decide +kernel
theorem dX4_isAsTold_28 : decode cX4_isAsTold 28 = .ok (.if_icmp .eq 14, 3) := by decide +kernel
theorem dX4_isAsTold_31 : decode cX4_isAsTold 31 = .ok (.iload 4, 2) := by decide +kernel
theorem dX4_isAsTold_33 : decode cX4_isAsTold 33 = .ok (.aload_n 1, 1) := by decide +kernel
theorem dX4_isAsTold_34 : decode cX4_isAsTold 34 = .ok (.getfield 68, 3) := by decide +kernel
theorem dX4_isAsTold_37 : decode cX4_isAsTold 37 = .ok (.if_icmp .eq 5, 3) := by decide +kernel
theorem dX4_isAsTold_40 : decode cX4_isAsTold 40 = .ok (.iconst 0, 1) := by decide +kernel
theorem dX4_isAsTold_41 : decode cX4_isAsTold 41 = .ok (.ireturn, 1) := by decide +kernel
theorem dX4_isAsTold_42 : decode cX4_isAsTold 42 = .ok (.iinc 3 1, 3) := by decide +kernel
theorem dX4_isAsTold_45 : decode cX4_isAsTold 45 = .ok (.goto (-43), 3) := by decide +kernel
theorem dX4_isAsTold_48 : decode cX4_isAsTold 48 = .ok (.iconst 1, 1) := by decide +kernel
theorem dX4_isAsTold_49 : decode cX4_isAsTold 49 = .ok (.ireturn, 1) := by decide +kernel
set_option maxRecDepth 20000 in
set_option maxHeartbeats 4000000 in
theorem l_X4_isAsTold {K : Cx} {n8 k s z : Nat} {m : TM} (hk8 : k < 8) (hs : s < 4) (hz : m.1 42 s = nI z) (hz40 : z ≤ 40) : ∀ (n : Nat) (j : Nat) (u : Nat → Int32), z - j < n → j ≤ z → Iv n8 u → XX RX4 cX4_isAsTold 5 (some .boolean) 4 87 K 2 [some (.ref 0), some (.ref (13 + 4 + k)), some (.ref (41 + 2 * s)), some (.int (nI j)), none] [] (sr m 13 u) (fun r1 m1 => r1 = (some (.int (bI (atF n8 k (fun q => m.1 43 (40 * s + q)) (z - j) (j) (u))))) ∧ m1 = sr m 13 (atR n8 k (fun q => m.1 43 (40 * s + q)) (z - j) (j) (u))) := by
  intro n
  induction n with
  | zero => intro j u hlt; exact absurd hlt (Nat.not_lt_zero _)
  | succ n ih =>
    intro j u hlt hj hI
    have hz2 : (sr m 13 u).1 42 s = nI z := by rw [sr_ne (by decide)]; exact hz
    refine x_iload_n (q := 3) dX4_isAsTold_2 rfl rfl ?_
    refine x_aload_n (q := 4) dX4_isAsTold_3 rfl rfl ?_
    refine x_getI (q := 7) dX4_isAsTold_4 rfl fl_X4_192 (ob2_len hs) ?_
    refine x_icmp_ge (q := 10) (t := 48) dX4_isAsTold_7 rfl (by decide) (fun h7 => ?_) (fun h7 => ?_)
    · refine x_iconst (q := 49) (v := 1) dX4_isAsTold_48 rfl (by decide) ?_
      refine x_ireturn dX4_isAsTold_49 rfl (by decide) ?_
      have e : z - j = 0 := by
        have := lp_stop hz2 (by omega) (by omega) h7
        omega
      rw [e]
      exact ⟨rfl, rfl⟩
    have hjz : j < z := lp_go hz2 (by omega) (by omega) h7
    have e1 : z - j = (z - (j + 1)) + 1 := by omega
    rw [e1]
    simp only [atF, atR]
    refine x_aload_n (q := 11) dX4_isAsTold_10 rfl rfl ?_
    refine x_getR (q := 14) dX4_isAsTold_11 rfl fl_X4_16 (or4_trial) ?_
    refine x_callV0n (q := 17) dX4_isAsTold_14 rfl ml_X4_136 mv_X0_passDay (rv0 isC_13) rfl (c_X0_passDay isC_13 hI.2.1 hI.1 hI.td) (Nat.le_of_ble_eq_true rfl) ⟨by decide, by decide⟩ ?_
    refine x_aload_n (q := 18) dX4_isAsTold_17 rfl rfl ?_
    refine x_getR (q := 21) dX4_isAsTold_18 rfl fl_X4_207 (or2_num hs) ?_
    refine x_iload_n (q := 22) dX4_isAsTold_21 rfl rfl ?_
    refine x_iald (q := 23) dX4_isAsTold_22 rfl (ar_num hs) (ix_nI (n := 40) (by omega) (by decide)) rfl ?_
    refine x_istore (q := 25) dX4_isAsTold_23 rfl (by decide) rfl rfl ?_
    rw [sr_ne (by decide)]
    refine x_iload (q := 27) dX4_isAsTold_25 rfl rfl ?_
    refine x_iconst (q := 28) (v := (-1)) dX4_isAsTold_27 rfl (by decide) ?_
    refine x_icmp_eq (q := 31) (t := 42) dX4_isAsTold_28 rfl (by decide) (fun h28 => ?_) (fun h28 => ?_)
    · refine x_iinc (q := 45) (v := nI (j + 1)) dX4_isAsTold_42 rfl rfl (jnI_s j) (by decide) rfl rfl ?_
      refine x_goto (q := 2) dX4_isAsTold_45 (by decide) ?_
      rw [if_pos (Or.inl h28), if_pos (Or.inl h28)]
      exact x_ls (ih (j + 1) (dyC u n8) (by omega) (by omega) hI.day) (And.intro rfl (And.intro rfl (And.intro rfl (And.intro rfl trivial))))
    refine x_iload (q := 33) dX4_isAsTold_31 rfl rfl ?_
    refine x_aload_n (q := 34) dX4_isAsTold_33 rfl rfl ?_
    refine x_getIr (q := 37) dX4_isAsTold_34 rfl fl_X4_68 (ob1 isC_13 hk8 1 (by decide)) ?_
    refine x_icmp_eq (q := 40) (t := 42) dX4_isAsTold_37 rfl (by decide) (fun h37 => ?_) (fun h37 => ?_)
    · refine x_iinc (q := 45) (v := nI (j + 1)) dX4_isAsTold_42 rfl rfl (jnI_s j) (by decide) rfl rfl ?_
      refine x_goto (q := 2) dX4_isAsTold_45 (by decide) ?_
      rw [if_pos (Or.inr h37), if_pos (Or.inr h37)]
      exact x_ls (ih (j + 1) (dyC u n8) (by omega) (by omega) hI.day) (And.intro rfl (And.intro rfl (And.intro rfl (And.intro rfl trivial))))
    refine x_iconst (q := 41) (v := 0) dX4_isAsTold_40 rfl (by decide) ?_
    refine x_ireturn dX4_isAsTold_41 rfl (by decide) ?_
    rw [if_neg (fun q => q.elim h28 h37), if_neg (fun q => q.elim h28 h37)]
    exact ⟨rfl, rfl⟩
set_option maxRecDepth 20000 in
set_option maxHeartbeats 4000000 in
theorem c_X4_isAsTold {K : Cx} {n8 k s z : Nat} {u : Nat → Int32} {m : TM} (hk8 : k < 8) (hs : s < 4) (hz : m.1 42 s = nI z) (hz40 : z ≤ 40) (hI : Iv n8 u) : CT yX4_isAsTold cX4_isAsTold 5 (some .boolean) 4 87 K [.ref 0, .ref (13 + 4 + k), .ref (41 + 2 * s)] (sr m 13 u) (some (.int (bI (atF n8 k (fun q => m.1 43 (40 * s + q)) (z) (0) (u))))) (sr m 13 (atR n8 k (fun q => m.1 43 (40 * s + q)) (z) (0) (u))) := by
  refine ct_ofd (n := 2) (by decide +kernel) rfl rfl ?_
  show XX RX4 cX4_isAsTold 5 (some .boolean) 4 87 K 0 [some (.ref 0), some (.ref (13 + 4 + k)), some (.ref (41 + 2 * s)), none, none] [] (sr m 13 u) (fun r1 m1 => r1 = (some (.int (bI (atF n8 k (fun q => m.1 43 (40 * s + q)) (z) (0) (u))))) ∧ m1 = sr m 13 (atR n8 k (fun q => m.1 43 (40 * s + q)) (z) (0) (u)))
  refine x_iconst (q := 1) (v := 0) dX4_isAsTold_0 rfl (by decide) ?_
  refine x_istore_n (q := 2) dX4_isAsTold_1 rfl (by decide) rfl rfl ?_
  exact l_X4_isAsTold hk8 hs hz hz40 (z + 1) 0 u (by omega) (by omega) hI
theorem dX4_allAsTold_0 : decode cX4_allAsTold 0 = .ok (.aload_n 0, 1) := by decide +kernel
theorem dX4_allAsTold_1 : decode cX4_allAsTold 1 = .ok (.iload_n 1, 1) := by decide +kernel
theorem dX4_allAsTold_2 : decode cX4_allAsTold 2 = .ok (.invokevirtual 193, 3) := by decide +kernel
theorem dX4_allAsTold_5 : decode cX4_allAsTold 5 = .ok (.istore 4, 2) := by decide +kernel
theorem dX4_allAsTold_7 : decode cX4_allAsTold 7 = .ok (.iload 4, 2) := by decide +kernel
theorem dX4_allAsTold_9 : decode cX4_allAsTold 9 = .ok (.ifCond .eq 10, 3) := by decide +kernel
theorem dX4_allAsTold_12 : decode cX4_allAsTold 12 = .ok (.aload_n 0, 1) := by decide +kernel
theorem dX4_allAsTold_13 : decode cX4_allAsTold 13 = .ok (.iload 4, 2) := by decide +kernel
theorem dX4_allAsTold_15 : decode cX4_allAsTold 15 = .ok (.invokevirtual 49, 3) := by decide +kernel
theorem dX4_allAsTold_18 : decode cX4_allAsTold 18 = .ok (.ireturn, 1) := by decide +kernel
theorem dX4_allAsTold_19 : decode cX4_allAsTold 19 = .ok (.aload_n 0, 1) := by decide +kernel
theorem dX4_allAsTold_20 : decode cX4_allAsTold 20 = .ok (.iload_n 2, 1) := by decide +kernel
theorem dX4_allAsTold_21 : decode cX4_allAsTold 21 = .ok (.invokevirtual 76, 3) := by decide +kernel
theorem dX4_allAsTold_24 : decode cX4_allAsTold 24 = .ok (.ifCond .eq 10, 3) := by decide +kernel
theorem dX4_allAsTold_27 : decode cX4_allAsTold 27 = .ok (.aload_n 0, 1) := by decide +kernel
theorem dX4_allAsTold_28 : decode cX4_allAsTold 28 = .ok (.ldc 48, 2) := by decide +kernel
theorem dX4_allAsTold_30 : decode cX4_allAsTold 30 = .ok (.invokevirtual 49, 3) := by decide +kernel
theorem dX4_allAsTold_33 : decode cX4_allAsTold 33 = .ok (.ireturn, 1) := by decide +kernel
theorem dX4_allAsTold_34 : decode cX4_allAsTold 34 = .ok (.iconst 0, 1) := by decide +kernel
theorem dX4_allAsTold_35 : decode cX4_allAsTold 35 = .ok (.istore 5, 2) := by decide +kernel
theorem dX4_allAsTold_37 : decode cX4_allAsTold 37 = .ok (.iconst 0, 1) := by decide +kernel
theorem dX4_allAsTold_38 : decode cX4_allAsTold 38 = .ok (.istore 6, 2) := by decide +kernel
theorem dX4_allAsTold_40 : decode cX4_allAsTold 40 = .ok (.iload 6, 2) := by decide +kernel
theorem dX4_allAsTold_42 : decode cX4_allAsTold 42 = .ok (.iload_n 3, 1) := by decide +kernel
theorem dX4_allAsTold_43 : decode cX4_allAsTold 43 = .ok (.invokestatic 90, 3) := by decide +kernel
theorem dX4_allAsTold_46 : decode cX4_allAsTold 46 = .ok (.if_icmp .gt 48, 3) := by decide +kernel
theorem dX4_allAsTold_49 : decode cX4_allAsTold 49 = .ok (.aload_n 0, 1) := by decide +kernel
theorem dX4_allAsTold_50 : decode cX4_allAsTold 50 = .ok (.iload_n 2, 1) := by decide +kernel
theorem dX4_allAsTold_51 : decode cX4_allAsTold 51 = .ok (.invokevirtual 126, 3) := by decide +kernel
theorem dX4_allAsTold_54 : decode cX4_allAsTold 54 = .ok (.astore 7, 2) := by decide +kernel
theorem dX4_allAsTold_56 : decode cX4_allAsTold 56 = .ok (.aload 7, 2) := by decide +kernel
theorem dX4_allAsTold_58 : decode cX4_allAsTold 58 = .ok (.iload_n 3, 1) := by decide +kernel
theorem dX4_allAsTold_59 : decode cX4_allAsTold 59 = .ok (.iload 6, 2) := by decide +kernel
theorem dX4_allAsTold_61 : decode cX4_allAsTold 61 = .ok (.invokevirtual 93, 3) := by decide +kernel
theorem dX4_allAsTold_64 : decode cX4_allAsTold 64 = .ok (.aload_n 0, 1) := by decide +kernel
theorem dX4_allAsTold_65 : decode cX4_allAsTold 65 = .ok (.aload 7, 2) := by decide +kernel
theorem dX4_allAsTold_67 : decode cX4_allAsTold 67 = .ok (.aload_n 0, 1) := by decide +kernel
theorem dX4_allAsTold_68 : decode cX4_allAsTold 68 = .ok (.getfield 35, 3) := by decide +kernel
theorem dX4_allAsTold_71 : decode cX4_allAsTold 71 = .ok (.iload_n 1, 1) := by decide +kernel
theorem dX4_allAsTold_72 : decode cX4_allAsTold 72 = .ok (.aaload, 1) := by decide +kernel
theorem dX4_allAsTold_73 : decode cX4_allAsTold 73 = .ok (.invokevirtual 224, 3) := by decide +kernel
theorem dX4_allAsTold_76 : decode cX4_allAsTold 76 = .ok (.ifCond .eq 12, 3) := by decide +kernel
theorem dX4_allAsTold_79 : decode cX4_allAsTold 79 = .ok (.iload 5, 2) := by decide +kernel
theorem dX4_allAsTold_81 : decode cX4_allAsTold 81 = .ok (.iconst 1, 1) := by decide +kernel
theorem dX4_allAsTold_82 : decode cX4_allAsTold 82 = .ok (.iload 6, 2) := by decide +kernel
theorem dX4_allAsTold_84 : decode cX4_allAsTold 84 = .ok (.ishl, 1) := by decide +kernel
theorem dX4_allAsTold_85 : decode cX4_allAsTold 85 = .ok (.ior, 1) := by decide +kernel
theorem dX4_allAsTold_86 : decode cX4_allAsTold 86 = .ok (.istore 5, 2) := by decide +kernel
theorem dX4_allAsTold_88 : decode cX4_allAsTold 88 = .ok (.iinc 6 1, 3) := by decide +kernel
theorem dX4_allAsTold_91 : decode cX4_allAsTold 91 = .ok (.goto (-51), 3) := by decide +kernel
theorem dX4_allAsTold_94 : decode cX4_allAsTold 94 = .ok (.iload 5, 2) := by decide +kernel
theorem dX4_allAsTold_96 : decode cX4_allAsTold 96 = .ok (.ireturn, 1) := by decide +kernel
set_option maxRecDepth 20000 in
set_option maxHeartbeats 4000000 in
theorem c_X4_allAsToldA {K : Cx} {x p : Int32} {v : Int32} {m : TM} (hb : outI x 0 3 = true) : CT yX4_allAsTold cX4_allAsTold 8 (some .int) 5 111 K [.ref 0, .int x, .int p, .int v] (m) (some (.int (-1000001))) (fnd m 0) := by
  refine ct_ofd (n := 4) (by decide +kernel) rfl rfl ?_
  show XX RX4 cX4_allAsTold 8 (some .int) 5 111 K 0 [some (.ref 0), some (.int x), some (.int p), some (.int v), none, none, none, none] [] (m) (fun r1 m1 => r1 = (some (.int (-1000001))) ∧ m1 = fnd m 0)
  refine x_aload_n (q := 1) dX4_allAsTold_0 rfl rfl ?_
  refine x_iload_n (q := 2) dX4_allAsTold_1 rfl rfl ?_
  refine x_callV1v (q := 5) dX4_allAsTold_2 rfl ml_X4_193 mv_X4_wrongSheet rv4 rfl (c_X4_wsA hb) (Nat.le_of_ble_eq_true rfl) ⟨by decide, by decide⟩ ?_
  refine x_istore (q := 7) dX4_allAsTold_5 rfl (by decide) rfl rfl ?_
  refine x_iload (q := 9) dX4_allAsTold_7 rfl rfl ?_
  refine x_if_eq (q := 12) (t := 19) dX4_allAsTold_9 rfl (by decide) (fun h => absurd h (by decide)) (fun _ => ?_)
  refine x_aload_n (q := 13) dX4_allAsTold_12 rfl rfl ?_
  refine x_iload (q := 15) dX4_allAsTold_13 rfl rfl ?_
  refine x_callV1v (q := 18) dX4_allAsTold_15 rfl ml_X4_49 mv_X4_finding rv4 rfl (c_X4_finding (w := 0) (by decide) (by decide)) (Nat.le_of_ble_eq_true rfl) ⟨by decide, by decide⟩ ?_
  refine x_ireturn dX4_allAsTold_18 rfl rfl ?_
  exact ⟨rfl, rfl⟩
set_option maxRecDepth 20000 in
set_option maxHeartbeats 4000000 in
theorem c_X4_allAsToldB {K : Cx} {s : Nat} {p v : Int32} {m : TM} (hs : s < 4) (hb : m.1 41 s = 0) : CT yX4_allAsTold cX4_allAsTold 8 (some .int) 5 111 K [.ref 0, .int (nI s), .int p, .int v] (m) (some (.int (-1000006))) (fnd m 5) := by
  refine ct_ofd (n := 4) (by decide +kernel) rfl rfl ?_
  show XX RX4 cX4_allAsTold 8 (some .int) 5 111 K 0 [some (.ref 0), some (.int (nI s)), some (.int p), some (.int v), none, none, none, none] [] (m) (fun r1 m1 => r1 = (some (.int (-1000006))) ∧ m1 = fnd m 5)
  refine x_aload_n (q := 1) dX4_allAsTold_0 rfl rfl ?_
  refine x_iload_n (q := 2) dX4_allAsTold_1 rfl rfl ?_
  refine x_callV1v (q := 5) dX4_allAsTold_2 rfl ml_X4_193 mv_X4_wrongSheet rv4 rfl (c_X4_wsB hs hb) (Nat.le_of_ble_eq_true rfl) ⟨by decide, by decide⟩ ?_
  refine x_istore (q := 7) dX4_allAsTold_5 rfl (by decide) rfl rfl ?_
  refine x_iload (q := 9) dX4_allAsTold_7 rfl rfl ?_
  refine x_if_eq (q := 12) (t := 19) dX4_allAsTold_9 rfl (by decide) (fun h => absurd h (by decide)) (fun _ => ?_)
  refine x_aload_n (q := 13) dX4_allAsTold_12 rfl rfl ?_
  refine x_iload (q := 15) dX4_allAsTold_13 rfl rfl ?_
  refine x_callV1v (q := 18) dX4_allAsTold_15 rfl ml_X4_49 mv_X4_finding rv4 rfl (c_X4_finding (w := 5) (by decide) (by decide)) (Nat.le_of_ble_eq_true rfl) ⟨by decide, by decide⟩ ?_
  refine x_ireturn dX4_allAsTold_18 rfl rfl ?_
  exact ⟨rfl, rfl⟩
set_option maxRecDepth 20000 in
set_option maxHeartbeats 4000000 in
theorem c_X4_allAsToldP {K : Cx} {s : Nat} {p v : Int32} {m : TM} (hs : s < 4) (hb : ¬ m.1 41 s = 0) (hp : outI p 0 (m.1 1 1 - 1) = true) : CT yX4_allAsTold cX4_allAsTold 8 (some .int) 5 111 K [.ref 0, .int (nI s), .int p, .int v] (m) (some (.int (-1000001))) (fnd m 0) := by
  refine ct_ofd (n := 4) (by decide +kernel) rfl rfl ?_
  show XX RX4 cX4_allAsTold 8 (some .int) 5 111 K 0 [some (.ref 0), some (.int (nI s)), some (.int p), some (.int v), none, none, none, none] [] (m) (fun r1 m1 => r1 = (some (.int (-1000001))) ∧ m1 = fnd m 0)
  refine x_aload_n (q := 1) dX4_allAsTold_0 rfl rfl ?_
  refine x_iload_n (q := 2) dX4_allAsTold_1 rfl rfl ?_
  refine x_callV1v (q := 5) dX4_allAsTold_2 rfl ml_X4_193 mv_X4_wrongSheet rv4 rfl (c_X4_wsC hs hb) (Nat.le_of_ble_eq_true rfl) ⟨by decide, by decide⟩ ?_
  refine x_istore (q := 7) dX4_allAsTold_5 rfl (by decide) rfl rfl ?_
  refine x_iload (q := 9) dX4_allAsTold_7 rfl rfl ?_
  refine x_if_eq (q := 12) (t := 19) dX4_allAsTold_9 rfl (by decide) (fun _ => ?_) (fun h => absurd (by decide) h)
  refine x_aload_n (q := 20) dX4_allAsTold_19 rfl rfl ?_
  refine x_iload_n (q := 21) dX4_allAsTold_20 rfl rfl ?_
  refine x_callV1v (q := 24) dX4_allAsTold_21 rfl ml_X4_76 mv_X4_isNoParcel rv4 rfl c_X4_isNoParcel (Nat.le_of_ble_eq_true rfl) ⟨by decide, by decide⟩ ?_
  refine x_ifB_eq (q := 27) (t := 34) dX4_allAsTold_24 rfl (by decide) (fun h24 => ?_) (fun h24 => ?_)
  · exact absurd hp (by rw [h24]; decide)
  refine x_aload_n (q := 28) dX4_allAsTold_27 rfl rfl ?_
  refine x_ldc (q := 30) dX4_allAsTold_28 rfl kc_X4_48 ?_
  refine x_callV1v (q := 33) dX4_allAsTold_30 rfl ml_X4_49 mv_X4_finding rv4 rfl (c_X4_finding (w := 0) (by decide) (by decide)) (Nat.le_of_ble_eq_true rfl) ⟨by decide, by decide⟩ ?_
  refine x_ireturn dX4_allAsTold_33 rfl rfl ?_
  exact ⟨rfl, rfl⟩
set_option maxRecDepth 20000 in
set_option maxHeartbeats 4000000 in
theorem l_X4_allAsTold {K : Cx} {n8 k s z f N : Nat} {m : TM} (hI : Iv n8 (m.1 1)) (hk : k < n8) (hs : s < 4) (hz : m.1 42 s = nI z) (hz40 : z ≤ 40) (hf : (f = 1 ∧ N = 21) ∨ (f = 0 ∧ N = 7)) : ∀ (n : Nat) (j : Nat) (X : Nat → Int32), N - j < n → j ≤ N → XX RX4 cX4_allAsTold 8 (some .int) 5 111 K 40 [some (.ref 0), some (.int (nI s)), some (.int (nI k)), some (.int (nI f)), some (.int 0), some (.int (fsF (fun v => atF n8 k (fun q => m.1 43 (40 * s + q)) z 0 (upd (m.1 1) (12 + 7 * k + f) (nI v))) j)), some (.int (nI j)), none] [] (sr m 13 X) (fun r1 m1 => ∃ v, r1 = some (.int v) ∧ ∃ X, v = fsF (fun v => atF n8 k (fun q => m.1 43 (40 * s + q)) z 0 (upd (m.1 1) (12 + 7 * k + f) (nI v))) N ∧ m1 = sr m 13 X) := by
  intro n
  induction n with
  | zero => intro j X hlt; exact absurd hlt (Nat.not_lt_zero _)
  | succ n ih =>
    intro j X hlt hj
    have h8 := hI.1
    have hk8 : k < 8 := by omega
    have hN : N ≤ 21 := by omega
    have hmst : mst (nI f) = nI (N - 1) := by rcases hf with ⟨rfl, rfl⟩ | ⟨rfl, rfl⟩ <;> decide
    refine x_iload (q := 42) dX4_allAsTold_40 rfl rfl ?_
    refine x_iload_n (q := 43) dX4_allAsTold_42 rfl rfl ?_
    refine x_callS1v (q := 46) dX4_allAsTold_43 rfl ml_X4_90 ms_X1_most c_X1_most (Nat.le_of_ble_eq_true rfl) ⟨by decide, by decide⟩ ?_
    refine x_icmp_gt (q := 49) (t := 94) dX4_allAsTold_46 rfl (by decide) (fun h46 => ?_) (fun h46 => ?_)
    · rw [hmst] at h46
      have e : N - 1 < j := (jnI_lt (by omega) (by omega)).mp h46
      have e2 : j = N := by omega
      subst e2
      refine x_iload (q := 96) dX4_allAsTold_94 rfl rfl ?_
      refine x_ireturn dX4_allAsTold_96 rfl rfl ?_
      exact ⟨_, rfl, _, rfl, rfl⟩
    rw [hmst] at h46
    have hjN : j < N := by
      have h9 : ¬ N - 1 < j := fun q => h46 ((jnI_lt (by omega) (by omega)).mpr q)
      omega
    have hpt : ptF (bcF X (m.1 1) n8) k (nI f) (nI j) = upd (bcF X (m.1 1) n8) (12 + 7 * k + f) (nI j) := ptF_get f (by omega)
    have hu2 : Iv n8 (upd (bcF X (m.1 1) n8) (12 + 7 * k + f) (nI j)) := (iv_bc hI).upd_p hk (by omega) (fun q => ⟨j, by omega, rfl⟩) (fun q => by omega)
    have hu : Iv n8 (ptF (bcF X (m.1 1) n8) k (nI f) (nI j)) := by rw [hpt]; exact hu2
    have hat : atF n8 k (fun q => m.1 43 (40 * s + q)) z 0 (ptF (bcF X (m.1 1) n8) k (nI f) (nI j)) = atF n8 k (fun q => m.1 43 (40 * s + q)) z 0 (upd (m.1 1) (12 + 7 * k + f) (nI j)) := by
      rw [hpt]
      exact atF_congr hk z 0 (fun _ _ _ => rfl) (eqv_upd (bcF_eqv h8)) hu2
    refine x_aload_n (q := 50) dX4_allAsTold_49 rfl rfl ?_
    refine x_iload_n (q := 51) dX4_allAsTold_50 rfl rfl ?_
    refine x_callV1v (q := 54) dX4_allAsTold_51 rfl ml_X4_126 mv_X4_tried rv4 rfl (c_X4_tried hI hk8) (Nat.le_of_ble_eq_true rfl) ⟨by decide, by decide⟩ ?_
    refine x_astore (q := 56) dX4_allAsTold_54 rfl (by decide) rfl rfl ?_
    refine x_aload (q := 58) dX4_allAsTold_56 rfl rfl ?_
    refine x_iload_n (q := 59) dX4_allAsTold_58 rfl rfl ?_
    refine x_iload (q := 61) dX4_allAsTold_59 rfl rfl ?_
    refine x_callV2n (q := 64) dX4_allAsTold_61 rfl ml_X4_93 mv_X1_put (rv1 isC_13 hk8) rfl (c_X1_put isC_13 hk8) (Nat.le_of_ble_eq_true rfl) ⟨by decide, by decide⟩ ?_
    refine x_aload_n (q := 65) dX4_allAsTold_64 rfl rfl ?_
    refine x_aload (q := 67) dX4_allAsTold_65 rfl rfl ?_
    refine x_aload_n (q := 68) dX4_allAsTold_67 rfl rfl ?_
    refine x_getR (q := 71) dX4_allAsTold_68 rfl fl_X4_35 (or4_sheets) ?_
    refine x_iload_n (q := 72) dX4_allAsTold_71 rfl rfl ?_
    refine x_sheet (q := 73) dX4_allAsTold_72 rfl (ix_nI hs (by decide)) ?_
    refine x_callV2v (q := 76) dX4_allAsTold_73 rfl ml_X4_224 mv_X4_isAsTold rv4 rfl (c_X4_isAsTold hk8 hs hz hz40 hu) (Nat.le_of_ble_eq_true rfl) ⟨by decide, by decide⟩ ?_
    refine x_ifB_eq (q := 79) (t := 88) dX4_allAsTold_76 rfl (by decide) (fun h76 => ?_) (fun h76 => ?_)
    · refine x_iinc (q := 91) (v := nI (j + 1)) dX4_allAsTold_88 rfl rfl (jnI_s j) (by decide) rfl rfl ?_
      refine x_goto (q := 40) dX4_allAsTold_91 (by decide) ?_
      rw [hat] at h76
      have key := fun X => ih (j + 1) X (by omega) (by omega)
      simp only [fsF, h76, if_true, if_false, Bool.false_eq_true] at key
      exact x_ls (key _) (And.intro rfl (And.intro rfl (And.intro rfl (And.intro rfl (And.intro rfl (And.intro rfl (And.intro rfl trivial)))))))
    refine x_iload (q := 81) dX4_allAsTold_79 rfl rfl ?_
    refine x_iconst (q := 82) (v := 1) dX4_allAsTold_81 rfl (by decide) ?_
    refine x_iload (q := 84) dX4_allAsTold_82 rfl rfl ?_
    refine x_ishl (q := 85) dX4_allAsTold_84 rfl ?_
    refine x_ior (q := 86) dX4_allAsTold_85 rfl ?_
    refine x_istore (q := 88) dX4_allAsTold_86 rfl (by decide) rfl rfl ?_
    refine x_iinc (q := 91) (v := nI (j + 1)) dX4_allAsTold_88 rfl rfl (jnI_s j) (by decide) rfl rfl ?_
    refine x_goto (q := 40) dX4_allAsTold_91 (by decide) ?_
    rw [hat] at h76
    have key := fun X => ih (j + 1) X (by omega) (by omega)
    simp only [fsF, h76, if_true, if_false, Bool.false_eq_true] at key
    exact x_ls (key _) (And.intro rfl (And.intro rfl (And.intro rfl (And.intro rfl (And.intro rfl (And.intro rfl (And.intro rfl trivial)))))))
set_option maxRecDepth 20000 in
set_option maxHeartbeats 4000000 in
theorem c_X4_allAsTold {K : Cx} {n8 k s z f N : Nat} {m : TM} (hI : Iv n8 (m.1 1)) (hk : k < n8) (hs : s < 4) (hz : m.1 42 s = nI z) (hz40 : z ≤ 40) (hf : (f = 1 ∧ N = 21) ∨ (f = 0 ∧ N = 7)) (hb : ¬ m.1 41 s = 0) : CQ yX4_allAsTold cX4_allAsTold 8 (some .int) 5 111 K [.ref 0, .int (nI s), .int (nI k), .int (nI f)] (m) (fun r1 m1 => ∃ v, r1 = some (.int v) ∧ ∃ X, v = fsF (fun v => atF n8 k (fun q => m.1 43 (40 * s + q)) z 0 (upd (m.1 1) (12 + 7 * k + f) (nI v))) N ∧ m1 = sr m 13 X) := by
  refine ct_ofq (n := 4) (by decide +kernel) rfl rfl ?_
  show XX RX4 cX4_allAsTold 8 (some .int) 5 111 K 0 [some (.ref 0), some (.int (nI s)), some (.int (nI k)), some (.int (nI f)), none, none, none, none] [] (m) (fun r1 m1 => ∃ v, r1 = some (.int v) ∧ ∃ X, v = fsF (fun v => atF n8 k (fun q => m.1 43 (40 * s + q)) z 0 (upd (m.1 1) (12 + 7 * k + f) (nI v))) N ∧ m1 = sr m 13 X)
  refine x_aload_n (q := 1) dX4_allAsTold_0 rfl rfl ?_
  refine x_iload_n (q := 2) dX4_allAsTold_1 rfl rfl ?_
  refine x_callV1v (q := 5) dX4_allAsTold_2 rfl ml_X4_193 mv_X4_wrongSheet rv4 rfl (c_X4_wsC hs hb) (Nat.le_of_ble_eq_true rfl) ⟨by decide, by decide⟩ ?_
  refine x_istore (q := 7) dX4_allAsTold_5 rfl (by decide) rfl rfl ?_
  refine x_iload (q := 9) dX4_allAsTold_7 rfl rfl ?_
  refine x_if_eq (q := 12) (t := 19) dX4_allAsTold_9 rfl (by decide) (fun _ => ?_) (fun h => absurd (by decide) h)
  refine x_aload_n (q := 20) dX4_allAsTold_19 rfl rfl ?_
  refine x_iload_n (q := 21) dX4_allAsTold_20 rfl rfl ?_
  refine x_callV1v (q := 24) dX4_allAsTold_21 rfl ml_X4_76 mv_X4_isNoParcel rv4 rfl c_X4_isNoParcel (Nat.le_of_ble_eq_true rfl) ⟨by decide, by decide⟩ ?_
  refine x_ifB_eq (q := 27) (t := 34) dX4_allAsTold_24 rfl (by decide) (fun h24 => ?_) (fun h24 => ?_)
  · refine x_iconst (q := 35) (v := 0) dX4_allAsTold_34 rfl (by decide) ?_
    refine x_istore (q := 37) dX4_allAsTold_35 rfl (by decide) rfl rfl ?_
    refine x_iconst (q := 38) (v := 0) dX4_allAsTold_37 rfl (by decide) ?_
    refine x_istore (q := 40) dX4_allAsTold_38 rfl (by decide) rfl rfl ?_
    have h := l_X4_allAsTold (K := K) hI hk hs hz hz40 hf (N + 1) 0 (m.1 13) (by omega) (by omega)
    rw [sr_self] at h
    exact x_ls h (And.intro rfl (And.intro rfl (And.intro rfl (And.intro rfl (And.intro rfl (And.intro rfl (And.intro rfl trivial)))))))
  exact absurd (par_in hI.2.1 hI.1 hk) (by rw [h24]; decide)
theorem dX4_fits_0 : decode cX4_fits 0 = .ok (.aload_n 0, 1) := by decide +kernel
theorem dX4_fits_1 : decode cX4_fits 1 = .ok (.iload_n 1, 1) := by decide +kernel
theorem dX4_fits_2 : decode cX4_fits 2 = .ok (.iload_n 2, 1) := by decide +kernel
theorem dX4_fits_3 : decode cX4_fits 3 = .ok (.iconst 1, 1) := by decide +kernel
theorem dX4_fits_4 : decode cX4_fits 4 = .ok (.invokevirtual 156, 3) := by decide +kernel
theorem dX4_fits_7 : decode cX4_fits 7 = .ok (.ireturn, 1) := by decide +kernel
set_option maxRecDepth 20000 in
set_option maxHeartbeats 4000000 in
theorem c_X4_fitsA {K : Cx} {x p : Int32} {m : TM} (hb : outI x 0 3 = true) : CT yX4_fits cX4_fits 3 (some .int) 6 138 K [.ref 0, .int x, .int p] (m) (some (.int (-1000001))) (fnd m 0) := by
  refine ct_ofd (n := 0) (by decide +kernel) rfl rfl ?_
  show XX RX4 cX4_fits 3 (some .int) 6 138 K 0 [some (.ref 0), some (.int x), some (.int p)] [] (m) (fun r1 m1 => r1 = (some (.int (-1000001))) ∧ m1 = fnd m 0)
  refine x_aload_n (q := 1) dX4_fits_0 rfl rfl ?_
  refine x_iload_n (q := 2) dX4_fits_1 rfl rfl ?_
  refine x_iload_n (q := 3) dX4_fits_2 rfl rfl ?_
  refine x_iconst (q := 4) (v := 1) dX4_fits_3 rfl (by decide) ?_
  refine x_callV3v (q := 7) dX4_fits_4 rfl ml_X4_156 mv_X4_allAsTold rv4 rfl (c_X4_allAsToldA hb) (Nat.le_of_ble_eq_true rfl) ⟨by decide, by decide⟩ ?_
  refine x_ireturn dX4_fits_7 rfl rfl ?_
  exact ⟨rfl, rfl⟩
set_option maxRecDepth 20000 in
set_option maxHeartbeats 4000000 in
theorem c_X4_fitsB {K : Cx} {s : Nat} {p : Int32} {m : TM} (hs : s < 4) (hb : m.1 41 s = 0) : CT yX4_fits cX4_fits 3 (some .int) 6 138 K [.ref 0, .int (nI s), .int p] (m) (some (.int (-1000006))) (fnd m 5) := by
  refine ct_ofd (n := 0) (by decide +kernel) rfl rfl ?_
  show XX RX4 cX4_fits 3 (some .int) 6 138 K 0 [some (.ref 0), some (.int (nI s)), some (.int p)] [] (m) (fun r1 m1 => r1 = (some (.int (-1000006))) ∧ m1 = fnd m 5)
  refine x_aload_n (q := 1) dX4_fits_0 rfl rfl ?_
  refine x_iload_n (q := 2) dX4_fits_1 rfl rfl ?_
  refine x_iload_n (q := 3) dX4_fits_2 rfl rfl ?_
  refine x_iconst (q := 4) (v := 1) dX4_fits_3 rfl (by decide) ?_
  refine x_callV3v (q := 7) dX4_fits_4 rfl ml_X4_156 mv_X4_allAsTold rv4 rfl (c_X4_allAsToldB hs hb) (Nat.le_of_ble_eq_true rfl) ⟨by decide, by decide⟩ ?_
  refine x_ireturn dX4_fits_7 rfl rfl ?_
  exact ⟨rfl, rfl⟩
set_option maxRecDepth 20000 in
set_option maxHeartbeats 4000000 in
theorem c_X4_fitsP {K : Cx} {s : Nat} {p : Int32} {m : TM} (hs : s < 4) (hb : ¬ m.1 41 s = 0) (hp : outI p 0 (m.1 1 1 - 1) = true) : CT yX4_fits cX4_fits 3 (some .int) 6 138 K [.ref 0, .int (nI s), .int p] (m) (some (.int (-1000001))) (fnd m 0) := by
  refine ct_ofd (n := 0) (by decide +kernel) rfl rfl ?_
  show XX RX4 cX4_fits 3 (some .int) 6 138 K 0 [some (.ref 0), some (.int (nI s)), some (.int p)] [] (m) (fun r1 m1 => r1 = (some (.int (-1000001))) ∧ m1 = fnd m 0)
  refine x_aload_n (q := 1) dX4_fits_0 rfl rfl ?_
  refine x_iload_n (q := 2) dX4_fits_1 rfl rfl ?_
  refine x_iload_n (q := 3) dX4_fits_2 rfl rfl ?_
  refine x_iconst (q := 4) (v := 1) dX4_fits_3 rfl (by decide) ?_
  refine x_callV3v (q := 7) dX4_fits_4 rfl ml_X4_156 mv_X4_allAsTold rv4 rfl (c_X4_allAsToldP hs hb hp) (Nat.le_of_ble_eq_true rfl) ⟨by decide, by decide⟩ ?_
  refine x_ireturn dX4_fits_7 rfl rfl ?_
  exact ⟨rfl, rfl⟩
set_option maxRecDepth 20000 in
set_option maxHeartbeats 4000000 in
theorem c_X4_fits {K : Cx} {n8 k s z : Nat} {m : TM} (hI : Iv n8 (m.1 1)) (hk : k < n8) (hs : s < 4) (hz : m.1 42 s = nI z) (hz40 : z ≤ 40) (hb : ¬ m.1 41 s = 0) : CQ yX4_fits cX4_fits 3 (some .int) 6 138 K [.ref 0, .int (nI s), .int (nI k)] (m) (fun r1 m1 => ∃ X, r1 = some (.int (fsF (fun v => atF n8 k (fun q => m.1 43 (40 * s + q)) z 0 (upd (m.1 1) (12 + 7 * k + 1) (nI v))) 21)) ∧ m1 = sr m 13 X) := by
  refine ct_ofq (n := 0) (by decide +kernel) rfl rfl ?_
  show XX RX4 cX4_fits 3 (some .int) 6 138 K 0 [some (.ref 0), some (.int (nI s)), some (.int (nI k))] [] (m) (fun r1 m1 => ∃ X, r1 = some (.int (fsF (fun v => atF n8 k (fun q => m.1 43 (40 * s + q)) z 0 (upd (m.1 1) (12 + 7 * k + 1) (nI v))) 21)) ∧ m1 = sr m 13 X)
  refine x_aload_n (q := 1) dX4_fits_0 rfl rfl ?_
  refine x_iload_n (q := 2) dX4_fits_1 rfl rfl ?_
  refine x_iload_n (q := 3) dX4_fits_2 rfl rfl ?_
  refine x_iconst (q := 4) (v := 1) dX4_fits_3 rfl (by decide) ?_
  refine x_callV3q (q := 7) dX4_fits_4 rfl ml_X4_156 mv_X4_allAsTold rv4 rfl (c_X4_allAsTold (f := 1) (N := 21) hI hk hs hz hz40 (Or.inl ⟨rfl, rfl⟩) hb) (Nat.le_of_ble_eq_true rfl) ⟨by decide, by decide⟩ (fun v m1 hQ => ?_)
  obtain ⟨X, rfl, rfl⟩ := hQ
  refine x_ireturn dX4_fits_7 rfl rfl ?_
  exact ⟨X, rfl, rfl⟩
theorem dX4_kinds_0 : decode cX4_kinds 0 = .ok (.aload_n 0, 1) := by decide +kernel
theorem dX4_kinds_1 : decode cX4_kinds 1 = .ok (.iload_n 1, 1) := by decide +kernel
theorem dX4_kinds_2 : decode cX4_kinds 2 = .ok (.iload_n 2, 1) := by decide +kernel
theorem dX4_kinds_3 : decode cX4_kinds 3 = .ok (.iconst 0, 1) := by decide +kernel
theorem dX4_kinds_4 : decode cX4_kinds 4 = .ok (.invokevirtual 156, 3) := by decide +kernel
theorem dX4_kinds_7 : decode cX4_kinds 7 = .ok (.ireturn, 1) := by decide +kernel
set_option maxRecDepth 20000 in
set_option maxHeartbeats 4000000 in
theorem c_X4_kindsA {K : Cx} {x p : Int32} {m : TM} (hb : outI x 0 3 = true) : CT yX4_kinds cX4_kinds 3 (some .int) 6 138 K [.ref 0, .int x, .int p] (m) (some (.int (-1000001))) (fnd m 0) := by
  refine ct_ofd (n := 0) (by decide +kernel) rfl rfl ?_
  show XX RX4 cX4_kinds 3 (some .int) 6 138 K 0 [some (.ref 0), some (.int x), some (.int p)] [] (m) (fun r1 m1 => r1 = (some (.int (-1000001))) ∧ m1 = fnd m 0)
  refine x_aload_n (q := 1) dX4_kinds_0 rfl rfl ?_
  refine x_iload_n (q := 2) dX4_kinds_1 rfl rfl ?_
  refine x_iload_n (q := 3) dX4_kinds_2 rfl rfl ?_
  refine x_iconst (q := 4) (v := 0) dX4_kinds_3 rfl (by decide) ?_
  refine x_callV3v (q := 7) dX4_kinds_4 rfl ml_X4_156 mv_X4_allAsTold rv4 rfl (c_X4_allAsToldA hb) (Nat.le_of_ble_eq_true rfl) ⟨by decide, by decide⟩ ?_
  refine x_ireturn dX4_kinds_7 rfl rfl ?_
  exact ⟨rfl, rfl⟩
set_option maxRecDepth 20000 in
set_option maxHeartbeats 4000000 in
theorem c_X4_kindsB {K : Cx} {s : Nat} {p : Int32} {m : TM} (hs : s < 4) (hb : m.1 41 s = 0) : CT yX4_kinds cX4_kinds 3 (some .int) 6 138 K [.ref 0, .int (nI s), .int p] (m) (some (.int (-1000006))) (fnd m 5) := by
  refine ct_ofd (n := 0) (by decide +kernel) rfl rfl ?_
  show XX RX4 cX4_kinds 3 (some .int) 6 138 K 0 [some (.ref 0), some (.int (nI s)), some (.int p)] [] (m) (fun r1 m1 => r1 = (some (.int (-1000006))) ∧ m1 = fnd m 5)
  refine x_aload_n (q := 1) dX4_kinds_0 rfl rfl ?_
  refine x_iload_n (q := 2) dX4_kinds_1 rfl rfl ?_
  refine x_iload_n (q := 3) dX4_kinds_2 rfl rfl ?_
  refine x_iconst (q := 4) (v := 0) dX4_kinds_3 rfl (by decide) ?_
  refine x_callV3v (q := 7) dX4_kinds_4 rfl ml_X4_156 mv_X4_allAsTold rv4 rfl (c_X4_allAsToldB hs hb) (Nat.le_of_ble_eq_true rfl) ⟨by decide, by decide⟩ ?_
  refine x_ireturn dX4_kinds_7 rfl rfl ?_
  exact ⟨rfl, rfl⟩
set_option maxRecDepth 20000 in
set_option maxHeartbeats 4000000 in
theorem c_X4_kindsP {K : Cx} {s : Nat} {p : Int32} {m : TM} (hs : s < 4) (hb : ¬ m.1 41 s = 0) (hp : outI p 0 (m.1 1 1 - 1) = true) : CT yX4_kinds cX4_kinds 3 (some .int) 6 138 K [.ref 0, .int (nI s), .int p] (m) (some (.int (-1000001))) (fnd m 0) := by
  refine ct_ofd (n := 0) (by decide +kernel) rfl rfl ?_
  show XX RX4 cX4_kinds 3 (some .int) 6 138 K 0 [some (.ref 0), some (.int (nI s)), some (.int p)] [] (m) (fun r1 m1 => r1 = (some (.int (-1000001))) ∧ m1 = fnd m 0)
  refine x_aload_n (q := 1) dX4_kinds_0 rfl rfl ?_
  refine x_iload_n (q := 2) dX4_kinds_1 rfl rfl ?_
  refine x_iload_n (q := 3) dX4_kinds_2 rfl rfl ?_
  refine x_iconst (q := 4) (v := 0) dX4_kinds_3 rfl (by decide) ?_
  refine x_callV3v (q := 7) dX4_kinds_4 rfl ml_X4_156 mv_X4_allAsTold rv4 rfl (c_X4_allAsToldP hs hb hp) (Nat.le_of_ble_eq_true rfl) ⟨by decide, by decide⟩ ?_
  refine x_ireturn dX4_kinds_7 rfl rfl ?_
  exact ⟨rfl, rfl⟩
set_option maxRecDepth 20000 in
set_option maxHeartbeats 4000000 in
theorem c_X4_kinds {K : Cx} {n8 k s z : Nat} {m : TM} (hI : Iv n8 (m.1 1)) (hk : k < n8) (hs : s < 4) (hz : m.1 42 s = nI z) (hz40 : z ≤ 40) (hb : ¬ m.1 41 s = 0) : CQ yX4_kinds cX4_kinds 3 (some .int) 6 138 K [.ref 0, .int (nI s), .int (nI k)] (m) (fun r1 m1 => ∃ X, r1 = some (.int (fsF (fun v => atF n8 k (fun q => m.1 43 (40 * s + q)) z 0 (upd (m.1 1) (12 + 7 * k + 0) (nI v))) 7)) ∧ m1 = sr m 13 X) := by
  refine ct_ofq (n := 0) (by decide +kernel) rfl rfl ?_
  show XX RX4 cX4_kinds 3 (some .int) 6 138 K 0 [some (.ref 0), some (.int (nI s)), some (.int (nI k))] [] (m) (fun r1 m1 => ∃ X, r1 = some (.int (fsF (fun v => atF n8 k (fun q => m.1 43 (40 * s + q)) z 0 (upd (m.1 1) (12 + 7 * k + 0) (nI v))) 7)) ∧ m1 = sr m 13 X)
  refine x_aload_n (q := 1) dX4_kinds_0 rfl rfl ?_
  refine x_iload_n (q := 2) dX4_kinds_1 rfl rfl ?_
  refine x_iload_n (q := 3) dX4_kinds_2 rfl rfl ?_
  refine x_iconst (q := 4) (v := 0) dX4_kinds_3 rfl (by decide) ?_
  refine x_callV3q (q := 7) dX4_kinds_4 rfl ml_X4_156 mv_X4_allAsTold rv4 rfl (c_X4_allAsTold (f := 0) (N := 7) hI hk hs hz hz40 (Or.inr ⟨rfl, rfl⟩) hb) (Nat.le_of_ble_eq_true rfl) ⟨by decide, by decide⟩ (fun v m1 hQ => ?_)
  obtain ⟨X, rfl, rfl⟩ := hQ
  refine x_ireturn dX4_kinds_7 rfl rfl ?_
  exact ⟨X, rfl, rfl⟩
theorem dX5_wrongTold_0 : decode cX5_wrongTold 0 = .ok (.aload_n 0, 1) := by decide +kernel
theorem dX5_wrongTold_1 : decode cX5_wrongTold 1 = .ok (.iload_n 1, 1) := by decide +kernel
theorem dX5_wrongTold_2 : decode cX5_wrongTold 2 = .ok (.invokevirtual 158, 3) := by decide +kernel
theorem dX5_wrongTold_5 : decode cX5_wrongTold 5 = .ok (.istore_n 3, 1) := by decide +kernel
theorem dX5_wrongTold_6 : decode cX5_wrongTold 6 = .ok (.iload_n 3, 1) := by decide +kernel
theorem dX5_wrongTold_7 : decode cX5_wrongTold 7 = .ok (.ifCond .lt 7, 3) := by decide +kernel
theorem dX5_wrongTold_10 : decode cX5_wrongTold 10 = .ok (.iload_n 3, 1) := by decide +kernel
theorem dX5_wrongTold_11 : decode cX5_wrongTold 11 = .ok (.goto 16, 3) := by decide +kernel
theorem dX5_wrongTold_14 : decode cX5_wrongTold 14 = .ok (.aload_n 0, 1) := by decide +kernel
theorem dX5_wrongTold_15 : decode cX5_wrongTold 15 = .ok (.iload_n 2, 1) := by decide +kernel
theorem dX5_wrongTold_16 : decode cX5_wrongTold 16 = .ok (.invokevirtual 109, 3) := by decide +kernel
theorem dX5_wrongTold_19 : decode cX5_wrongTold 19 = .ok (.ifCond .eq 7, 3) := by decide +kernel
theorem dX5_wrongTold_22 : decode cX5_wrongTold 22 = .ok (.iconst (-1), 1) := by decide +kernel
theorem dX5_wrongTold_23 : decode cX5_wrongTold 23 = .ok (.goto 4, 3) := by decide +kernel
theorem dX5_wrongTold_26 : decode cX5_wrongTold 26 = .ok (.iconst 0, 1) := by decide +kernel
theorem dX5_wrongTold_27 : decode cX5_wrongTold 27 = .ok (.ireturn, 1) := by decide +kernel
set_option maxRecDepth 20000 in
set_option maxHeartbeats 4000000 in
theorem c_X5_wtA {K : Cx} {x p : Int32} {m : TM} (hb : outI x 0 3 = true) : CT yX5_wrongTold cX5_wrongTold 4 (some .int) 3 63 K [.ref 49, .int x, .int p] (m) (some (.int (0))) (m) := by
  refine ct_ofd (n := 1) (by decide +kernel) rfl rfl ?_
  show XX RX5 cX5_wrongTold 4 (some .int) 3 63 K 0 [some (.ref 49), some (.int x), some (.int p), none] [] (m) (fun r1 m1 => r1 = (some (.int (0))) ∧ m1 = m)
  refine x_aload_n (q := 1) dX5_wrongTold_0 rfl rfl ?_
  refine x_iload_n (q := 2) dX5_wrongTold_1 rfl rfl ?_
  refine x_callV1v (q := 5) dX5_wrongTold_2 rfl ml_X5_158 mv_X5_wrongSheet rv5 rfl (c_X5_wsA hb) (Nat.le_of_ble_eq_true rfl) ⟨by decide, by decide⟩ ?_
  refine x_istore_n (q := 6) dX5_wrongTold_5 rfl (by decide) rfl rfl ?_
  refine x_iload_n (q := 7) dX5_wrongTold_6 rfl rfl ?_
  refine x_if_lt (q := 10) (t := 14) dX5_wrongTold_7 rfl (by decide) (fun h => absurd h (by decide)) (fun _ => ?_)
  refine x_iload_n (q := 11) dX5_wrongTold_10 rfl rfl ?_
  refine x_goto (q := 27) dX5_wrongTold_11 (by decide) ?_
  refine x_ireturn dX5_wrongTold_27 rfl rfl ?_
  exact ⟨rfl, rfl⟩
set_option maxRecDepth 20000 in
set_option maxHeartbeats 4000000 in
theorem c_X5_wtB {K : Cx} {s : Nat} {p : Int32} {m : TM} (hs : s < 4) (hb : m.1 58 s = 0) : CT yX5_wrongTold cX5_wrongTold 4 (some .int) 3 63 K [.ref 49, .int (nI s), .int p] (m) (some (.int (5))) (m) := by
  refine ct_ofd (n := 1) (by decide +kernel) rfl rfl ?_
  show XX RX5 cX5_wrongTold 4 (some .int) 3 63 K 0 [some (.ref 49), some (.int (nI s)), some (.int p), none] [] (m) (fun r1 m1 => r1 = (some (.int (5))) ∧ m1 = m)
  refine x_aload_n (q := 1) dX5_wrongTold_0 rfl rfl ?_
  refine x_iload_n (q := 2) dX5_wrongTold_1 rfl rfl ?_
  refine x_callV1v (q := 5) dX5_wrongTold_2 rfl ml_X5_158 mv_X5_wrongSheet rv5 rfl (c_X5_wsB hs hb) (Nat.le_of_ble_eq_true rfl) ⟨by decide, by decide⟩ ?_
  refine x_istore_n (q := 6) dX5_wrongTold_5 rfl (by decide) rfl rfl ?_
  refine x_iload_n (q := 7) dX5_wrongTold_6 rfl rfl ?_
  refine x_if_lt (q := 10) (t := 14) dX5_wrongTold_7 rfl (by decide) (fun h => absurd h (by decide)) (fun _ => ?_)
  refine x_iload_n (q := 11) dX5_wrongTold_10 rfl rfl ?_
  refine x_goto (q := 27) dX5_wrongTold_11 (by decide) ?_
  refine x_ireturn dX5_wrongTold_27 rfl rfl ?_
  exact ⟨rfl, rfl⟩
set_option maxRecDepth 20000 in
set_option maxHeartbeats 4000000 in
theorem c_X5_wtP {K : Cx} {s : Nat} {p : Int32} {m : TM} (hs : s < 4) (hb : ¬ m.1 58 s = 0) (hp : outI p 0 (m.1 50 1 - 1) = true) : CT yX5_wrongTold cX5_wrongTold 4 (some .int) 3 63 K [.ref 49, .int (nI s), .int p] (m) (some (.int (0))) (m) := by
  refine ct_ofd (n := 1) (by decide +kernel) rfl rfl ?_
  show XX RX5 cX5_wrongTold 4 (some .int) 3 63 K 0 [some (.ref 49), some (.int (nI s)), some (.int p), none] [] (m) (fun r1 m1 => r1 = (some (.int (0))) ∧ m1 = m)
  refine x_aload_n (q := 1) dX5_wrongTold_0 rfl rfl ?_
  refine x_iload_n (q := 2) dX5_wrongTold_1 rfl rfl ?_
  refine x_callV1v (q := 5) dX5_wrongTold_2 rfl ml_X5_158 mv_X5_wrongSheet rv5 rfl (c_X5_wsC hs hb) (Nat.le_of_ble_eq_true rfl) ⟨by decide, by decide⟩ ?_
  refine x_istore_n (q := 6) dX5_wrongTold_5 rfl (by decide) rfl rfl ?_
  refine x_iload_n (q := 7) dX5_wrongTold_6 rfl rfl ?_
  refine x_if_lt (q := 10) (t := 14) dX5_wrongTold_7 rfl (by decide) (fun _ => ?_) (fun h => absurd (by decide) h)
  refine x_aload_n (q := 15) dX5_wrongTold_14 rfl rfl ?_
  refine x_iload_n (q := 16) dX5_wrongTold_15 rfl rfl ?_
  refine x_callV1v (q := 19) dX5_wrongTold_16 rfl ml_X5_109 mv_X5_isParcel rv5 rfl c_X5_isParcel (Nat.le_of_ble_eq_true rfl) ⟨by decide, by decide⟩ ?_
  refine x_ifB_eq (q := 22) (t := 26) dX5_wrongTold_19 rfl (by decide) (fun h19 => ?_) (fun h19 => ?_)
  · replace h19 := in_f h19
    refine x_iconst (q := 27) (v := 0) dX5_wrongTold_26 rfl (by decide) ?_
    refine x_ireturn dX5_wrongTold_27 rfl rfl ?_
    exact ⟨rfl, rfl⟩
  replace h19 := in_t h19
  exact absurd hp (by rw [h19]; decide)
set_option maxRecDepth 20000 in
set_option maxHeartbeats 4000000 in
theorem c_X5_wtC {K : Cx} {s : Nat} {p : Int32} {m : TM} (hs : s < 4) (hb : ¬ m.1 58 s = 0) (hp : outI p 0 (m.1 50 1 - 1) = false) : CT yX5_wrongTold cX5_wrongTold 4 (some .int) 3 63 K [.ref 49, .int (nI s), .int p] (m) (some (.int (-1))) (m) := by
  refine ct_ofd (n := 1) (by decide +kernel) rfl rfl ?_
  show XX RX5 cX5_wrongTold 4 (some .int) 3 63 K 0 [some (.ref 49), some (.int (nI s)), some (.int p), none] [] (m) (fun r1 m1 => r1 = (some (.int (-1))) ∧ m1 = m)
  refine x_aload_n (q := 1) dX5_wrongTold_0 rfl rfl ?_
  refine x_iload_n (q := 2) dX5_wrongTold_1 rfl rfl ?_
  refine x_callV1v (q := 5) dX5_wrongTold_2 rfl ml_X5_158 mv_X5_wrongSheet rv5 rfl (c_X5_wsC hs hb) (Nat.le_of_ble_eq_true rfl) ⟨by decide, by decide⟩ ?_
  refine x_istore_n (q := 6) dX5_wrongTold_5 rfl (by decide) rfl rfl ?_
  refine x_iload_n (q := 7) dX5_wrongTold_6 rfl rfl ?_
  refine x_if_lt (q := 10) (t := 14) dX5_wrongTold_7 rfl (by decide) (fun _ => ?_) (fun h => absurd (by decide) h)
  refine x_aload_n (q := 15) dX5_wrongTold_14 rfl rfl ?_
  refine x_iload_n (q := 16) dX5_wrongTold_15 rfl rfl ?_
  refine x_callV1v (q := 19) dX5_wrongTold_16 rfl ml_X5_109 mv_X5_isParcel rv5 rfl c_X5_isParcel (Nat.le_of_ble_eq_true rfl) ⟨by decide, by decide⟩ ?_
  refine x_ifB_eq (q := 22) (t := 26) dX5_wrongTold_19 rfl (by decide) (fun h19 => ?_) (fun h19 => ?_)
  · replace h19 := in_f h19
    exact absurd hp (by rw [h19]; decide)
  replace h19 := in_t h19
  refine x_iconst (q := 23) (v := (-1)) dX5_wrongTold_22 rfl (by decide) ?_
  refine x_goto (q := 27) dX5_wrongTold_23 (by decide) ?_
  refine x_ireturn dX5_wrongTold_27 rfl rfl ?_
  exact ⟨rfl, rfl⟩
theorem dX5_allThatFit_0 : decode cX5_allThatFit 0 = .ok (.iconst 0, 1) := by decide +kernel
theorem dX5_allThatFit_1 : decode cX5_allThatFit 1 = .ok (.istore 4, 2) := by decide +kernel
theorem dX5_allThatFit_3 : decode cX5_allThatFit 3 = .ok (.iconst 0, 1) := by decide +kernel
theorem dX5_allThatFit_4 : decode cX5_allThatFit 4 = .ok (.istore 5, 2) := by decide +kernel
theorem dX5_allThatFit_6 : decode cX5_allThatFit 6 = .ok (.iload 5, 2) := by decide +kernel
theorem dX5_allThatFit_8 : decode cX5_allThatFit 8 = .ok (.iload_n 3, 1) := by decide +kernel
theorem dX5_allThatFit_9 : decode cX5_allThatFit 9 = .ok (.invokestatic 112, 3) := by decide +kernel
theorem dX5_allThatFit_12 : decode cX5_allThatFit 12 = .ok (.if_icmp .gt 109, 3) := by decide +kernel
theorem dX5_allThatFit_15 : decode cX5_allThatFit 15 = .ok (.aload_n 0, 1) := by decide +kernel
theorem dX5_allThatFit_16 : decode cX5_allThatFit 16 = .ok (.invokevirtual 124, 3) := by decide +kernel
theorem dX5_allThatFit_19 : decode cX5_allThatFit 19 = .ok (.aload_n 0, 1) := by decide +kernel
theorem dX5_allThatFit_20 : decode cX5_allThatFit 20 = .ok (.iload_n 2, 1) := by decide +kernel
theorem dX5_allThatFit_21 : decode cX5_allThatFit 21 = .ok (.iload_n 3, 1) := by decide +kernel
theorem dX5_allThatFit_22 : decode cX5_allThatFit 22 = .ok (.iload 5, 2) := by decide +kernel
theorem dX5_allThatFit_24 : decode cX5_allThatFit 24 = .ok (.invokevirtual 60, 3) := by decide +kernel
theorem dX5_allThatFit_27 : decode cX5_allThatFit 27 = .ok (.iconst 1, 1) := by decide +kernel
theorem dX5_allThatFit_28 : decode cX5_allThatFit 28 = .ok (.istore 6, 2) := by decide +kernel
theorem dX5_allThatFit_30 : decode cX5_allThatFit 30 = .ok (.iconst 0, 1) := by decide +kernel
theorem dX5_allThatFit_31 : decode cX5_allThatFit 31 = .ok (.istore 7, 2) := by decide +kernel
theorem dX5_allThatFit_33 : decode cX5_allThatFit 33 = .ok (.iload 7, 2) := by decide +kernel
theorem dX5_allThatFit_35 : decode cX5_allThatFit 35 = .ok (.aload_n 0, 1) := by decide +kernel
theorem dX5_allThatFit_36 : decode cX5_allThatFit 36 = .ok (.getfield 38, 3) := by decide +kernel
theorem dX5_allThatFit_39 : decode cX5_allThatFit 39 = .ok (.iload_n 1, 1) := by decide +kernel
theorem dX5_allThatFit_40 : decode cX5_allThatFit 40 = .ok (.iaload, 1) := by decide +kernel
theorem dX5_allThatFit_41 : decode cX5_allThatFit 41 = .ok (.if_icmp .ge 52, 3) := by decide +kernel
theorem dX5_allThatFit_44 : decode cX5_allThatFit 44 = .ok (.iload 6, 2) := by decide +kernel
theorem dX5_allThatFit_46 : decode cX5_allThatFit 46 = .ok (.ifCond .eq 47, 3) := by decide +kernel
theorem dX5_allThatFit_49 : decode cX5_allThatFit 49 = .ok (.aload_n 0, 1) := by decide +kernel
theorem dX5_allThatFit_50 : decode cX5_allThatFit 50 = .ok (.invokevirtual 93, 3) := by decide +kernel
theorem dX5_allThatFit_53 : decode cX5_allThatFit 53 = .ok (.aload_n 0, 1) := by decide +kernel
theorem dX5_allThatFit_54 : decode cX5_allThatFit 54 = .ok (.iload_n 1, 1) := by decide +kernel
theorem dX5_allThatFit_55 : decode cX5_allThatFit 55 = .ok (.iload 7, 2) := by decide +kernel
theorem dX5_allThatFit_57 : decode cX5_allThatFit 57 = .ok (.invokevirtual 161, 3) := by decide +kernel
theorem dX5_allThatFit_60 : decode cX5_allThatFit 60 = .ok (.iconst (-1), 1) := by decide +kernel
theorem dX5_allThatFit_61 : decode cX5_allThatFit 61 = .ok (.if_icmp .eq 19, 3) := by decide +kernel
theorem dX5_allThatFit_64 : decode cX5_allThatFit 64 = .ok (.aload_n 0, 1) := by decide +kernel
theorem dX5_allThatFit_65 : decode cX5_allThatFit 65 = .ok (.iload_n 1, 1) := by decide +kernel
theorem dX5_allThatFit_66 : decode cX5_allThatFit 66 = .ok (.iload 7, 2) := by decide +kernel
theorem dX5_allThatFit_68 : decode cX5_allThatFit 68 = .ok (.invokevirtual 161, 3) := by decide +kernel
theorem dX5_allThatFit_71 : decode cX5_allThatFit 71 = .ok (.aload_n 0, 1) := by decide +kernel
theorem dX5_allThatFit_72 : decode cX5_allThatFit 72 = .ok (.iload_n 2, 1) := by decide +kernel
theorem dX5_allThatFit_73 : decode cX5_allThatFit 73 = .ok (.iconst 1, 1) := by decide +kernel
theorem dX5_allThatFit_74 : decode cX5_allThatFit 74 = .ok (.invokevirtual 52, 3) := by decide +kernel
theorem dX5_allThatFit_77 : decode cX5_allThatFit 77 = .ok (.if_icmp .ne 7, 3) := by decide +kernel
theorem dX5_allThatFit_80 : decode cX5_allThatFit 80 = .ok (.iconst 1, 1) := by decide +kernel
theorem dX5_allThatFit_81 : decode cX5_allThatFit 81 = .ok (.goto 4, 3) := by decide +kernel
theorem dX5_allThatFit_84 : decode cX5_allThatFit 84 = .ok (.iconst 0, 1) := by decide +kernel
theorem dX5_allThatFit_85 : decode cX5_allThatFit 85 = .ok (.istore 6, 2) := by decide +kernel
theorem dX5_allThatFit_87 : decode cX5_allThatFit 87 = .ok (.iinc 7 1, 3) := by decide +kernel
theorem dX5_allThatFit_90 : decode cX5_allThatFit 90 = .ok (.goto (-57), 3) := by decide +kernel
theorem dX5_allThatFit_93 : decode cX5_allThatFit 93 = .ok (.aload_n 0, 1) := by decide +kernel
theorem dX5_allThatFit_94 : decode cX5_allThatFit 94 = .ok (.invokevirtual 127, 3) := by decide +kernel
theorem dX5_allThatFit_97 : decode cX5_allThatFit 97 = .ok (.iload 4, 2) := by decide +kernel
theorem dX5_allThatFit_99 : decode cX5_allThatFit 99 = .ok (.iload 6, 2) := by decide +kernel
theorem dX5_allThatFit_101 : decode cX5_allThatFit 101 = .ok (.ifCond .eq 10, 3) := by decide +kernel
theorem dX5_allThatFit_104 : decode cX5_allThatFit 104 = .ok (.iconst 1, 1) := by decide +kernel
theorem dX5_allThatFit_105 : decode cX5_allThatFit 105 = .ok (.iload 5, 2) := by decide +kernel
theorem dX5_allThatFit_107 : decode cX5_allThatFit 107 = .ok (.ishl, 1) := by decide +kernel
theorem dX5_allThatFit_108 : decode cX5_allThatFit 108 = .ok (.goto 4, 3) := by decide +kernel
theorem dX5_allThatFit_111 : decode cX5_allThatFit 111 = .ok (.iconst 0, 1) := by decide +kernel
theorem dX5_allThatFit_112 : decode cX5_allThatFit 112 = .ok (.ior, 1) := by decide +kernel
theorem dX5_allThatFit_113 : decode cX5_allThatFit 113 = .ok (.istore 4, 2) := by decide +kernel
theorem dX5_allThatFit_115 : decode cX5_allThatFit 115 = .ok (.iinc 5 1, 3) := by decide +kernel
theorem dX5_allThatFit_118 : decode cX5_allThatFit 118 = .ok (.goto (-112), 3) := by decide +kernel
theorem dX5_allThatFit_121 : decode cX5_allThatFit 121 = .ok (.iload 4, 2) := by decide +kernel
theorem dX5_allThatFit_123 : decode cX5_allThatFit 123 = .ok (.ireturn, 1) := by decide +kernel
set_option maxRecDepth 20000 in
theorem l_out_fit {K : Cx} {n8 k s z f : Nat} {a4 a5 : Int32} {j : Int32} {m : TM} {u : Nat → Int32} {Qv : Option Value → TM → Prop} (hs : s < 4) (kk : XX RX5 cX5_allThatFit 8 (some .int) 4 91 K 93 [some (.ref 49), some (.int (nI s)), some (.int (nI k)), some (.int (nI f)), some (.int a4), some (.int a5), some (.int 0), none] [] (sr (asM m) 50 u) (fun r1 m1 => Qv r1 m1)) : XX RX5 cX5_allThatFit 8 (some .int) 4 91 K 33 [some (.ref 49), some (.int (nI s)), some (.int (nI k)), some (.int (nI f)), some (.int a4), some (.int a5), some (.int 0), some (.int j)] [] (sr (asM m) 50 u) (fun r1 m1 => Qv r1 m1) := by
  refine x_iload (q := 35) dX5_allThatFit_33 rfl rfl ?_
  refine x_aload_n (q := 36) dX5_allThatFit_35 rfl rfl ?_
  refine x_getR (q := 39) dX5_allThatFit_36 rfl fl_X5_38 (or5_sizes) ?_
  refine x_iload_n (q := 40) dX5_allThatFit_39 rfl rfl ?_
  refine x_iald (q := 41) dX5_allThatFit_40 rfl (ar_59) (ix_nI hs (by decide)) (Nat.zero_add _) ?_
  refine x_icmp_ge (q := 44) (t := 93) dX5_allThatFit_41 rfl (by decide) (fun h41 => ?_) (fun h41 => ?_)
  · exact x_ls kk (And.intro rfl (And.intro rfl (And.intro rfl (And.intro rfl (And.intro rfl (And.intro rfl (And.intro rfl trivial)))))))
  refine x_iload (q := 46) dX5_allThatFit_44 rfl rfl ?_
  refine x_if_eq (q := 49) (t := 93) dX5_allThatFit_46 rfl (by decide) (fun _ => ?_) (fun h => absurd (by decide) h)
  exact x_ls kk (And.intro rfl (And.intro rfl (And.intro rfl (And.intro rfl (And.intro rfl (And.intro rfl (And.intro rfl trivial)))))))
set_option maxRecDepth 20000 in
set_option maxHeartbeats 4000000 in
theorem l_X5_allThatFitI {K : Cx} {n8 k s z f : Nat} {a4 a5 : Int32} {b : Bool} {m : TM} {Qv : Option Value → TM → Prop} (hk8 : k < 8) (hs : s < 4) (hz : m.1 59 s = nI z) (hz40 : z ≤ 40) (kk : ∀ u, XX RX5 cX5_allThatFit 8 (some .int) 4 91 K 93 [some (.ref 49), some (.int (nI s)), some (.int (nI k)), some (.int (nI f)), some (.int a4), some (.int a5), some (.int (bI b)), none] [] (sr (asM m) 50 u) (fun r1 m1 => Qv r1 m1)) : ∀ (n : Nat) (j : Nat) (u : Nat → Int32), z - j < n → j ≤ z → Iv n8 u → atF n8 k (fun q => m.1 60 (40 * s + q)) (z - j) j u = b → XX RX5 cX5_allThatFit 8 (some .int) 4 91 K 33 [some (.ref 49), some (.int (nI s)), some (.int (nI k)), some (.int (nI f)), some (.int a4), some (.int a5), some (.int 1), some (.int (nI j))] [] (sr (asM m) 50 u) (fun r1 m1 => Qv r1 m1) := by
  intro n
  induction n with
  | zero => intro j u hlt; exact absurd hlt (Nat.not_lt_zero _)
  | succ n ih =>
    intro j u hlt hj hI hat
    have hz2 : (sr (asM m) 50 u).1 59 s = nI z := by rw [sr_ne (by decide), asM, sr_ne (by decide)]; exact hz
    have hw : ∀ v q, (sr (asM m) 50 v).1 60 q = m.1 60 q := fun v q => by rw [sr_ne (by decide), asM, sr_ne (by decide)]
    refine x_iload (q := 35) dX5_allThatFit_33 rfl rfl ?_
    refine x_aload_n (q := 36) dX5_allThatFit_35 rfl rfl ?_
    refine x_getR (q := 39) dX5_allThatFit_36 rfl fl_X5_38 (or5_sizes) ?_
    refine x_iload_n (q := 40) dX5_allThatFit_39 rfl rfl ?_
    refine x_iald (q := 41) dX5_allThatFit_40 rfl (ar_59) (ix_nI hs (by decide)) (Nat.zero_add _) ?_
    refine x_icmp_ge (q := 44) (t := 93) dX5_allThatFit_41 rfl (by decide) (fun h41 => ?_) (fun h41 => ?_)
    · have e : z - j = 0 := by
        have := lp_stop hz2 (by omega) (by omega) h41
        omega
      rw [e] at hat
      subst hat
      exact x_ls (kk u) (And.intro rfl (And.intro rfl (And.intro rfl (And.intro rfl (And.intro rfl (And.intro rfl (And.intro rfl trivial)))))))
    have hjz : j < z := lp_go hz2 (by omega) (by omega) h41
    have e1 : z - j = (z - (j + 1)) + 1 := by omega
    rw [e1] at hat
    simp only [atF] at hat
    refine x_iload (q := 46) dX5_allThatFit_44 rfl rfl ?_
    refine x_if_eq (q := 49) (t := 93) dX5_allThatFit_46 rfl (by decide) (fun h => absurd h (by decide)) (fun _ => ?_)
    refine x_aload_n (q := 50) dX5_allThatFit_49 rfl rfl ?_
    refine x_callV0n (q := 53) dX5_allThatFit_50 rfl ml_X5_93 mv_X5_day rv5 rfl (c_X5_day hI) (Nat.le_of_ble_eq_true rfl) ⟨by decide, by decide⟩ ?_
    refine x_aload_n (q := 54) dX5_allThatFit_53 rfl rfl ?_
    refine x_iload_n (q := 55) dX5_allThatFit_54 rfl rfl ?_
    refine x_iload (q := 57) dX5_allThatFit_55 rfl rfl ?_
    refine x_callV2v (q := 60) dX5_allThatFit_57 rfl ml_X5_161 mv_X5_told rv5 rfl (c_X5_told hs (by omega)) (Nat.le_of_ble_eq_true rfl) ⟨by decide, by decide⟩ ?_
    refine x_iconst (q := 61) (v := (-1)) dX5_allThatFit_60 rfl (by decide) ?_
    refine x_icmp_eq (q := 64) (t := 80) dX5_allThatFit_61 rfl (by decide) (fun h61 => ?_) (fun h61 => ?_)
    · 
      refine x_iconst (q := 81) (v := 1) dX5_allThatFit_80 rfl (by decide) ?_
      refine x_goto (q := 85) dX5_allThatFit_81 (by decide) ?_
      refine x_istore (q := 87) dX5_allThatFit_85 rfl (by decide) rfl rfl ?_
      refine x_iinc (q := 90) (v := nI (j + 1)) dX5_allThatFit_87 rfl rfl (jnI_s j) (by decide) rfl rfl ?_
      refine x_goto (q := 33) dX5_allThatFit_90 (by decide) ?_
      rw [hw] at h61
      rw [if_pos (Or.inl h61)] at hat
      exact ih (j + 1) (dyC u n8) (by omega) (by omega) hI.day hat
    rw [hw] at h61
    refine x_aload_n (q := 65) dX5_allThatFit_64 rfl rfl ?_
    refine x_iload_n (q := 66) dX5_allThatFit_65 rfl rfl ?_
    refine x_iload (q := 68) dX5_allThatFit_66 rfl rfl ?_
    refine x_callV2v (q := 71) dX5_allThatFit_68 rfl ml_X5_161 mv_X5_told rv5 rfl (c_X5_told hs (by omega)) (Nat.le_of_ble_eq_true rfl) ⟨by decide, by decide⟩ ?_
    rw [hw]
    refine x_aload_n (q := 72) dX5_allThatFit_71 rfl rfl ?_
    refine x_iload_n (q := 73) dX5_allThatFit_72 rfl rfl ?_
    refine x_iconst (q := 74) (v := 1) dX5_allThatFit_73 rfl (by decide) ?_
    refine x_callV2v (q := 77) dX5_allThatFit_74 rfl ml_X5_52 mv_X5_get rv5 rfl (c_X5_getr (f := 1) hk8 (by decide)) (Nat.le_of_ble_eq_true rfl) ⟨by decide, by decide⟩ ?_
    refine x_icmp_ne (q := 80) (t := 84) dX5_allThatFit_77 rfl (by decide) (fun h77 => ?_) (fun h77 => ?_)
    · refine x_iconst (q := 85) (v := 0) dX5_allThatFit_84 rfl (by decide) ?_
      refine x_istore (q := 87) dX5_allThatFit_85 rfl (by decide) rfl rfl ?_
      refine x_iinc (q := 90) (v := nI (j + 1)) dX5_allThatFit_87 rfl rfl (jnI_s j) (by decide) rfl rfl ?_
      refine x_goto (q := 33) dX5_allThatFit_90 (by decide) ?_
      rw [if_neg (fun q => q.elim h61 h77)] at hat
      subst hat
      exact l_out_fit (n8 := n8) (z := z) hs (kk _)
    
    refine x_iconst (q := 81) (v := 1) dX5_allThatFit_80 rfl (by decide) ?_
    refine x_goto (q := 85) dX5_allThatFit_81 (by decide) ?_
    refine x_istore (q := 87) dX5_allThatFit_85 rfl (by decide) rfl rfl ?_
    refine x_iinc (q := 90) (v := nI (j + 1)) dX5_allThatFit_87 rfl rfl (jnI_s j) (by decide) rfl rfl ?_
    refine x_goto (q := 33) dX5_allThatFit_90 (by decide) ?_
    rw [if_pos (Or.inr h77)] at hat
    exact ih (j + 1) (dyC u n8) (by omega) (by omega) hI.day hat
set_option maxRecDepth 20000 in
set_option maxHeartbeats 4000000 in
theorem l_X5_allThatFit {K : Cx} {n8 k s z f N : Nat} {m : TM} (hI : Iv n8 (m.1 50)) (hk : k < n8) (hs : s < 4) (hz : m.1 59 s = nI z) (hz40 : z ≤ 40) (hf : (f = 1 ∧ N = 21) ∨ (f = 0 ∧ N = 7)) : ∀ (n : Nat) (j : Nat) (Y : Nat → Int32), N - j < n → j ≤ N → XX RX5 cX5_allThatFit 8 (some .int) 4 91 K 6 [some (.ref 49), some (.int (nI s)), some (.int (nI k)), some (.int (nI f)), some (.int (fsF (fun v => atF n8 k (fun q => m.1 60 (40 * s + q)) z 0 (upd (m.1 50) (12 + 7 * k + f) (nI v))) j)), some (.int (nI j)), none, none] [] (sr m 52 Y) (fun r1 m1 => ∃ v, r1 = some (.int v) ∧ ∃ Y, v = fsF (fun v => atF n8 k (fun q => m.1 60 (40 * s + q)) z 0 (upd (m.1 50) (12 + 7 * k + f) (nI v))) N ∧ m1 = sr m 52 Y) := by
  intro n
  induction n with
  | zero => intro j Y hlt; exact absurd hlt (Nat.not_lt_zero _)
  | succ n ih =>
    intro j Y hlt hj
    have h8 := hI.1
    have hk8 : k < 8 := by omega
    have hN : N ≤ 21 := by omega
    have hmst : mst (nI f) = nI (N - 1) := by rcases hf with ⟨rfl, rfl⟩ | ⟨rfl, rfl⟩ <;> decide
    refine x_iload (q := 8) dX5_allThatFit_6 rfl rfl ?_
    refine x_iload_n (q := 9) dX5_allThatFit_8 rfl rfl ?_
    refine x_callS1v (q := 12) dX5_allThatFit_9 rfl ml_X5_112 ms_X5_mostOf c_X5_mostOf (Nat.le_of_ble_eq_true rfl) ⟨by decide, by decide⟩ ?_
    refine x_icmp_gt (q := 15) (t := 121) dX5_allThatFit_12 rfl (by decide) (fun h12 => ?_) (fun h12 => ?_)
    · rw [hmst] at h12
      have e : N - 1 < j := (jnI_lt (by omega) (by omega)).mp h12
      have e2 : j = N := by omega
      subst e2
      refine x_iload (q := 123) dX5_allThatFit_121 rfl rfl ?_
      refine x_ireturn dX5_allThatFit_123 rfl rfl ?_
      exact ⟨_, rfl, _, rfl, rfl⟩
    rw [hmst] at h12
    have hjN : j < N := by
      have h9 : ¬ N - 1 < j := fun q => h12 ((jnI_lt (by omega) (by omega)).mpr q)
      omega
    have hu : Iv n8 (upd (m.1 50) (12 + 7 * k + f) (nI j)) := hI.upd_p hk (by omega) (fun q => ⟨j, by omega, rfl⟩) (fun q => by omega)
    refine x_aload_n (q := 16) dX5_allThatFit_15 rfl rfl ?_
    refine x_callV0n (q := 19) dX5_allThatFit_16 rfl ml_X5_124 mv_X5_setsAside rv5 rfl c_setY (Nat.le_of_ble_eq_true rfl) ⟨by decide, by decide⟩ ?_
    refine x_aload_n (q := 20) dX5_allThatFit_19 rfl rfl ?_
    refine x_iload_n (q := 21) dX5_allThatFit_20 rfl rfl ?_
    refine x_iload_n (q := 22) dX5_allThatFit_21 rfl rfl ?_
    refine x_iload (q := 24) dX5_allThatFit_22 rfl rfl ?_
    refine x_callV3n (q := 27) dX5_allThatFit_24 rfl ml_X5_60 mv_X5_puts rv5 rfl (c_X5_putsr hk8 (by omega)) (Nat.le_of_ble_eq_true rfl) ⟨by decide, by decide⟩ ?_
    refine x_iconst (q := 28) (v := 1) dX5_allThatFit_27 rfl (by decide) ?_
    refine x_istore (q := 30) dX5_allThatFit_28 rfl (by decide) rfl rfl ?_
    refine x_iconst (q := 31) (v := 0) dX5_allThatFit_30 rfl (by decide) ?_
    refine x_istore (q := 33) dX5_allThatFit_31 rfl (by decide) rfl rfl ?_
    refine l_X5_allThatFitI (b := atF n8 k (fun q => m.1 60 (40 * s + q)) z 0 (upd (m.1 50) (12 + 7 * k + f) (nI j))) hk8 hs hz hz40 (fun u => ?_) (z + 1) 0 _ (by omega) (by omega) hu rfl
    refine x_aload_n (q := 94) dX5_allThatFit_93 rfl rfl ?_
    refine x_callV0n (q := 97) dX5_allThatFit_94 rfl ml_X5_127 mv_X5_laysBack rv5 rfl c_back (Nat.le_of_ble_eq_true rfl) ⟨by decide, by decide⟩ ?_
    refine x_iload (q := 99) dX5_allThatFit_97 rfl rfl ?_
    refine x_iload (q := 101) dX5_allThatFit_99 rfl rfl ?_
    refine x_ifB_eq (q := 104) (t := 111) dX5_allThatFit_101 rfl (by decide) (fun h101 => ?_) (fun h101 => ?_)
    · refine x_iconst (q := 112) (v := 0) dX5_allThatFit_111 rfl (by decide) ?_
      refine x_ior (q := 113) dX5_allThatFit_112 rfl ?_
      refine x_istore (q := 115) dX5_allThatFit_113 rfl (by decide) rfl rfl ?_
      refine x_iinc (q := 118) (v := nI (j + 1)) dX5_allThatFit_115 rfl rfl (jnI_s j) (by decide) rfl rfl ?_
      refine x_goto (q := 6) dX5_allThatFit_118 (by decide) ?_
      have key := fun X => ih (j + 1) X (by omega) (by omega)
      simp only [fsF, h101, if_true, if_false, Bool.false_eq_true] at key
      rw [or0]
      exact x_ls (key (m.1 50)) (And.intro rfl (And.intro rfl (And.intro rfl (And.intro rfl (And.intro rfl (And.intro rfl trivial))))))
    refine x_iconst (q := 105) (v := 1) dX5_allThatFit_104 rfl (by decide) ?_
    refine x_iload (q := 107) dX5_allThatFit_105 rfl rfl ?_
    refine x_ishl (q := 108) dX5_allThatFit_107 rfl ?_
    refine x_goto (q := 112) dX5_allThatFit_108 (by decide) ?_
    refine x_ior (q := 113) dX5_allThatFit_112 rfl ?_
    refine x_istore (q := 115) dX5_allThatFit_113 rfl (by decide) rfl rfl ?_
    refine x_iinc (q := 118) (v := nI (j + 1)) dX5_allThatFit_115 rfl rfl (jnI_s j) (by decide) rfl rfl ?_
    refine x_goto (q := 6) dX5_allThatFit_118 (by decide) ?_
    have key := fun X => ih (j + 1) X (by omega) (by omega)
    simp only [fsF, h101, if_true, if_false, Bool.false_eq_true] at key
    exact x_ls (key (m.1 50)) (And.intro rfl (And.intro rfl (And.intro rfl (And.intro rfl (And.intro rfl (And.intro rfl trivial))))))
set_option maxRecDepth 20000 in
set_option maxHeartbeats 4000000 in
theorem c_X5_allThatFit {K : Cx} {n8 k s z f N : Nat} {m : TM} (hI : Iv n8 (m.1 50)) (hk : k < n8) (hs : s < 4) (hz : m.1 59 s = nI z) (hz40 : z ≤ 40) (hf : (f = 1 ∧ N = 21) ∨ (f = 0 ∧ N = 7)) : CQ yX5_allThatFit cX5_allThatFit 8 (some .int) 4 91 K [.ref 49, .int (nI s), .int (nI k), .int (nI f)] (m) (fun r1 m1 => ∃ v, r1 = some (.int v) ∧ ∃ Y, v = fsF (fun v => atF n8 k (fun q => m.1 60 (40 * s + q)) z 0 (upd (m.1 50) (12 + 7 * k + f) (nI v))) N ∧ m1 = sr m 52 Y) := by
  refine ct_ofq (n := 4) (by decide +kernel) rfl rfl ?_
  show XX RX5 cX5_allThatFit 8 (some .int) 4 91 K 0 [some (.ref 49), some (.int (nI s)), some (.int (nI k)), some (.int (nI f)), none, none, none, none] [] (m) (fun r1 m1 => ∃ v, r1 = some (.int v) ∧ ∃ Y, v = fsF (fun v => atF n8 k (fun q => m.1 60 (40 * s + q)) z 0 (upd (m.1 50) (12 + 7 * k + f) (nI v))) N ∧ m1 = sr m 52 Y)
  refine x_iconst (q := 1) (v := 0) dX5_allThatFit_0 rfl (by decide) ?_
  refine x_istore (q := 3) dX5_allThatFit_1 rfl (by decide) rfl rfl ?_
  refine x_iconst (q := 4) (v := 0) dX5_allThatFit_3 rfl (by decide) ?_
  refine x_istore (q := 6) dX5_allThatFit_4 rfl (by decide) rfl rfl ?_
  have h := l_X5_allThatFit (K := K) hI hk hs hz hz40 hf (N + 1) 0 (m.1 52) (by omega) (by omega)
  rw [sr_self] at h
  exact x_ls h (And.intro rfl (And.intro rfl (And.intro rfl (And.intro rfl (And.intro rfl (And.intro rfl trivial))))))
theorem dX5_fits_0 : decode cX5_fits 0 = .ok (.aload_n 0, 1) := by decide +kernel
theorem dX5_fits_1 : decode cX5_fits 1 = .ok (.iload_n 1, 1) := by decide +kernel
theorem dX5_fits_2 : decode cX5_fits 2 = .ok (.iload_n 2, 1) := by decide +kernel
theorem dX5_fits_3 : decode cX5_fits 3 = .ok (.invokevirtual 164, 3) := by decide +kernel
theorem dX5_fits_6 : decode cX5_fits 6 = .ok (.istore_n 3, 1) := by decide +kernel
theorem dX5_fits_7 : decode cX5_fits 7 = .ok (.iload_n 3, 1) := by decide +kernel
theorem dX5_fits_8 : decode cX5_fits 8 = .ok (.ifCond .lt 11, 3) := by decide +kernel
theorem dX5_fits_11 : decode cX5_fits 11 = .ok (.aload_n 0, 1) := by decide +kernel
theorem dX5_fits_12 : decode cX5_fits 12 = .ok (.iload_n 3, 1) := by decide +kernel
theorem dX5_fits_13 : decode cX5_fits 13 = .ok (.invokevirtual 103, 3) := by decide +kernel
theorem dX5_fits_16 : decode cX5_fits 16 = .ok (.goto 10, 3) := by decide +kernel
theorem dX5_fits_19 : decode cX5_fits 19 = .ok (.aload_n 0, 1) := by decide +kernel
theorem dX5_fits_20 : decode cX5_fits 20 = .ok (.iload_n 1, 1) := by decide +kernel
theorem dX5_fits_21 : decode cX5_fits 21 = .ok (.iload_n 2, 1) := by decide +kernel
theorem dX5_fits_22 : decode cX5_fits 22 = .ok (.iconst 1, 1) := by decide +kernel
theorem dX5_fits_23 : decode cX5_fits 23 = .ok (.invokevirtual 167, 3) := by decide +kernel
theorem dX5_fits_26 : decode cX5_fits 26 = .ok (.ireturn, 1) := by decide +kernel
set_option maxRecDepth 20000 in
set_option maxHeartbeats 4000000 in
theorem c_X5_fitsA {K : Cx} {x p : Int32} {m : TM} (hb : outI x 0 3 = true) : CT yX5_fits cX5_fits 4 (some .int) 5 118 K [.ref 49, .int x, .int p] (m) (some (.int (-1000001))) (fnm m 0) := by
  refine ct_ofd (n := 1) (by decide +kernel) rfl rfl ?_
  show XX RX5 cX5_fits 4 (some .int) 5 118 K 0 [some (.ref 49), some (.int x), some (.int p), none] [] (m) (fun r1 m1 => r1 = (some (.int (-1000001))) ∧ m1 = fnm m 0)
  refine x_aload_n (q := 1) dX5_fits_0 rfl rfl ?_
  refine x_iload_n (q := 2) dX5_fits_1 rfl rfl ?_
  refine x_iload_n (q := 3) dX5_fits_2 rfl rfl ?_
  refine x_callV2v (q := 6) dX5_fits_3 rfl ml_X5_164 mv_X5_wrongTold rv5 rfl (c_X5_wtA hb) (Nat.le_of_ble_eq_true rfl) ⟨by decide, by decide⟩ ?_
  refine x_istore_n (q := 7) dX5_fits_6 rfl (by decide) rfl rfl ?_
  refine x_iload_n (q := 8) dX5_fits_7 rfl rfl ?_
  refine x_if_lt (q := 11) (t := 19) dX5_fits_8 rfl (by decide) (fun h => absurd h (by decide)) (fun _ => ?_)
  refine x_aload_n (q := 12) dX5_fits_11 rfl rfl ?_
  refine x_iload_n (q := 13) dX5_fits_12 rfl rfl ?_
  refine x_callV1v (q := 16) dX5_fits_13 rfl ml_X5_103 mv_X5_no rv5 rfl (c_X5_nox (w := 0) (x := -1000001) (by decide) (by decide)) (Nat.le_of_ble_eq_true rfl) ⟨by decide, by decide⟩ ?_
  refine x_goto (q := 26) dX5_fits_16 (by decide) ?_
  refine x_ireturn dX5_fits_26 rfl rfl ?_
  exact ⟨rfl, rfl⟩
set_option maxRecDepth 20000 in
set_option maxHeartbeats 4000000 in
theorem c_X5_fitsB {K : Cx} {s : Nat} {p : Int32} {m : TM} (hs : s < 4) (hb : m.1 58 s = 0) : CT yX5_fits cX5_fits 4 (some .int) 5 118 K [.ref 49, .int (nI s), .int p] (m) (some (.int (-1000006))) (fnm m 5) := by
  refine ct_ofd (n := 1) (by decide +kernel) rfl rfl ?_
  show XX RX5 cX5_fits 4 (some .int) 5 118 K 0 [some (.ref 49), some (.int (nI s)), some (.int p), none] [] (m) (fun r1 m1 => r1 = (some (.int (-1000006))) ∧ m1 = fnm m 5)
  refine x_aload_n (q := 1) dX5_fits_0 rfl rfl ?_
  refine x_iload_n (q := 2) dX5_fits_1 rfl rfl ?_
  refine x_iload_n (q := 3) dX5_fits_2 rfl rfl ?_
  refine x_callV2v (q := 6) dX5_fits_3 rfl ml_X5_164 mv_X5_wrongTold rv5 rfl (c_X5_wtB hs hb) (Nat.le_of_ble_eq_true rfl) ⟨by decide, by decide⟩ ?_
  refine x_istore_n (q := 7) dX5_fits_6 rfl (by decide) rfl rfl ?_
  refine x_iload_n (q := 8) dX5_fits_7 rfl rfl ?_
  refine x_if_lt (q := 11) (t := 19) dX5_fits_8 rfl (by decide) (fun h => absurd h (by decide)) (fun _ => ?_)
  refine x_aload_n (q := 12) dX5_fits_11 rfl rfl ?_
  refine x_iload_n (q := 13) dX5_fits_12 rfl rfl ?_
  refine x_callV1v (q := 16) dX5_fits_13 rfl ml_X5_103 mv_X5_no rv5 rfl (c_X5_nox (w := 5) (x := -1000006) (by decide) (by decide)) (Nat.le_of_ble_eq_true rfl) ⟨by decide, by decide⟩ ?_
  refine x_goto (q := 26) dX5_fits_16 (by decide) ?_
  refine x_ireturn dX5_fits_26 rfl rfl ?_
  exact ⟨rfl, rfl⟩
set_option maxRecDepth 20000 in
set_option maxHeartbeats 4000000 in
theorem c_X5_fitsP {K : Cx} {s : Nat} {p : Int32} {m : TM} (hs : s < 4) (hb : ¬ m.1 58 s = 0) (hp : outI p 0 (m.1 50 1 - 1) = true) : CT yX5_fits cX5_fits 4 (some .int) 5 118 K [.ref 49, .int (nI s), .int p] (m) (some (.int (-1000001))) (fnm m 0) := by
  refine ct_ofd (n := 1) (by decide +kernel) rfl rfl ?_
  show XX RX5 cX5_fits 4 (some .int) 5 118 K 0 [some (.ref 49), some (.int (nI s)), some (.int p), none] [] (m) (fun r1 m1 => r1 = (some (.int (-1000001))) ∧ m1 = fnm m 0)
  refine x_aload_n (q := 1) dX5_fits_0 rfl rfl ?_
  refine x_iload_n (q := 2) dX5_fits_1 rfl rfl ?_
  refine x_iload_n (q := 3) dX5_fits_2 rfl rfl ?_
  refine x_callV2v (q := 6) dX5_fits_3 rfl ml_X5_164 mv_X5_wrongTold rv5 rfl (c_X5_wtP hs hb hp) (Nat.le_of_ble_eq_true rfl) ⟨by decide, by decide⟩ ?_
  refine x_istore_n (q := 7) dX5_fits_6 rfl (by decide) rfl rfl ?_
  refine x_iload_n (q := 8) dX5_fits_7 rfl rfl ?_
  refine x_if_lt (q := 11) (t := 19) dX5_fits_8 rfl (by decide) (fun h => absurd h (by decide)) (fun _ => ?_)
  refine x_aload_n (q := 12) dX5_fits_11 rfl rfl ?_
  refine x_iload_n (q := 13) dX5_fits_12 rfl rfl ?_
  refine x_callV1v (q := 16) dX5_fits_13 rfl ml_X5_103 mv_X5_no rv5 rfl (c_X5_nox (w := 0) (x := -1000001) (by decide) (by decide)) (Nat.le_of_ble_eq_true rfl) ⟨by decide, by decide⟩ ?_
  refine x_goto (q := 26) dX5_fits_16 (by decide) ?_
  refine x_ireturn dX5_fits_26 rfl rfl ?_
  exact ⟨rfl, rfl⟩
set_option maxRecDepth 20000 in
set_option maxHeartbeats 4000000 in
theorem c_X5_fits {K : Cx} {n8 k s z : Nat} {m : TM} (hI : Iv n8 (m.1 50)) (hk : k < n8) (hs : s < 4) (hz : m.1 59 s = nI z) (hz40 : z ≤ 40) (hb : ¬ m.1 58 s = 0) : CQ yX5_fits cX5_fits 4 (some .int) 5 118 K [.ref 49, .int (nI s), .int (nI k)] (m) (fun r1 m1 => ∃ Y, r1 = some (.int (fsF (fun v => atF n8 k (fun q => m.1 60 (40 * s + q)) z 0 (upd (m.1 50) (12 + 7 * k + 1) (nI v))) 21)) ∧ m1 = sr m 52 Y) := by
  refine ct_ofq (n := 1) (by decide +kernel) rfl rfl ?_
  show XX RX5 cX5_fits 4 (some .int) 5 118 K 0 [some (.ref 49), some (.int (nI s)), some (.int (nI k)), none] [] (m) (fun r1 m1 => ∃ Y, r1 = some (.int (fsF (fun v => atF n8 k (fun q => m.1 60 (40 * s + q)) z 0 (upd (m.1 50) (12 + 7 * k + 1) (nI v))) 21)) ∧ m1 = sr m 52 Y)
  refine x_aload_n (q := 1) dX5_fits_0 rfl rfl ?_
  refine x_iload_n (q := 2) dX5_fits_1 rfl rfl ?_
  refine x_iload_n (q := 3) dX5_fits_2 rfl rfl ?_
  refine x_callV2v (q := 6) dX5_fits_3 rfl ml_X5_164 mv_X5_wrongTold rv5 rfl (c_X5_wtC hs hb (par_in hI.2.1 hI.1 hk)) (Nat.le_of_ble_eq_true rfl) ⟨by decide, by decide⟩ ?_
  refine x_istore_n (q := 7) dX5_fits_6 rfl (by decide) rfl rfl ?_
  refine x_iload_n (q := 8) dX5_fits_7 rfl rfl ?_
  refine x_if_lt (q := 11) (t := 19) dX5_fits_8 rfl (by decide) (fun _ => ?_) (fun h => absurd (by decide) h)
  refine x_aload_n (q := 20) dX5_fits_19 rfl rfl ?_
  refine x_iload_n (q := 21) dX5_fits_20 rfl rfl ?_
  refine x_iload_n (q := 22) dX5_fits_21 rfl rfl ?_
  refine x_iconst (q := 23) (v := 1) dX5_fits_22 rfl (by decide) ?_
  refine x_callV3q (q := 26) dX5_fits_23 rfl ml_X5_167 mv_X5_allThatFit rv5 rfl (c_X5_allThatFit (f := 1) (N := 21) hI hk hs hz hz40 (Or.inl ⟨rfl, rfl⟩)) (Nat.le_of_ble_eq_true rfl) ⟨by decide, by decide⟩ (fun v m1 hQ => ?_)
  obtain ⟨Y, rfl, rfl⟩ := hQ
  refine x_ireturn dX5_fits_26 rfl rfl ?_
  exact ⟨Y, rfl, rfl⟩
theorem dX5_kinds_0 : decode cX5_kinds 0 = .ok (.aload_n 0, 1) := by decide +kernel
theorem dX5_kinds_1 : decode cX5_kinds 1 = .ok (.iload_n 1, 1) := by decide +kernel
theorem dX5_kinds_2 : decode cX5_kinds 2 = .ok (.iload_n 2, 1) := by decide +kernel
theorem dX5_kinds_3 : decode cX5_kinds 3 = .ok (.invokevirtual 164, 3) := by decide +kernel
theorem dX5_kinds_6 : decode cX5_kinds 6 = .ok (.istore_n 3, 1) := by decide +kernel
theorem dX5_kinds_7 : decode cX5_kinds 7 = .ok (.iload_n 3, 1) := by decide +kernel
theorem dX5_kinds_8 : decode cX5_kinds 8 = .ok (.ifCond .lt 11, 3) := by decide +kernel
theorem dX5_kinds_11 : decode cX5_kinds 11 = .ok (.aload_n 0, 1) := by decide +kernel
theorem dX5_kinds_12 : decode cX5_kinds 12 = .ok (.iload_n 3, 1) := by decide +kernel
theorem dX5_kinds_13 : decode cX5_kinds 13 = .ok (.invokevirtual 103, 3) := by decide +kernel
theorem dX5_kinds_16 : decode cX5_kinds 16 = .ok (.goto 10, 3) := by decide +kernel
theorem dX5_kinds_19 : decode cX5_kinds 19 = .ok (.aload_n 0, 1) := by decide +kernel
theorem dX5_kinds_20 : decode cX5_kinds 20 = .ok (.iload_n 1, 1) := by decide +kernel
theorem dX5_kinds_21 : decode cX5_kinds 21 = .ok (.iload_n 2, 1) := by decide +kernel
theorem dX5_kinds_22 : decode cX5_kinds 22 = .ok (.iconst 0, 1) := by decide +kernel
theorem dX5_kinds_23 : decode cX5_kinds 23 = .ok (.invokevirtual 167, 3) := by decide +kernel
theorem dX5_kinds_26 : decode cX5_kinds 26 = .ok (.ireturn, 1) := by decide +kernel
set_option maxRecDepth 20000 in
set_option maxHeartbeats 4000000 in
theorem c_X5_kindsA {K : Cx} {x p : Int32} {m : TM} (hb : outI x 0 3 = true) : CT yX5_kinds cX5_kinds 4 (some .int) 5 118 K [.ref 49, .int x, .int p] (m) (some (.int (-1000001))) (fnm m 0) := by
  refine ct_ofd (n := 1) (by decide +kernel) rfl rfl ?_
  show XX RX5 cX5_kinds 4 (some .int) 5 118 K 0 [some (.ref 49), some (.int x), some (.int p), none] [] (m) (fun r1 m1 => r1 = (some (.int (-1000001))) ∧ m1 = fnm m 0)
  refine x_aload_n (q := 1) dX5_kinds_0 rfl rfl ?_
  refine x_iload_n (q := 2) dX5_kinds_1 rfl rfl ?_
  refine x_iload_n (q := 3) dX5_kinds_2 rfl rfl ?_
  refine x_callV2v (q := 6) dX5_kinds_3 rfl ml_X5_164 mv_X5_wrongTold rv5 rfl (c_X5_wtA hb) (Nat.le_of_ble_eq_true rfl) ⟨by decide, by decide⟩ ?_
  refine x_istore_n (q := 7) dX5_kinds_6 rfl (by decide) rfl rfl ?_
  refine x_iload_n (q := 8) dX5_kinds_7 rfl rfl ?_
  refine x_if_lt (q := 11) (t := 19) dX5_kinds_8 rfl (by decide) (fun h => absurd h (by decide)) (fun _ => ?_)
  refine x_aload_n (q := 12) dX5_kinds_11 rfl rfl ?_
  refine x_iload_n (q := 13) dX5_kinds_12 rfl rfl ?_
  refine x_callV1v (q := 16) dX5_kinds_13 rfl ml_X5_103 mv_X5_no rv5 rfl (c_X5_nox (w := 0) (x := -1000001) (by decide) (by decide)) (Nat.le_of_ble_eq_true rfl) ⟨by decide, by decide⟩ ?_
  refine x_goto (q := 26) dX5_kinds_16 (by decide) ?_
  refine x_ireturn dX5_kinds_26 rfl rfl ?_
  exact ⟨rfl, rfl⟩
set_option maxRecDepth 20000 in
set_option maxHeartbeats 4000000 in
theorem c_X5_kindsB {K : Cx} {s : Nat} {p : Int32} {m : TM} (hs : s < 4) (hb : m.1 58 s = 0) : CT yX5_kinds cX5_kinds 4 (some .int) 5 118 K [.ref 49, .int (nI s), .int p] (m) (some (.int (-1000006))) (fnm m 5) := by
  refine ct_ofd (n := 1) (by decide +kernel) rfl rfl ?_
  show XX RX5 cX5_kinds 4 (some .int) 5 118 K 0 [some (.ref 49), some (.int (nI s)), some (.int p), none] [] (m) (fun r1 m1 => r1 = (some (.int (-1000006))) ∧ m1 = fnm m 5)
  refine x_aload_n (q := 1) dX5_kinds_0 rfl rfl ?_
  refine x_iload_n (q := 2) dX5_kinds_1 rfl rfl ?_
  refine x_iload_n (q := 3) dX5_kinds_2 rfl rfl ?_
  refine x_callV2v (q := 6) dX5_kinds_3 rfl ml_X5_164 mv_X5_wrongTold rv5 rfl (c_X5_wtB hs hb) (Nat.le_of_ble_eq_true rfl) ⟨by decide, by decide⟩ ?_
  refine x_istore_n (q := 7) dX5_kinds_6 rfl (by decide) rfl rfl ?_
  refine x_iload_n (q := 8) dX5_kinds_7 rfl rfl ?_
  refine x_if_lt (q := 11) (t := 19) dX5_kinds_8 rfl (by decide) (fun h => absurd h (by decide)) (fun _ => ?_)
  refine x_aload_n (q := 12) dX5_kinds_11 rfl rfl ?_
  refine x_iload_n (q := 13) dX5_kinds_12 rfl rfl ?_
  refine x_callV1v (q := 16) dX5_kinds_13 rfl ml_X5_103 mv_X5_no rv5 rfl (c_X5_nox (w := 5) (x := -1000006) (by decide) (by decide)) (Nat.le_of_ble_eq_true rfl) ⟨by decide, by decide⟩ ?_
  refine x_goto (q := 26) dX5_kinds_16 (by decide) ?_
  refine x_ireturn dX5_kinds_26 rfl rfl ?_
  exact ⟨rfl, rfl⟩
set_option maxRecDepth 20000 in
set_option maxHeartbeats 4000000 in
theorem c_X5_kindsP {K : Cx} {s : Nat} {p : Int32} {m : TM} (hs : s < 4) (hb : ¬ m.1 58 s = 0) (hp : outI p 0 (m.1 50 1 - 1) = true) : CT yX5_kinds cX5_kinds 4 (some .int) 5 118 K [.ref 49, .int (nI s), .int p] (m) (some (.int (-1000001))) (fnm m 0) := by
  refine ct_ofd (n := 1) (by decide +kernel) rfl rfl ?_
  show XX RX5 cX5_kinds 4 (some .int) 5 118 K 0 [some (.ref 49), some (.int (nI s)), some (.int p), none] [] (m) (fun r1 m1 => r1 = (some (.int (-1000001))) ∧ m1 = fnm m 0)
  refine x_aload_n (q := 1) dX5_kinds_0 rfl rfl ?_
  refine x_iload_n (q := 2) dX5_kinds_1 rfl rfl ?_
  refine x_iload_n (q := 3) dX5_kinds_2 rfl rfl ?_
  refine x_callV2v (q := 6) dX5_kinds_3 rfl ml_X5_164 mv_X5_wrongTold rv5 rfl (c_X5_wtP hs hb hp) (Nat.le_of_ble_eq_true rfl) ⟨by decide, by decide⟩ ?_
  refine x_istore_n (q := 7) dX5_kinds_6 rfl (by decide) rfl rfl ?_
  refine x_iload_n (q := 8) dX5_kinds_7 rfl rfl ?_
  refine x_if_lt (q := 11) (t := 19) dX5_kinds_8 rfl (by decide) (fun h => absurd h (by decide)) (fun _ => ?_)
  refine x_aload_n (q := 12) dX5_kinds_11 rfl rfl ?_
  refine x_iload_n (q := 13) dX5_kinds_12 rfl rfl ?_
  refine x_callV1v (q := 16) dX5_kinds_13 rfl ml_X5_103 mv_X5_no rv5 rfl (c_X5_nox (w := 0) (x := -1000001) (by decide) (by decide)) (Nat.le_of_ble_eq_true rfl) ⟨by decide, by decide⟩ ?_
  refine x_goto (q := 26) dX5_kinds_16 (by decide) ?_
  refine x_ireturn dX5_kinds_26 rfl rfl ?_
  exact ⟨rfl, rfl⟩
set_option maxRecDepth 20000 in
set_option maxHeartbeats 4000000 in
theorem c_X5_kinds {K : Cx} {n8 k s z : Nat} {m : TM} (hI : Iv n8 (m.1 50)) (hk : k < n8) (hs : s < 4) (hz : m.1 59 s = nI z) (hz40 : z ≤ 40) (hb : ¬ m.1 58 s = 0) : CQ yX5_kinds cX5_kinds 4 (some .int) 5 118 K [.ref 49, .int (nI s), .int (nI k)] (m) (fun r1 m1 => ∃ Y, r1 = some (.int (fsF (fun v => atF n8 k (fun q => m.1 60 (40 * s + q)) z 0 (upd (m.1 50) (12 + 7 * k + 0) (nI v))) 7)) ∧ m1 = sr m 52 Y) := by
  refine ct_ofq (n := 1) (by decide +kernel) rfl rfl ?_
  show XX RX5 cX5_kinds 4 (some .int) 5 118 K 0 [some (.ref 49), some (.int (nI s)), some (.int (nI k)), none] [] (m) (fun r1 m1 => ∃ Y, r1 = some (.int (fsF (fun v => atF n8 k (fun q => m.1 60 (40 * s + q)) z 0 (upd (m.1 50) (12 + 7 * k + 0) (nI v))) 7)) ∧ m1 = sr m 52 Y)
  refine x_aload_n (q := 1) dX5_kinds_0 rfl rfl ?_
  refine x_iload_n (q := 2) dX5_kinds_1 rfl rfl ?_
  refine x_iload_n (q := 3) dX5_kinds_2 rfl rfl ?_
  refine x_callV2v (q := 6) dX5_kinds_3 rfl ml_X5_164 mv_X5_wrongTold rv5 rfl (c_X5_wtC hs hb (par_in hI.2.1 hI.1 hk)) (Nat.le_of_ble_eq_true rfl) ⟨by decide, by decide⟩ ?_
  refine x_istore_n (q := 7) dX5_kinds_6 rfl (by decide) rfl rfl ?_
  refine x_iload_n (q := 8) dX5_kinds_7 rfl rfl ?_
  refine x_if_lt (q := 11) (t := 19) dX5_kinds_8 rfl (by decide) (fun _ => ?_) (fun h => absurd (by decide) h)
  refine x_aload_n (q := 20) dX5_kinds_19 rfl rfl ?_
  refine x_iload_n (q := 21) dX5_kinds_20 rfl rfl ?_
  refine x_iload_n (q := 22) dX5_kinds_21 rfl rfl ?_
  refine x_iconst (q := 23) (v := 0) dX5_kinds_22 rfl (by decide) ?_
  refine x_callV3q (q := 26) dX5_kinds_23 rfl ml_X5_167 mv_X5_allThatFit rv5 rfl (c_X5_allThatFit (f := 0) (N := 7) hI hk hs hz hz40 (Or.inr ⟨rfl, rfl⟩)) (Nat.le_of_ble_eq_true rfl) ⟨by decide, by decide⟩ (fun v m1 hQ => ?_)
  obtain ⟨Y, rfl, rfl⟩ := hQ
  refine x_ireturn dX5_kinds_26 rfl rfl ?_
  exact ⟨Y, rfl, rfl⟩
