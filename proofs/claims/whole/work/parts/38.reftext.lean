/-! items and the whole text, of the reference -/
theorem it_k {L j c : Nat} {w s : Nat → Int32} (hc : c < 7) (h : isW L w j (wiL c) = true) : itF L w s j = kdR L w s j (some c) := by
  have h2 := wiL_lt c hc
  have n0 : ¬ isW L w j 0 = true := fun q => absurd (isW_one (by decide) (by omega) q h) (by omega)
  have n1 : ¬ isW L w j 1 = true := fun q => absurd (isW_one (by decide) (by omega) q h) (by omega)
  unfold itF
  rw [if_neg n0, if_neg n1, kd_some 7 0 c rfl (Nat.zero_le _) hc h]
theorem it_n {L j : Nat} {w s : Nat → Int32} (h : ∀ c, c < 7 → isW L w j (wiL c) = false) (n0 : isW L w j 0 = false) (n1 : isW L w j 1 = false) : itF L w s j = (false, s, j) := by
  unfold itF
  rw [if_neg (by rw [n0]; decide), if_neg (by rw [n1]; decide), kd_none 7 0 (fun c _ hc => h c (by omega))]
  rfl
theorem it_t {L j : Nat} {w s : Nat → Int32} (h : isW L w j 0 = true) : itF L w s j = tdR L w s (nxF L w j) := if_pos h
theorem it_s {L j : Nat} {w s : Nat → Int32} (n0 : ¬ isW L w j 0 = true) (h : isW L w j 1 = true) : itF L w s j = smR L w s (nxF L w j) := (if_neg n0).trans (if_pos h)
theorem uO {L j : Nat} {w : Nat → Int32} : ∀ a b, a < 2 → b < 2 → isW L w j (wiO a) = true → isW L w j (wiO b) = true → a = b := by
  intro a b ha hb h1 h2
  exact isW_one (k := a) (k2 := b) (by omega) (by omega) h1 h2
theorem m1_neg {x : Int32} (h : x = -1) : x < 0 := by rw [h]; decide
theorem dX5_readsItem_0 : decode cX5_readsItem 0 = .ok (.aload_n 0, 1) := by decide +kernel
theorem dX5_readsItem_1 : decode cX5_readsItem 1 = .ok (.aload_n 0, 1) := by decide +kernel
theorem dX5_readsItem_2 : decode cX5_readsItem 2 = .ok (.getfield 25, 3) := by decide +kernel
theorem dX5_readsItem_5 : decode cX5_readsItem 5 = .ok (.invokevirtual 215, 3) := by decide +kernel
theorem dX5_readsItem_8 : decode cX5_readsItem 8 = .ok (.istore_n 1, 1) := by decide +kernel
theorem dX5_readsItem_9 : decode cX5_readsItem 9 = .ok (.iload_n 1, 1) := by decide +kernel
theorem dX5_readsItem_10 : decode cX5_readsItem 10 = .ok (.ifCond .lt 9, 3) := by decide +kernel
theorem dX5_readsItem_13 : decode cX5_readsItem 13 = .ok (.aload_n 0, 1) := by decide +kernel
theorem dX5_readsItem_14 : decode cX5_readsItem 14 = .ok (.iload_n 1, 1) := by decide +kernel
theorem dX5_readsItem_15 : decode cX5_readsItem 15 = .ok (.invokevirtual 222, 3) := by decide +kernel
theorem dX5_readsItem_18 : decode cX5_readsItem 18 = .ok (.ireturn, 1) := by decide +kernel
theorem dX5_readsItem_19 : decode cX5_readsItem 19 = .ok (.aload_n 0, 1) := by decide +kernel
theorem dX5_readsItem_20 : decode cX5_readsItem 20 = .ok (.aload_n 0, 1) := by decide +kernel
theorem dX5_readsItem_21 : decode cX5_readsItem 21 = .ok (.getfield 32, 3) := by decide +kernel
theorem dX5_readsItem_24 : decode cX5_readsItem 24 = .ok (.invokevirtual 215, 3) := by decide +kernel
theorem dX5_readsItem_27 : decode cX5_readsItem 27 = .ok (.istore_n 2, 1) := by decide +kernel
theorem dX5_readsItem_28 : decode cX5_readsItem 28 = .ok (.iload_n 2, 1) := by decide +kernel
theorem dX5_readsItem_29 : decode cX5_readsItem 29 = .ok (.ifCond .ge 5, 3) := by decide +kernel
theorem dX5_readsItem_32 : decode cX5_readsItem 32 = .ok (.iconst 0, 1) := by decide +kernel
theorem dX5_readsItem_33 : decode cX5_readsItem 33 = .ok (.ireturn, 1) := by decide +kernel
theorem dX5_readsItem_34 : decode cX5_readsItem 34 = .ok (.aload_n 0, 1) := by decide +kernel
theorem dX5_readsItem_35 : decode cX5_readsItem 35 = .ok (.invokevirtual 212, 3) := by decide +kernel
theorem dX5_readsItem_38 : decode cX5_readsItem 38 = .ok (.iload_n 2, 1) := by decide +kernel
theorem dX5_readsItem_39 : decode cX5_readsItem 39 = .ok (.ifCond .ne 12, 3) := by decide +kernel
theorem dX5_readsItem_42 : decode cX5_readsItem 42 = .ok (.aload_n 0, 1) := by decide +kernel
theorem dX5_readsItem_43 : decode cX5_readsItem 43 = .ok (.iconst 0, 1) := by decide +kernel
theorem dX5_readsItem_44 : decode cX5_readsItem 44 = .ok (.iconst 5, 1) := by decide +kernel
theorem dX5_readsItem_45 : decode cX5_readsItem 45 = .ok (.invokevirtual 219, 3) := by decide +kernel
theorem dX5_readsItem_48 : decode cX5_readsItem 48 = .ok (.goto 4, 3) := by decide +kernel
theorem dX5_readsItem_51 : decode cX5_readsItem 51 = .ok (.iconst 0, 1) := by decide +kernel
theorem dX5_readsItem_52 : decode cX5_readsItem 52 = .ok (.istore_n 3, 1) := by decide +kernel
theorem dX5_readsItem_53 : decode cX5_readsItem 53 = .ok (.iload_n 3, 1) := by decide +kernel
theorem dX5_readsItem_54 : decode cX5_readsItem 54 = .ok (.ifCond .ge 7, 3) := by decide +kernel
theorem dX5_readsItem_57 : decode cX5_readsItem 57 = .ok (.iconst (-1), 1) := by decide +kernel
theorem dX5_readsItem_58 : decode cX5_readsItem 58 = .ok (.goto 19, 3) := by decide +kernel
theorem dX5_readsItem_61 : decode cX5_readsItem 61 = .ok (.aload_n 0, 1) := by decide +kernel
theorem dX5_readsItem_62 : decode cX5_readsItem 62 = .ok (.iconst 0, 1) := by decide +kernel
theorem dX5_readsItem_63 : decode cX5_readsItem 63 = .ok (.iload_n 2, 1) := by decide +kernel
theorem dX5_readsItem_64 : decode cX5_readsItem 64 = .ok (.ifCond .ne 8, 3) := by decide +kernel
theorem dX5_readsItem_67 : decode cX5_readsItem 67 = .ok (.bipush 20, 2) := by decide +kernel
theorem dX5_readsItem_69 : decode cX5_readsItem 69 = .ok (.goto 5, 3) := by decide +kernel
theorem dX5_readsItem_72 : decode cX5_readsItem 72 = .ok (.bipush 9, 2) := by decide +kernel
theorem dX5_readsItem_74 : decode cX5_readsItem 74 = .ok (.invokevirtual 219, 3) := by decide +kernel
theorem dX5_readsItem_77 : decode cX5_readsItem 77 = .ok (.istore 4, 2) := by decide +kernel
theorem dX5_readsItem_79 : decode cX5_readsItem 79 = .ok (.iload 4, 2) := by decide +kernel
theorem dX5_readsItem_81 : decode cX5_readsItem 81 = .ok (.ifCond .lt 22, 3) := by decide +kernel
theorem dX5_readsItem_84 : decode cX5_readsItem 84 = .ok (.aload_n 0, 1) := by decide +kernel
theorem dX5_readsItem_85 : decode cX5_readsItem 85 = .ok (.getfield 9, 3) := by decide +kernel
theorem dX5_readsItem_88 : decode cX5_readsItem 88 = .ok (.iload_n 2, 1) := by decide +kernel
theorem dX5_readsItem_89 : decode cX5_readsItem 89 = .ok (.ifCond .ne 10, 3) := by decide +kernel
theorem dX5_readsItem_92 : decode cX5_readsItem 92 = .ok (.bipush 6, 2) := by decide +kernel
theorem dX5_readsItem_94 : decode cX5_readsItem 94 = .ok (.iload_n 3, 1) := by decide +kernel
theorem dX5_readsItem_95 : decode cX5_readsItem 95 = .ok (.iadd, 1) := by decide +kernel
theorem dX5_readsItem_96 : decode cX5_readsItem 96 = .ok (.goto 4, 3) := by decide +kernel
theorem dX5_readsItem_99 : decode cX5_readsItem 99 = .ok (.iconst 5, 1) := by decide +kernel
theorem dX5_readsItem_100 : decode cX5_readsItem 100 = .ok (.iload 4, 2) := by decide +kernel
theorem dX5_readsItem_102 : decode cX5_readsItem 102 = .ok (.iastore, 1) := by decide +kernel
theorem dX5_readsItem_103 : decode cX5_readsItem 103 = .ok (.iload 4, 2) := by decide +kernel
theorem dX5_readsItem_105 : decode cX5_readsItem 105 = .ok (.ifCond .lt 7, 3) := by decide +kernel
theorem dX5_readsItem_108 : decode cX5_readsItem 108 = .ok (.iconst 1, 1) := by decide +kernel
theorem dX5_readsItem_109 : decode cX5_readsItem 109 = .ok (.goto 4, 3) := by decide +kernel
theorem dX5_readsItem_112 : decode cX5_readsItem 112 = .ok (.iconst 0, 1) := by decide +kernel
theorem dX5_readsItem_113 : decode cX5_readsItem 113 = .ok (.ireturn, 1) := by decide +kernel
set_option maxRecDepth 20000 in
set_option maxHeartbeats 4000000 in
theorem c_X5_readsItem {K : Cx} {L j n8 : Nat} {w g s : Nat → Int32} {z3 : Int32} {v : Int64} {m : TM} (hT : RS z3 L w j g v) (hL2 : L ≤ 120) (hj : j ≤ L) (hB : ∀ i, i < L → BB (w i) (m.1 54 i)) (hC : ∀ i, i < 70 → m.1 55 i = ltL.getD i 0) (hM : ∀ i, i < 40 → m.1 56 i = moL.getD i 0) (hO : ∀ i, i < 20 → m.1 57 i = otL.getD i 0) (hn : s 1 = nI n8) (h8 : n8 ≤ 8) : CQ yX5_readsItem cX5_readsItem 5 (some .boolean) 5 109 K [.ref 49] (sr (sr (st2 m (v)) 49 (g)) 50 (s)) (fun r1 m1 => r1 = some (.int (bI ((itF L w s j).1))) ∧ ∃ g1 v1, RS z3 L w ((itF L w s j).2.2) g1 v1 ∧ m1 = sr (sr (st2 m (v1)) 49 (g1)) 50 ((itF L w s j).2.1)) := by
  refine ct_ofq (n := 4) (by decide +kernel) rfl rfl ?_
  show XX RX5 cX5_readsItem 5 (some .boolean) 5 109 K 0 [some (.ref 49), none, none, none, none] [] (sr (sr (st2 m (v)) 49 (g)) 50 (s)) (fun r1 m1 => r1 = some (.int (bI ((itF L w s j).1))) ∧ ∃ g1 v1, RS z3 L w ((itF L w s j).2.2) g1 v1 ∧ m1 = sr (sr (st2 m (v1)) 49 (g1)) 50 ((itF L w s j).2.1))
  have hcl : cl (s 1) = n8 := by rw [hn]; exact jnI_clamp (by omega)
  have hnj := (nxF_le (w := w) hj).2
  have hnj2 := (nxF_le (w := w) hnj).2
  refine x_aload_n (q := 1) dX5_readsItem_0 rfl rfl ?_
  refine x_aload_n (q := 2) dX5_readsItem_1 rfl rfl ?_
  refine x_getR (q := 5) dX5_readsItem_2 rfl fl_X5_25 (or5_letters) ?_
  refine x_callV1v (q := 8) dX5_readsItem_5 rfl ml_X5_215 mv_X5_wordOf rv5 rfl (c_X5_wolt hT hC) (Nat.le_of_ble_eq_true rfl) ⟨by decide, by decide⟩ ?_
  refine x_istore_n (q := 9) dX5_readsItem_8 rfl (by decide) rfl rfl ?_
  refine x_iload_n (q := 10) dX5_readsItem_9 rfl rfl ?_
  refine x_if_lt (q := 13) (t := 19) dX5_readsItem_10 rfl (by decide) (fun h10 => ?_) (fun h10 => ?_)
  · have hno : ∀ c, c < 7 → isW L w j (wiL c) = false := by
      rcases whF_cases (fun c => isW L w j (wiL c)) 7 with ⟨c, _, _, q⟩ | ⟨q, _⟩
      · exact absurd (q ▸ h10) (jnI_nneg (by omega))
      · exact q
    refine x_aload_n (q := 20) dX5_readsItem_19 rfl rfl ?_
    refine x_aload_n (q := 21) dX5_readsItem_20 rfl rfl ?_
    refine x_getR (q := 24) dX5_readsItem_21 rfl fl_X5_32 (or5_others) ?_
    refine x_callV1v (q := 27) dX5_readsItem_24 rfl ml_X5_215 mv_X5_wordOf rv5 rfl (c_X5_woot hT hO) (Nat.le_of_ble_eq_true rfl) ⟨by decide, by decide⟩ ?_
    refine x_istore_n (q := 28) dX5_readsItem_27 rfl (by decide) rfl rfl ?_
    refine x_iload_n (q := 29) dX5_readsItem_28 rfl rfl ?_
    refine x_if_ge (q := 32) (t := 34) dX5_readsItem_29 rfl (by decide) (fun h29 => ?_) (fun h29 => ?_)
    · by_cases hw0 : isW L w j 0 = true
      · have hV : whF (fun c => isW L w j (wiO c)) 2 = 0 := (wo_is (by decide) (k := 0) (by decide) uO).mpr hw0
        rw [hV]
        refine x_aload_n (q := 35) dX5_readsItem_34 rfl rfl ?_
        refine x_callV0u (q := 38) dX5_readsItem_35 rfl ml_X5_212 mv_X5_nextToken rv5 rfl (c_X5_nextM hT hL2 hj hB) (Nat.le_of_ble_eq_true rfl) ⟨by decide, by decide⟩ (fun m9 h9 => ?_)
        obtain ⟨g35, v35, T35, rfl⟩ := h9
        refine x_iload_n (q := 39) dX5_readsItem_38 rfl rfl ?_
        refine x_if_ne (q := 42) (t := 51) dX5_readsItem_39 rfl (by decide) (fun h => absurd rfl h) (fun _ => ?_)
        refine x_aload_n (q := 43) dX5_readsItem_42 rfl rfl ?_
        refine x_iconst (q := 44) (v := 0) dX5_readsItem_43 rfl (by decide) ?_
        refine x_iconst (q := 45) (v := 5) dX5_readsItem_44 rfl (by decide) ?_
        refine x_callV2i (q := 48) dX5_readsItem_45 rfl ml_X5_219 mv_X5_takesNumber rv5 rfl (c_X5_takesNumber (a := 0) (b := 5) T35 hL2 hnj hB (by decide) (by decide)) (Nat.le_of_ble_eq_true rfl) ⟨by decide, by decide⟩ (fun m9 h9 => ?_)
        obtain ⟨g45, v45, T45, rfl⟩ := h9
        refine x_goto (q := 52) dX5_readsItem_48 (by decide) ?_
        refine x_istore_n (q := 53) dX5_readsItem_52 rfl (by decide) rfl rfl ?_
        refine x_iload_n (q := 54) dX5_readsItem_53 rfl rfl ?_
        refine x_if_ge (q := 57) (t := 61) dX5_readsItem_54 rfl (by decide) (fun h54 => ?_) (fun h54 => ?_)
        · have hu1 := ge_nu.mp h54
          have hv5 := (nu_so hu1).2.2
          rw [if_pos hu1] at T45
          rw [if_pos hu1]
          refine x_aload_n (q := 62) dX5_readsItem_61 rfl rfl ?_
          refine x_iconst (q := 63) (v := 0) dX5_readsItem_62 rfl (by decide) ?_
          refine x_iload_n (q := 64) dX5_readsItem_63 rfl rfl ?_
          refine x_if_ne (q := 67) (t := 72) dX5_readsItem_64 rfl (by decide) (fun h => absurd rfl h) (fun _ => ?_)
          refine x_bipush (q := 69) (v := 20) dX5_readsItem_67 rfl (by decide) ?_
          refine x_goto (q := 74) dX5_readsItem_69 (by decide) ?_
          refine x_callV2i (q := 77) dX5_readsItem_74 rfl ml_X5_219 mv_X5_takesNumber rv5 rfl (c_X5_takesNumber (a := 0) (b := 20) T45 hL2 hnj2 hB (by decide) (by decide)) (Nat.le_of_ble_eq_true rfl) ⟨by decide, by decide⟩ (fun m9 h9 => ?_)
          obtain ⟨g74, v74, T74, rfl⟩ := h9
          refine x_istore (q := 79) dX5_readsItem_77 rfl (by decide) rfl rfl ?_
          refine x_iload (q := 81) dX5_readsItem_79 rfl rfl ?_
          refine x_if_lt (q := 84) (t := 103) dX5_readsItem_81 rfl (by decide) (fun h81 => ?_) (fun h81 => ?_)
          · refine x_iload (q := 105) dX5_readsItem_103 rfl rfl ?_
            refine x_if_lt (q := 108) (t := 112) dX5_readsItem_105 rfl (by decide) (fun h105 => ?_) (fun h105 => ?_)
            · refine x_iconst (q := 113) (v := 0) dX5_readsItem_112 rfl (by decide) ?_
              refine x_ireturn dX5_readsItem_113 rfl (by decide) ?_
              rw [it_t hw0]
              have hf : nuF L w (nxF L w (nxF L w j)) 0 20 = false := lt_nu.mp h81
              rw [if_neg (by rw [hf]; decide)] at T74
              have e : tdR L w s (nxF L w j) = (false, s, (nxF L w (nxF L w j))) := by unfold tdR; rw [if_pos hu1, if_neg (by rw [hf]; decide)]
              rw [e]
              exact ⟨rfl, g74, v74, T74, rfl⟩
            refine x_iconst (q := 109) (v := 1) dX5_readsItem_108 rfl (by decide) ?_
            refine x_goto (q := 113) dX5_readsItem_109 (by decide) ?_
            refine x_ireturn dX5_readsItem_113 rfl (by decide) ?_
            exact absurd h81 h105
          have hu2 : nuF L w (nxF L w (nxF L w j)) 0 20 = true := by
            cases e : nuF L w (nxF L w (nxF L w j)) 0 20 with
            | true => rfl
            | false => exact absurd (lt_nu.mpr e) h81
          rw [if_pos hu2] at T74
          rw [if_pos hu2]
          have hv2 := nvF_le (L := L) (w := w) (j := (nxF L w (nxF L w j)))
          refine x_aload_n (q := 85) dX5_readsItem_84 rfl rfl ?_
          refine x_getR (q := 88) dX5_readsItem_85 rfl fl_X5_9 (or5_s) ?_
          refine x_iload_n (q := 89) dX5_readsItem_88 rfl rfl ?_
          refine x_if_ne (q := 92) (t := 99) dX5_readsItem_89 rfl (by decide) (fun h => absurd rfl h) (fun _ => ?_)
          refine x_bipush (q := 94) (v := 6) dX5_readsItem_92 rfl (by decide) ?_
          refine x_iload_n (q := 95) dX5_readsItem_94 rfl rfl ?_
          refine x_iadd (q := 96) dX5_readsItem_95 rfl ?_
          rw [show (6 : Int32) + nI (nvF L w (nxF L w j)) = nI (6 + nvF L w (nxF L w j)) from (Int32.ofNat_add 6 _).symm]
          refine x_goto (q := 100) dX5_readsItem_96 (by decide) ?_
          refine x_iload (q := 102) dX5_readsItem_100 rfl rfl ?_
          refine x_iastr (q := 103) dX5_readsItem_102 rfl (ar_50) (ix_nI (n := 78) (k := 6 + nvF L w (nxF L w j)) (by omega) (by decide)) (Nat.zero_add _)  ?_
          refine x_iload (q := 105) dX5_readsItem_103 rfl rfl ?_
          refine x_if_lt (q := 108) (t := 112) dX5_readsItem_105 rfl (by decide) (fun h105 => ?_) (fun h105 => ?_)
          · refine x_iconst (q := 113) (v := 0) dX5_readsItem_112 rfl (by decide) ?_
            refine x_ireturn dX5_readsItem_113 rfl (by decide) ?_
            exact absurd h105 (jnI_nneg (by omega))
          refine x_iconst (q := 109) (v := 1) dX5_readsItem_108 rfl (by decide) ?_
          refine x_goto (q := 113) dX5_readsItem_109 (by decide) ?_
          refine x_ireturn dX5_readsItem_113 rfl (by decide) ?_
          rw [it_t hw0]
          have e : tdR L w s (nxF L w j) = (true, upd s (6 + nvF L w (nxF L w j)) (nI (nvF L w (nxF L w (nxF L w j)))), nxF L w (nxF L w (nxF L w j))) := by unfold tdR; rw [if_pos hu1, if_pos hu2]
          rw [e]
          exact ⟨rfl, g74, v74, T74, rfl⟩
        refine x_iconst (q := 58) (v := (-1)) dX5_readsItem_57 rfl (by decide) ?_
        refine x_goto (q := 77) dX5_readsItem_58 (by decide) ?_
        refine x_istore (q := 79) dX5_readsItem_77 rfl (by decide) rfl rfl ?_
        refine x_iload (q := 81) dX5_readsItem_79 rfl rfl ?_
        refine x_if_lt (q := 84) (t := 103) dX5_readsItem_81 rfl (by decide) (fun _ => ?_) (fun h => absurd (by decide) h)
        refine x_iload (q := 105) dX5_readsItem_103 rfl rfl ?_
        refine x_if_lt (q := 108) (t := 112) dX5_readsItem_105 rfl (by decide) (fun _ => ?_) (fun h => absurd (by decide) h)
        refine x_iconst (q := 113) (v := 0) dX5_readsItem_112 rfl (by decide) ?_
        refine x_ireturn dX5_readsItem_113 rfl (by decide) ?_
        rw [it_t hw0]
        have hf : nuF L w (nxF L w j) 0 5 = false := by
          cases e : nuF L w (nxF L w j) 0 5 with
          | false => rfl
          | true => exact absurd (ge_nu.mpr e) h54
        rw [if_neg (by rw [hf]; decide)] at T45
        have e : tdR L w s (nxF L w j) = (false, s, nxF L w j) := by unfold tdR; rw [if_neg (by rw [hf]; decide)]
        rw [e]
        exact ⟨rfl, g45, v45, T45, rfl⟩
      · have hw1 : isW L w j 1 = true := by
          rcases whF_cases (fun c => isW L w j (wiO c)) 2 with ⟨c, q1, q2, q3⟩ | ⟨_, q⟩
          · have : c = 0 ∨ c = 1 := by omega
            rcases this with rfl | rfl
            · exact absurd q2 hw0
            · exact q2
          · exact absurd h29 (Int32.not_le.mpr (m1_neg q))
        have hV : whF (fun c => isW L w j (wiO c)) 2 = 1 := (wo_is (by decide) (k := 1) (by decide) uO).mpr hw1
        rw [hV]
        refine x_aload_n (q := 35) dX5_readsItem_34 rfl rfl ?_
        refine x_callV0u (q := 38) dX5_readsItem_35 rfl ml_X5_212 mv_X5_nextToken rv5 rfl (c_X5_nextM hT hL2 hj hB) (Nat.le_of_ble_eq_true rfl) ⟨by decide, by decide⟩ (fun m9 h9 => ?_)
        obtain ⟨g35, v35, T35, rfl⟩ := h9
        refine x_iload_n (q := 39) dX5_readsItem_38 rfl rfl ?_
        refine x_if_ne (q := 42) (t := 51) dX5_readsItem_39 rfl (by decide) (fun _ => ?_) (fun h => absurd h (by decide))
        refine x_iconst (q := 52) (v := 0) dX5_readsItem_51 rfl (by decide) ?_
        refine x_istore_n (q := 53) dX5_readsItem_52 rfl (by decide) rfl rfl ?_
        refine x_iload_n (q := 54) dX5_readsItem_53 rfl rfl ?_
        refine x_if_ge (q := 57) (t := 61) dX5_readsItem_54 rfl (by decide) (fun _ => ?_) (fun h => absurd (by decide) h)
        refine x_aload_n (q := 62) dX5_readsItem_61 rfl rfl ?_
        refine x_iconst (q := 63) (v := 0) dX5_readsItem_62 rfl (by decide) ?_
        refine x_iload_n (q := 64) dX5_readsItem_63 rfl rfl ?_
        refine x_if_ne (q := 67) (t := 72) dX5_readsItem_64 rfl (by decide) (fun _ => ?_) (fun h => absurd h (by decide))
        refine x_bipush (q := 74) (v := 9) dX5_readsItem_72 rfl (by decide) ?_
        refine x_callV2i (q := 77) dX5_readsItem_74 rfl ml_X5_219 mv_X5_takesNumber rv5 rfl (c_X5_takesNumber (a := 0) (b := 9) T35 hL2 hnj hB (by decide) (by decide)) (Nat.le_of_ble_eq_true rfl) ⟨by decide, by decide⟩ (fun m9 h9 => ?_)
        obtain ⟨g74, v74, T74, rfl⟩ := h9
        refine x_istore (q := 79) dX5_readsItem_77 rfl (by decide) rfl rfl ?_
        refine x_iload (q := 81) dX5_readsItem_79 rfl rfl ?_
        refine x_if_lt (q := 84) (t := 103) dX5_readsItem_81 rfl (by decide) (fun h81 => ?_) (fun h81 => ?_)
        · refine x_iload (q := 105) dX5_readsItem_103 rfl rfl ?_
          refine x_if_lt (q := 108) (t := 112) dX5_readsItem_105 rfl (by decide) (fun h105 => ?_) (fun h105 => ?_)
          · refine x_iconst (q := 113) (v := 0) dX5_readsItem_112 rfl (by decide) ?_
            refine x_ireturn dX5_readsItem_113 rfl (by decide) ?_
            rw [it_s hw0 hw1]
            have hf : nuF L w (nxF L w j) 0 9 = false := lt_nu.mp h81
            rw [if_neg (by rw [hf]; decide)] at T74
            have e : smR L w s (nxF L w j) = (false, s, (nxF L w j)) := by unfold smR; rw [if_neg (by rw [hf]; decide)]
            rw [e]
            exact ⟨rfl, g74, v74, T74, rfl⟩
          refine x_iconst (q := 109) (v := 1) dX5_readsItem_108 rfl (by decide) ?_
          refine x_goto (q := 113) dX5_readsItem_109 (by decide) ?_
          refine x_ireturn dX5_readsItem_113 rfl (by decide) ?_
          exact absurd h81 h105
        have hu2 : nuF L w (nxF L w j) 0 9 = true := by
          cases e : nuF L w (nxF L w j) 0 9 with
          | true => rfl
          | false => exact absurd (lt_nu.mpr e) h81
        rw [if_pos hu2] at T74
        rw [if_pos hu2]
        have hv2 := nvF_le (L := L) (w := w) (j := (nxF L w j))
        refine x_aload_n (q := 85) dX5_readsItem_84 rfl rfl ?_
        refine x_getR (q := 88) dX5_readsItem_85 rfl fl_X5_9 (or5_s) ?_
        refine x_iload_n (q := 89) dX5_readsItem_88 rfl rfl ?_
        refine x_if_ne (q := 92) (t := 99) dX5_readsItem_89 rfl (by decide) (fun _ => ?_) (fun h => absurd h (by decide))
        refine x_iconst (q := 100) (v := 5) dX5_readsItem_99 rfl (by decide) ?_
        refine x_iload (q := 102) dX5_readsItem_100 rfl rfl ?_
        refine x_iastr (q := 103) dX5_readsItem_102 rfl (ar_50) (ix_nI (k := 5) (by decide) (by decide)) (Nat.zero_add _)  ?_
        refine x_iload (q := 105) dX5_readsItem_103 rfl rfl ?_
        refine x_if_lt (q := 108) (t := 112) dX5_readsItem_105 rfl (by decide) (fun h105 => ?_) (fun h105 => ?_)
        · refine x_iconst (q := 113) (v := 0) dX5_readsItem_112 rfl (by decide) ?_
          refine x_ireturn dX5_readsItem_113 rfl (by decide) ?_
          exact absurd h105 (jnI_nneg (by omega))
        refine x_iconst (q := 109) (v := 1) dX5_readsItem_108 rfl (by decide) ?_
        refine x_goto (q := 113) dX5_readsItem_109 (by decide) ?_
        refine x_ireturn dX5_readsItem_113 rfl (by decide) ?_
        rw [it_s hw0 hw1]
        have e : smR L w s (nxF L w j) = (true, upd s 5 (nI (nvF L w (nxF L w j))), nxF L w (nxF L w j)) := by unfold smR; rw [if_pos hu2]
        rw [e]
        exact ⟨rfl, g74, v74, T74, rfl⟩
    refine x_iconst (q := 33) (v := 0) dX5_readsItem_32 rfl (by decide) ?_
    refine x_ireturn dX5_readsItem_33 rfl (by decide) ?_
    have z0 : isW L w j 0 = false := by
      cases e : isW L w j 0 with
      | false => rfl
      | true => exact absurd (by rw [show whF (fun c => isW L w j (wiO c)) 2 = nI 0 from (wo_is (by decide) (k := 0) (by decide) uO).mpr e]; decide) h29
    have z1 : isW L w j 1 = false := by
      cases e : isW L w j 1 with
      | false => rfl
      | true => exact absurd (by rw [show whF (fun c => isW L w j (wiO c)) 2 = nI 1 from (wo_is (by decide) (k := 1) (by decide) uO).mpr e]; decide) h29
    rw [it_n hno z0 z1]
    exact ⟨rfl, g, v, hT, rfl⟩
  obtain ⟨c, hc7, hcw, hce⟩ : ∃ c, c < 7 ∧ isW L w j (wiL c) = true ∧ whF (fun c => isW L w j (wiL c)) 7 = nI c := by
    rcases whF_cases (fun c => isW L w j (wiL c)) 7 with q | ⟨_, q⟩
    · exact q
    · exact absurd (m1_neg q) h10
  rw [hce]
  rw [it_k hc7 hcw]
  show XX _ _ _ _ _ _ _ _ _ _ _ (fun r1 m1 => r1 = some (.int (bI ((if cl (s 1) = 8 then (false, s, j) else pcF L w (cl (s 1)) c s j : Rd).1))) ∧ ∃ g1 v1, RS z3 L w ((if cl (s 1) = 8 then (false, s, j) else pcF L w (cl (s 1)) c s j : Rd).2.2) g1 v1 ∧ m1 = sr (sr (st2 m (v1)) 49 (g1)) 50 ((if cl (s 1) = 8 then (false, s, j) else pcF L w (cl (s 1)) c s j : Rd).2.1))
  by_cases h88 : n8 = 8
  · subst h88
    rw [if_pos hcl]
    refine x_aload_n (q := 14) dX5_readsItem_13 rfl rfl ?_
    refine x_iload_n (q := 15) dX5_readsItem_14 rfl rfl ?_
    refine x_callV1v (q := 18) dX5_readsItem_15 rfl ml_X5_222 mv_X5_readsParcel rv5 rfl (c_X5_readsParcelN hn) (Nat.le_of_ble_eq_true rfl) ⟨by decide, by decide⟩ ?_
    refine x_ireturn dX5_readsItem_18 rfl (bI_narrow _) ?_
    exact ⟨rfl, g, v, hT, rfl⟩
  have h8l : n8 < 8 := by omega
  rw [hcl, if_neg h88]
  refine x_aload_n (q := 14) dX5_readsItem_13 rfl rfl ?_
  refine x_iload_n (q := 15) dX5_readsItem_14 rfl rfl ?_
  refine x_callV1i (q := 18) dX5_readsItem_15 rfl ml_X5_222 mv_X5_readsParcel rv5 rfl (c_X5_readsParcel hT hL2 hj hB hM hn h8l) (Nat.le_of_ble_eq_true rfl) ⟨by decide, by decide⟩ (fun m9 h9 => ?_)
  obtain ⟨g15, v15, T15, rfl⟩ := h9
  refine x_ireturn dX5_readsItem_18 rfl (bI_narrow _) ?_
  exact ⟨rfl, g15, v15, T15, rfl⟩
def tgF (L : Nat) (w : Nat → Int32) (f n : Nat) (r : Rd) : Bool × Nat × (Nat → Int32) := if r.1 = true then (if soF L w r.2.2 = 0 then (true, n, r.2.1) else if soF L w r.2.2 = 3 then tlF L w f (n + 1) r.2.1 (nxF L w r.2.2) else (false, r.2.2, r.2.1)) else (false, r.2.2, r.2.1)
theorem tl_tg {L f n j : Nat} {w s : Nat → Int32} : tlF L w (f + 1) n s j = tgF L w f n (itF L w s j) := rfl
theorem dX5_text_0 : decode cX5_text 0 = .ok (.aload_n 0, 1) := by decide +kernel
theorem dX5_text_1 : decode cX5_text 1 = .ok (.invokevirtual 124, 3) := by decide +kernel
theorem dX5_text_4 : decode cX5_text 4 = .ok (.aload_n 0, 1) := by decide +kernel
theorem dX5_text_5 : decode cX5_text 5 = .ok (.iconst 0, 1) := by decide +kernel
theorem dX5_text_6 : decode cX5_text 6 = .ok (.putfield 181, 3) := by decide +kernel
theorem dX5_text_9 : decode cX5_text 9 = .ok (.aload_n 0, 1) := by decide +kernel
theorem dX5_text_10 : decode cX5_text 10 = .ok (.invokevirtual 212, 3) := by decide +kernel
theorem dX5_text_13 : decode cX5_text 13 = .ok (.iconst 1, 1) := by decide +kernel
theorem dX5_text_14 : decode cX5_text 14 = .ok (.istore_n 1, 1) := by decide +kernel
theorem dX5_text_15 : decode cX5_text 15 = .ok (.aload_n 0, 1) := by decide +kernel
theorem dX5_text_16 : decode cX5_text 16 = .ok (.invokevirtual 225, 3) := by decide +kernel
theorem dX5_text_19 : decode cX5_text 19 = .ok (.istore_n 2, 1) := by decide +kernel
theorem dX5_text_20 : decode cX5_text 20 = .ok (.iload_n 2, 1) := by decide +kernel
theorem dX5_text_21 : decode cX5_text 21 = .ok (.ifCond .eq 26, 3) := by decide +kernel
theorem dX5_text_24 : decode cX5_text 24 = .ok (.aload_n 0, 1) := by decide +kernel
theorem dX5_text_25 : decode cX5_text 25 = .ok (.getfield 191, 3) := by decide +kernel
theorem dX5_text_28 : decode cX5_text 28 = .ok (.iconst 3, 1) := by decide +kernel
theorem dX5_text_29 : decode cX5_text 29 = .ok (.if_icmp .ne 18, 3) := by decide +kernel
theorem dX5_text_32 : decode cX5_text 32 = .ok (.aload_n 0, 1) := by decide +kernel
theorem dX5_text_33 : decode cX5_text 33 = .ok (.invokevirtual 212, 3) := by decide +kernel
theorem dX5_text_36 : decode cX5_text 36 = .ok (.aload_n 0, 1) := by decide +kernel
theorem dX5_text_37 : decode cX5_text 37 = .ok (.invokevirtual 225, 3) := by decide +kernel
theorem dX5_text_40 : decode cX5_text 40 = .ok (.istore_n 2, 1) := by decide +kernel
theorem dX5_text_41 : decode cX5_text 41 = .ok (.iinc 1 1, 3) := by decide +kernel
theorem dX5_text_44 : decode cX5_text 44 = .ok (.goto (-24), 3) := by decide +kernel
theorem dX5_text_47 : decode cX5_text 47 = .ok (.iload_n 2, 1) := by decide +kernel
theorem dX5_text_48 : decode cX5_text 48 = .ok (.ifCond .eq 14, 3) := by decide +kernel
theorem dX5_text_51 : decode cX5_text 51 = .ok (.aload_n 0, 1) := by decide +kernel
theorem dX5_text_52 : decode cX5_text 52 = .ok (.getfield 191, 3) := by decide +kernel
theorem dX5_text_55 : decode cX5_text 55 = .ok (.ifCond .ne 7, 3) := by decide +kernel
theorem dX5_text_58 : decode cX5_text 58 = .ok (.iconst 1, 1) := by decide +kernel
theorem dX5_text_59 : decode cX5_text 59 = .ok (.goto 4, 3) := by decide +kernel
theorem dX5_text_62 : decode cX5_text 62 = .ok (.iconst 0, 1) := by decide +kernel
theorem dX5_text_63 : decode cX5_text 63 = .ok (.istore_n 2, 1) := by decide +kernel
theorem dX5_text_64 : decode cX5_text 64 = .ok (.aload_n 0, 1) := by decide +kernel
theorem dX5_text_65 : decode cX5_text 65 = .ok (.iconst 0, 1) := by decide +kernel
theorem dX5_text_66 : decode cX5_text 66 = .ok (.putfield 177, 3) := by decide +kernel
theorem dX5_text_69 : decode cX5_text 69 = .ok (.iload_n 2, 1) := by decide +kernel
theorem dX5_text_70 : decode cX5_text 70 = .ok (.ifCond .ne 14, 3) := by decide +kernel
theorem dX5_text_73 : decode cX5_text 73 = .ok (.aload_n 0, 1) := by decide +kernel
theorem dX5_text_74 : decode cX5_text 74 = .ok (.invokevirtual 127, 3) := by decide +kernel
theorem dX5_text_77 : decode cX5_text 77 = .ok (.iconst (-1), 1) := by decide +kernel
theorem dX5_text_78 : decode cX5_text 78 = .ok (.aload_n 0, 1) := by decide +kernel
theorem dX5_text_79 : decode cX5_text 79 = .ok (.getfield 184, 3) := by decide +kernel
theorem dX5_text_82 : decode cX5_text 82 = .ok (.isub, 1) := by decide +kernel
theorem dX5_text_83 : decode cX5_text 83 = .ok (.ireturn, 1) := by decide +kernel
theorem dX5_text_84 : decode cX5_text 84 = .ok (.iload_n 1, 1) := by decide +kernel
theorem dX5_text_85 : decode cX5_text 85 = .ok (.ireturn, 1) := by decide +kernel
set_option maxRecDepth 20000 in
set_option maxHeartbeats 4000000 in
theorem l_X5_text {K : Cx} {L : Nat} {w z : Nat → Int32} {z3 : Int32} {m : TM} {T : Bool × Nat × (Nat → Int32)} (hL2 : L ≤ 120) (hB : ∀ i, i < L → BB (w i) (m.1 54 i)) (hC : ∀ i, i < 70 → m.1 55 i = ltL.getD i 0) (hM : ∀ i, i < 40 → m.1 56 i = moL.getD i 0) (hO : ∀ i, i < 20 → m.1 57 i = otL.getD i 0) (hz : m.1 52 = z) : ∀ (fu : Nat) (r : Rd) (n f : Nat) (g : Nat → Int32) (v : Int64), L - r.2.2 < fu → RS z3 L w r.2.2 g v → r.2.2 ≤ L → L - r.2.2 ≤ f → (∃ n8, Iv n8 r.2.1) → tgF L w f n r = T → XX RX5 cX5_text 3 (some .int) 6 133 K 20 [some (.ref 49), some (.int (nI n)), some (.int (bI r.1))] [] (sr (sr (st2 m (v)) 49 (g)) 50 (r.2.1)) (fun r1 m1 => r1 = some (.int (anT T)) ∧ ∃ g1 v1, g1 6 = 0 ∧ g1 3 = z3 ∧ m1 = sr (sr (st2 m (v1)) 49 (g1)) 50 (if T.1 = true then T.2.2 else z)) := by
  intro fu
  induction fu with
  | zero => intro r n f g v hlt; exact absurd hlt (Nat.not_lt_zero _)
  | succ fu ih =>
    intro r n f g v hlt hT hj hf hI hs
    obtain ⟨n8, hI⟩ := hI
    have hnj := (nxF_le (w := w) hj).2
    refine x_iload_n (q := 21) dX5_text_20 rfl rfl ?_
    refine x_ifB_eq (q := 24) (t := 47) dX5_text_21 rfl (by decide) (fun h21 => ?_) (fun h21 => ?_)
    · refine x_iload_n (q := 48) dX5_text_47 rfl rfl ?_
      refine x_ifB_eq (q := 51) (t := 62) dX5_text_48 rfl (by decide) (fun h48 => ?_) (fun h48 => ?_)
      · refine x_iconst (q := 63) (v := 0) dX5_text_62 rfl (by decide) ?_
        refine x_istore_n (q := 64) dX5_text_63 rfl (by decide) rfl rfl ?_
        refine x_aload_n (q := 65) dX5_text_64 rfl rfl ?_
        refine x_iconst (q := 66) (v := 0) dX5_text_65 rfl (by decide) ?_
        refine x_putI (q := 69) dX5_text_66 rfl fl_X5_177 (ob5_taped) rfl rfl rfl rfl ?_
        rw [rmp]
        refine x_iload_n (q := 70) dX5_text_69 rfl rfl ?_
        refine x_if_ne (q := 73) (t := 84) dX5_text_70 rfl (by decide) (fun h => absurd rfl h) (fun _ => ?_)
        refine x_aload_n (q := 74) dX5_text_73 rfl rfl ?_
        refine x_callV0n (q := 77) dX5_text_74 rfl ml_X5_127 mv_X5_laysBack rv5 rfl c_X5_laysBack (Nat.le_of_ble_eq_true rfl) ⟨by decide, by decide⟩ ?_
        rw [rmo (by decide) (by decide), sr_sr, hz]
        refine x_iconst (q := 78) (v := (-1)) dX5_text_77 rfl (by decide) ?_
        refine x_aload_n (q := 79) dX5_text_78 rfl rfl ?_
        refine x_getI (q := 82) dX5_text_79 rfl fl_X5_184 (ob5_begun) ?_
        rw [rm49, upd_ne (by decide), hT.2.2.1]
        refine x_isub (q := 83) dX5_text_82 rfl ?_
        refine x_ireturn dX5_text_83 rfl rfl ?_
        have e : tgF L w f n r = (false, r.2.2, r.2.1) := by unfold tgF; rw [if_neg (by rw [h48]; decide)]
        rw [e] at hs
        subst hs
        exact ⟨rfl, _, _, upd_self, (by rw [upd_ne (by decide)]; exact hT.2.2.2.2.2.2), rfl⟩
      exact absurd (h21.symm.trans h48) Bool.false_ne_true
    refine x_aload_n (q := 25) dX5_text_24 rfl rfl ?_
    refine x_getI (q := 28) dX5_text_25 rfl fl_X5_191 (ob5_token) ?_
    rw [rm49, hT.2.1]
    refine x_iconst (q := 29) (v := 3) dX5_text_28 rfl (by decide) ?_
    refine x_icmp_ne (q := 32) (t := 47) dX5_text_29 rfl (by decide) (fun h29 => ?_) (fun h29 => ?_)
    · refine x_iload_n (q := 48) dX5_text_47 rfl rfl ?_
      refine x_ifB_eq (q := 51) (t := 62) dX5_text_48 rfl (by decide) (fun h48 => ?_) (fun h48 => ?_)
      · refine x_iconst (q := 63) (v := 0) dX5_text_62 rfl (by decide) ?_
        refine x_istore_n (q := 64) dX5_text_63 rfl (by decide) rfl rfl ?_
        refine x_aload_n (q := 65) dX5_text_64 rfl rfl ?_
        refine x_iconst (q := 66) (v := 0) dX5_text_65 rfl (by decide) ?_
        refine x_putI (q := 69) dX5_text_66 rfl fl_X5_177 (ob5_taped) rfl rfl rfl rfl ?_
        rw [rmp]
        refine x_iload_n (q := 70) dX5_text_69 rfl rfl ?_
        refine x_if_ne (q := 73) (t := 84) dX5_text_70 rfl (by decide) (fun h => absurd rfl h) (fun _ => ?_)
        refine x_aload_n (q := 74) dX5_text_73 rfl rfl ?_
        refine x_callV0n (q := 77) dX5_text_74 rfl ml_X5_127 mv_X5_laysBack rv5 rfl c_X5_laysBack (Nat.le_of_ble_eq_true rfl) ⟨by decide, by decide⟩ ?_
        rw [rmo (by decide) (by decide), sr_sr, hz]
        refine x_iconst (q := 78) (v := (-1)) dX5_text_77 rfl (by decide) ?_
        refine x_aload_n (q := 79) dX5_text_78 rfl rfl ?_
        refine x_getI (q := 82) dX5_text_79 rfl fl_X5_184 (ob5_begun) ?_
        rw [rm49, upd_ne (by decide), hT.2.2.1]
        refine x_isub (q := 83) dX5_text_82 rfl ?_
        refine x_ireturn dX5_text_83 rfl rfl ?_
        have e : tgF L w f n r = (false, r.2.2, r.2.1) := by unfold tgF; rw [if_neg (by rw [h48]; decide)]
        rw [e] at hs
        subst hs
        exact ⟨rfl, _, _, upd_self, (by rw [upd_ne (by decide)]; exact hT.2.2.2.2.2.2), rfl⟩
      refine x_aload_n (q := 52) dX5_text_51 rfl rfl ?_
      refine x_getI (q := 55) dX5_text_52 rfl fl_X5_191 (ob5_token) ?_
      rw [rm49, hT.2.1]
      refine x_if_ne (q := 58) (t := 62) dX5_text_55 rfl (by decide) (fun h55 => ?_) (fun h55 => ?_)
      · refine x_iconst (q := 63) (v := 0) dX5_text_62 rfl (by decide) ?_
        refine x_istore_n (q := 64) dX5_text_63 rfl (by decide) rfl rfl ?_
        refine x_aload_n (q := 65) dX5_text_64 rfl rfl ?_
        refine x_iconst (q := 66) (v := 0) dX5_text_65 rfl (by decide) ?_
        refine x_putI (q := 69) dX5_text_66 rfl fl_X5_177 (ob5_taped) rfl rfl rfl rfl ?_
        rw [rmp]
        refine x_iload_n (q := 70) dX5_text_69 rfl rfl ?_
        refine x_if_ne (q := 73) (t := 84) dX5_text_70 rfl (by decide) (fun h => absurd rfl h) (fun _ => ?_)
        refine x_aload_n (q := 74) dX5_text_73 rfl rfl ?_
        refine x_callV0n (q := 77) dX5_text_74 rfl ml_X5_127 mv_X5_laysBack rv5 rfl c_X5_laysBack (Nat.le_of_ble_eq_true rfl) ⟨by decide, by decide⟩ ?_
        rw [rmo (by decide) (by decide), sr_sr, hz]
        refine x_iconst (q := 78) (v := (-1)) dX5_text_77 rfl (by decide) ?_
        refine x_aload_n (q := 79) dX5_text_78 rfl rfl ?_
        refine x_getI (q := 82) dX5_text_79 rfl fl_X5_184 (ob5_begun) ?_
        rw [rm49, upd_ne (by decide), hT.2.2.1]
        refine x_isub (q := 83) dX5_text_82 rfl ?_
        refine x_ireturn dX5_text_83 rfl rfl ?_
        have e : tgF L w f n r = (false, r.2.2, r.2.1) := by unfold tgF; rw [if_pos h48, if_neg (fun q => h55 (tk_0.mpr q)), if_neg (fun q => h29 (tk_3.mpr q))]
        rw [e] at hs
        subst hs
        exact ⟨rfl, _, _, upd_self, (by rw [upd_ne (by decide)]; exact hT.2.2.2.2.2.2), rfl⟩
      refine x_iconst (q := 59) (v := 1) dX5_text_58 rfl (by decide) ?_
      refine x_goto (q := 63) dX5_text_59 (by decide) ?_
      refine x_istore_n (q := 64) dX5_text_63 rfl (by decide) rfl rfl ?_
      refine x_aload_n (q := 65) dX5_text_64 rfl rfl ?_
      refine x_iconst (q := 66) (v := 0) dX5_text_65 rfl (by decide) ?_
      refine x_putI (q := 69) dX5_text_66 rfl fl_X5_177 (ob5_taped) rfl rfl rfl rfl ?_
      rw [rmp]
      refine x_iload_n (q := 70) dX5_text_69 rfl rfl ?_
      refine x_if_ne (q := 73) (t := 84) dX5_text_70 rfl (by decide) (fun _ => ?_) (fun h => absurd h (by decide))
      refine x_iload_n (q := 85) dX5_text_84 rfl rfl ?_
      refine x_ireturn dX5_text_85 rfl rfl ?_
      have e : tgF L w f n r = (true, n, r.2.1) := by unfold tgF; rw [if_pos h48, if_pos (tk_0.mp h55)]
      rw [e] at hs
      subst hs
      exact ⟨rfl, _, _, upd_self, (by rw [upd_ne (by decide)]; exact hT.2.2.2.2.2.2), rfl⟩
    have hlt := nxF_gt (L := L) (w := w) (j := r.2.2) (by rw [tk_3.mp h29]; decide)
    obtain ⟨f, rfl⟩ : ∃ q, f = q + 1 := ⟨f - 1, by omega⟩
    refine x_aload_n (q := 33) dX5_text_32 rfl rfl ?_
    refine x_callV0u (q := 36) dX5_text_33 rfl ml_X5_212 mv_X5_nextToken rv5 rfl (c_X5_nextM hT hL2 hj hB) (Nat.le_of_ble_eq_true rfl) ⟨by decide, by decide⟩ (fun m9 h9 => ?_)
    obtain ⟨g33, v33, T33, rfl⟩ := h9
    refine x_aload_n (q := 37) dX5_text_36 rfl rfl ?_
    refine x_callV0i (q := 40) dX5_text_37 rfl ml_X5_225 mv_X5_readsItem rv5 rfl (c_X5_readsItem T33 hL2 hnj hB hC hM hO hI.2.1 hI.1) (Nat.le_of_ble_eq_true rfl) ⟨by decide, by decide⟩ (fun m9 h9 => ?_)
    obtain ⟨g37, v37, T37, rfl⟩ := h9
    refine x_istore_n (q := 41) dX5_text_40 rfl (by decide) rfl rfl ?_
    refine x_iinc (q := 44) (v := nI (n + 1)) dX5_text_41 rfl rfl (jnI_s n) (by decide) rfl rfl ?_
    refine x_goto (q := 20) dX5_text_44 (by decide) ?_
    have e : tgF L w (f + 1) n r = tgF L w f (n + 1) (itF L w r.2.1 (nxF L w r.2.2)) := by rw [← tl_tg]; unfold tgF; rw [if_pos h21, if_neg (by rw [tk_3.mp h29]; decide), if_pos (tk_3.mp h29)]
    rw [e] at hs
    obtain ⟨n9, hI9⟩ := it_rel (L := L) (w := w) (j := nxF L w r.2.2) (s := r.2.1) (u := r.2.1) ⟨hI, Eqv.rf⟩
    have hle := it_le (L := L) (w := w) (s := r.2.1) hnj
    exact x_ls (ih (itF L w r.2.1 (nxF L w r.2.2)) (n + 1) f g37 v37 (by omega) T37 hle.2.1 (by omega) ⟨n9, hI9.2.1.1⟩ hs) (And.intro rfl (And.intro rfl (And.intro rfl trivial)))
theorem txt0 {m : TM} {z g : Nat → Int32} {v : Int64} {x : Int32} : sr (st2 (st1 (sr m 52 z) 49 9 x) v) 49 g = sr (sr (st2 (sr m 52 z) v) 49 g) 50 (m.1 50) := by
  have h : m.1 50 = (sr (st2 (sr m 52 z) v) 49 g).1 50 := by
    rw [sr_ne (by decide)]
    show m.1 50 = (sr m 52 z).1 50
    rw [sr_ne (by decide)]
  rw [h, sr_self, st1_eq]
  show sr (sr (st2 (sr m 52 z) v) 49 _) 49 g = _
  rw [sr_sr]
set_option maxRecDepth 20000 in
set_option maxHeartbeats 4000000 in
theorem c_X5_text {K : Cx} {L n8 : Nat} {w : Nat → Int32} {m : TM} (hL : m.1 49 6 = nI L) (hL2 : L ≤ 120) (hI : Iv n8 (m.1 50)) (hB : ∀ i, i < L → BB (w i) (m.1 54 i)) (hC : ∀ i, i < 70 → m.1 55 i = ltL.getD i 0) (hM : ∀ i, i < 40 → m.1 56 i = moL.getD i 0) (hO : ∀ i, i < 20 → m.1 57 i = otL.getD i 0) : CQ yX5_text cX5_text 3 (some .int) 6 133 K [.ref 49] (m) (fun r1 m1 => r1 = some (.int (anT (tlF L w 121 1 (m.1 50) (nxE L w 0)))) ∧ ∃ g1 v1, g1 6 = 0 ∧ g1 3 = m.1 49 3 ∧ m1 = sr (sr (st2 (sr m 52 (m.1 50)) v1) 49 g1) 50 (if (tlF L w 121 1 (m.1 50) (nxE L w 0)).1 = true then (tlF L w 121 1 (m.1 50) (nxE L w 0)).2.2 else m.1 50)) := by
  refine ct_ofq (n := 2) (by decide +kernel) rfl rfl ?_
  show XX RX5 cX5_text 3 (some .int) 6 133 K 0 [some (.ref 49), none, none] [] (m) (fun r1 m1 => r1 = some (.int (anT (tlF L w 121 1 (m.1 50) (nxE L w 0)))) ∧ ∃ g1 v1, g1 6 = 0 ∧ g1 3 = m.1 49 3 ∧ m1 = sr (sr (st2 (sr m 52 (m.1 50)) v1) 49 g1) 50 (if (tlF L w 121 1 (m.1 50) (nxE L w 0)).1 = true then (tlF L w 121 1 (m.1 50) (nxE L w 0)).2.2 else m.1 50))
  have hB1 : ∀ i, i < L → BB (w i) ((sr m 52 (m.1 50)).1 54 i) := by rw [sr_ne (by decide)]; exact hB
  have hC1 : ∀ i, i < 70 → (sr m 52 (m.1 50)).1 55 i = ltL.getD i 0 := by rw [sr_ne (by decide)]; exact hC
  have hM1 : ∀ i, i < 40 → (sr m 52 (m.1 50)).1 56 i = moL.getD i 0 := by rw [sr_ne (by decide)]; exact hM
  have hO1 : ∀ i, i < 20 → (sr m 52 (m.1 50)).1 57 i = otL.getD i 0 := by rw [sr_ne (by decide)]; exact hO
  have hn0 := (nxE_le (L := L) (w := w) (e := 0) (Nat.zero_le _)).2
  refine x_aload_n (q := 1) dX5_text_0 rfl rfl ?_
  refine x_callV0n (q := 4) dX5_text_1 rfl ml_X5_124 mv_X5_setsAside rv5 rfl c_X5_setsAside (Nat.le_of_ble_eq_true rfl) ⟨by decide, by decide⟩ ?_
  refine x_aload_n (q := 5) dX5_text_4 rfl rfl ?_
  refine x_iconst (q := 6) (v := 0) dX5_text_5 rfl (by decide) ?_
  refine x_putI (q := 9) dX5_text_6 rfl fl_X5_181 (ob5_ended) rfl rfl rfl rfl ?_
  refine x_aload_n (q := 10) dX5_text_9 rfl rfl ?_
  refine x_callV0u (q := 13) dX5_text_10 rfl ml_X5_212 mv_X5_nextToken rv5 rfl (c_X5_nextToken (L := L) (e := 0) (w := w) (by rw [st1_eq, sr_at, upd_ne (by decide), sr_ne (by decide)]; exact hL) hL2 (by rw [st1_eq, sr_at]; exact upd_self) (Nat.zero_le _) (by rw [st1_eq, sr_ne (by decide)]; exact hB1)) (Nat.le_of_ble_eq_true rfl) ⟨by decide, by decide⟩ (fun m9 h9 => ?_)
  obtain ⟨g10, v10, T10, rfl⟩ := h9
  rw [txt0]
  rw [st1_eq, sr_at, upd_ne (by decide), sr_ne (by decide)] at T10
  refine x_iconst (q := 14) (v := 1) dX5_text_13 rfl (by decide) ?_
  refine x_istore_n (q := 15) dX5_text_14 rfl (by decide) rfl rfl ?_
  refine x_aload_n (q := 16) dX5_text_15 rfl rfl ?_
  refine x_callV0i (q := 19) dX5_text_16 rfl ml_X5_225 mv_X5_readsItem rv5 rfl (c_X5_readsItem T10 hL2 hn0 hB1 hC1 hM1 hO1 hI.2.1 hI.1) (Nat.le_of_ble_eq_true rfl) ⟨by decide, by decide⟩ (fun m9 h9 => ?_)
  obtain ⟨g16, v16, T16, rfl⟩ := h9
  refine x_istore_n (q := 20) dX5_text_19 rfl (by decide) rfl rfl ?_
  obtain ⟨n9, hI9⟩ := it_rel (L := L) (w := w) (j := nxE L w 0) (s := m.1 50) (u := m.1 50) ⟨hI, Eqv.rf⟩
  have hle := it_le (L := L) (w := w) (s := m.1 50) hn0
  exact x_ls (l_X5_text hL2 hB1 hC1 hM1 hO1 sr_at (L + 1) (itF L w (m.1 50) (nxE L w 0)) 1 120 g16 v16 (by omega) T16 hle.2.1 (by omega) ⟨n9, hI9.2.1.1⟩ rfl) (And.intro rfl (And.intro rfl (And.intro rfl trivial)))
