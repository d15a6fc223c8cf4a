/-! held back -/
def hbS (n8 : Nat) (L0 : Int32) : Nat → (Nat → Int32) → Int32 → Int32
  | 0, _, a => a
  | f + 1, u, a => if dyC u n8 4 = L0 then hbS n8 L0 f (dyC u n8) a else hbS n8 L0 f (upd (dyC u n8) 4 L0) (a ||| deF (dyC u n8) (thF u 0 n8 &&& thF (dyC u n8) 1 n8) n8)
theorem iv_late {n l : Nat} {u : Nat → Int32} {v : Int32} (h : Iv n u) (hl : l ≤ 9999) (hv : v = nI l) : Iv n (upd u 4 v) := by
  obtain ⟨h1, h2, h3, h4, h5, h6⟩ := h
  refine ⟨h1, ?_, ?_, ⟨l, hl, ?_⟩, fun k hk => ?_, fun j hj => ?_⟩
  · rw [upd_ne (by decide)]; exact h2
  · rw [upd_ne (by decide)]; exact h3
  · exact (if_pos rfl).trans hv
  · rw [upd_ne (by omega), upd_ne (by omega)]; exact h5 k hk
  · rw [upd_ne (by omega)]; exact h6 j hj
def hdF (s : Nat → Int32) (x : Nat) : Nat → Nat → Int32
  | 0 => s
  | j + 1 => upd (hdF s x j) (12 + 7 * j + 5) (hdF s x j (12 + 7 * j + 5) ||| (if x.testBit j = true then 1 else 0))
theorem hb_bit : ∀ j, j < 8 → ∀ x, x < 256 → ((nI x >>> (nI j &&& 31)) &&& 1) = if x.testBit j = true then (1 : Int32) else 0 := by decide +kernel
theorem hdF_iv {n x : Nat} {s : Nat → Int32} (h : Iv n s) : ∀ j, j ≤ n → Iv n (hdF s x j)
  | 0, _ => h
  | j + 1, hj => by
    have h2 := hdF_iv (x := x) h j (by omega)
    refine h2.upd_p (by omega) (by decide) (fun q => absurd q (by decide)) (fun _ => ?_)
    rcases (h2.2.2.2.2.1 j (by omega)).1 with e | e <;> rw [e] <;> split <;> decide
def lwF (s : Nat → Int32) (n8 N x : Nat) : Int32 := dysC n8 N (hdF s x n8) 4
def nx (lw : Nat → Int32) (L0 : Int32) (j : Nat) : Option Nat → Option Nat
  | none => if lw j = L0 then some j else none
  | some c => if bt 9 j < bt 9 c then (if lw j = L0 then some j else some c) else some c
def hbB (lw : Nat → Int32) (L0 : Int32) : Nat → Nat → Option Nat → Option Nat
  | 0, _, b => b
  | f + 1, j, b => hbB lw L0 f (j + 1) (nx lw L0 j b)
def bsI : Option Nat → Int32
  | none => -1
  | some c => nI c
theorem bt_le : ∀ f y, bt f y ≤ f
  | 0, _ => Nat.le_refl 0
  | f + 1, y => by
    have h := bt_le f (y &&& (y - 1))
    unfold bt
    split <;> omega
theorem sh_1 : ∀ n, n < 9 → (1 : Int32) <<< (nI n &&& 31) = nI (2 ^ n) := by decide +kernel
theorem p2_256 {n : Nat} (h : n ≤ 8) : 2 ^ n ≤ 256 := Nat.pow_le_pow_right (by decide) h
theorem dX4_holdBack_0 : decode cX4_holdBack 0 = .ok (.iload_n 1, 1) := by decide +kernel
theorem dX4_holdBack_1 : decode cX4_holdBack 1 = .ok (.iconst 0, 1) := by decide +kernel
theorem dX4_holdBack_2 : decode cX4_holdBack 2 = .ok (.bipush 20, 2) := by decide +kernel
theorem dX4_holdBack_4 : decode cX4_holdBack 4 = .ok (.invokestatic 44, 3) := by decide +kernel
theorem dX4_holdBack_7 : decode cX4_holdBack 7 = .ok (.ifCond .eq 10, 3) := by decide +kernel
theorem dX4_holdBack_10 : decode cX4_holdBack 10 = .ok (.aload_n 0, 1) := by decide +kernel
theorem dX4_holdBack_11 : decode cX4_holdBack 11 = .ok (.ldc 48, 2) := by decide +kernel
theorem dX4_holdBack_13 : decode cX4_holdBack 13 = .ok (.invokevirtual 49, 3) := by decide +kernel
theorem dX4_holdBack_16 : decode cX4_holdBack 16 = .ok (.ireturn, 1) := by decide +kernel
theorem dX4_holdBack_17 : decode cX4_holdBack 17 = .ok (.aload_n 0, 1) := by decide +kernel
theorem dX4_holdBack_18 : decode cX4_holdBack 18 = .ok (.getfield 16, 3) := by decide +kernel
theorem dX4_holdBack_21 : decode cX4_holdBack 21 = .ok (.aload_n 0, 1) := by decide +kernel
theorem dX4_holdBack_22 : decode cX4_holdBack 22 = .ok (.getfield 12, 3) := by decide +kernel
theorem dX4_holdBack_25 : decode cX4_holdBack 25 = .ok (.invokevirtual 129, 3) := by decide +kernel
theorem dX4_holdBack_28 : decode cX4_holdBack 28 = .ok (.iconst 0, 1) := by decide +kernel
theorem dX4_holdBack_29 : decode cX4_holdBack 29 = .ok (.istore_n 2, 1) := by decide +kernel
theorem dX4_holdBack_30 : decode cX4_holdBack 30 = .ok (.iconst 0, 1) := by decide +kernel
theorem dX4_holdBack_31 : decode cX4_holdBack 31 = .ok (.istore_n 3, 1) := by decide +kernel
theorem dX4_holdBack_32 : decode cX4_holdBack 32 = .ok (.iload_n 3, 1) := by decide +kernel
theorem dX4_holdBack_33 : decode cX4_holdBack 33 = .ok (.iload_n 1, 1) := by decide +kernel
theorem dX4_holdBack_34 : decode cX4_holdBack 34 = .ok (.if_icmp .ge 78, 3) := by decide +kernel
theorem dX4_holdBack_37 : decode cX4_holdBack 37 = .ok (.aload_n 0, 1) := by decide +kernel
theorem dX4_holdBack_38 : decode cX4_holdBack 38 = .ok (.getfield 16, 3) := by decide +kernel
theorem dX4_holdBack_41 : decode cX4_holdBack 41 = .ok (.iconst 0, 1) := by decide +kernel
theorem dX4_holdBack_42 : decode cX4_holdBack 42 = .ok (.invokevirtual 113, 3) := by decide +kernel
theorem dX4_holdBack_45 : decode cX4_holdBack 45 = .ok (.istore 4, 2) := by decide +kernel
theorem dX4_holdBack_47 : decode cX4_holdBack 47 = .ok (.aload_n 0, 1) := by decide +kernel
theorem dX4_holdBack_48 : decode cX4_holdBack 48 = .ok (.getfield 16, 3) := by decide +kernel
theorem dX4_holdBack_51 : decode cX4_holdBack 51 = .ok (.invokevirtual 136, 3) := by decide +kernel
theorem dX4_holdBack_54 : decode cX4_holdBack 54 = .ok (.aload_n 0, 1) := by decide +kernel
theorem dX4_holdBack_55 : decode cX4_holdBack 55 = .ok (.getfield 16, 3) := by decide +kernel
theorem dX4_holdBack_58 : decode cX4_holdBack 58 = .ok (.getfield 56, 3) := by decide +kernel
theorem dX4_holdBack_61 : decode cX4_holdBack 61 = .ok (.aload_n 0, 1) := by decide +kernel
theorem dX4_holdBack_62 : decode cX4_holdBack 62 = .ok (.getfield 12, 3) := by decide +kernel
theorem dX4_holdBack_65 : decode cX4_holdBack 65 = .ok (.getfield 56, 3) := by decide +kernel
theorem dX4_holdBack_68 : decode cX4_holdBack 68 = .ok (.if_icmp .eq 38, 3) := by decide +kernel
theorem dX4_holdBack_71 : decode cX4_holdBack 71 = .ok (.iload_n 2, 1) := by decide +kernel
theorem dX4_holdBack_72 : decode cX4_holdBack 72 = .ok (.aload_n 0, 1) := by decide +kernel
theorem dX4_holdBack_73 : decode cX4_holdBack 73 = .ok (.getfield 16, 3) := by decide +kernel
theorem dX4_holdBack_76 : decode cX4_holdBack 76 = .ok (.iload 4, 2) := by decide +kernel
theorem dX4_holdBack_78 : decode cX4_holdBack 78 = .ok (.aload_n 0, 1) := by decide +kernel
theorem dX4_holdBack_79 : decode cX4_holdBack 79 = .ok (.getfield 16, 3) := by decide +kernel
theorem dX4_holdBack_82 : decode cX4_holdBack 82 = .ok (.iconst 1, 1) := by decide +kernel
theorem dX4_holdBack_83 : decode cX4_holdBack 83 = .ok (.invokevirtual 113, 3) := by decide +kernel
theorem dX4_holdBack_86 : decode cX4_holdBack 86 = .ok (.iand, 1) := by decide +kernel
theorem dX4_holdBack_87 : decode cX4_holdBack 87 = .ok (.invokevirtual 153, 3) := by decide +kernel
theorem dX4_holdBack_90 : decode cX4_holdBack 90 = .ok (.ior, 1) := by decide +kernel
theorem dX4_holdBack_91 : decode cX4_holdBack 91 = .ok (.istore_n 2, 1) := by decide +kernel
theorem dX4_holdBack_92 : decode cX4_holdBack 92 = .ok (.aload_n 0, 1) := by decide +kernel
theorem dX4_holdBack_93 : decode cX4_holdBack 93 = .ok (.getfield 16, 3) := by decide +kernel
theorem dX4_holdBack_96 : decode cX4_holdBack 96 = .ok (.aload_n 0, 1) := by decide +kernel
theorem dX4_holdBack_97 : decode cX4_holdBack 97 = .ok (.getfield 12, 3) := by decide +kernel
theorem dX4_holdBack_100 : decode cX4_holdBack 100 = .ok (.getfield 56, 3) := by decide +kernel
theorem dX4_holdBack_103 : decode cX4_holdBack 103 = .ok (.putfield 56, 3) := by decide +kernel
theorem dX4_holdBack_106 : decode cX4_holdBack 106 = .ok (.iinc 3 1, 3) := by decide +kernel
theorem dX4_holdBack_109 : decode cX4_holdBack 109 = .ok (.goto (-77), 3) := by decide +kernel
theorem dX4_holdBack_112 : decode cX4_holdBack 112 = .ok (.iload_n 2, 1) := by decide +kernel
theorem dX4_holdBack_113 : decode cX4_holdBack 113 = .ok (.ireturn, 1) := by decide +kernel
set_option maxRecDepth 20000 in
set_option maxHeartbeats 4000000 in
theorem l_X4_holdBack {K : Cx} {n8 N l : Nat} {m : TM} (hN : N ≤ 20) (hl : l ≤ 9999) (el : m.1 1 4 = nI l) : ∀ (fu : Nat) (j : Nat) (u : Nat → Int32) (a : Int32), N - j < fu → j ≤ N → Iv n8 u → XX RX4 cX4_holdBack 5 (some .int) 4 87 K 32 [some (.ref 0), some (.int (nI N)), some (.int a), some (.int (nI j)), none] [] (sr m 13 u) (fun r1 m1 => ∃ X, r1 = some (.int (hbS n8 (m.1 1 4) (N - j) (u) (a))) ∧ m1 = sr m 13 X) := by
  intro fu
  induction fu with
  | zero => intro j u a hlt; exact absurd hlt (Nat.not_lt_zero _)
  | succ fu ih =>
    intro j u a hlt hj hI
    refine x_iload_n (q := 33) dX4_holdBack_32 rfl rfl ?_
    refine x_iload_n (q := 34) dX4_holdBack_33 rfl rfl ?_
    refine x_icmp_ge (q := 37) (t := 112) dX4_holdBack_34 rfl (by decide) (fun h34 => ?_) (fun h34 => ?_)
    · refine x_iload_n (q := 113) dX4_holdBack_112 rfl rfl ?_
      refine x_ireturn dX4_holdBack_113 rfl rfl ?_
      have e : N - j = 0 := by
        have := lp_stop rfl (by omega) (by omega) h34
        omega
      rw [e]
      exact ⟨u, rfl, rfl⟩
    have hjN : j < N := lp_go rfl (by omega) (by omega) h34
    have e1 : N - j = (N - (j + 1)) + 1 := by omega
    rw [e1]
    simp only [hbS]
    refine x_aload_n (q := 38) dX4_holdBack_37 rfl rfl ?_
    refine x_getR (q := 41) dX4_holdBack_38 rfl fl_X4_16 (or4_trial) ?_
    refine x_iconst (q := 42) (v := 0) dX4_holdBack_41 rfl (by decide) ?_
    refine x_callV1v (q := 45) dX4_holdBack_42 rfl ml_X4_113 mv_X0_allThatAre (rv0 isC_13) rfl (c_X0_allThatAre isC_13 hI.2.1 hI.1) (Nat.le_of_ble_eq_true rfl) ⟨by decide, by decide⟩ ?_
    refine x_istore (q := 47) dX4_holdBack_45 rfl (by decide) rfl rfl ?_
    refine x_aload_n (q := 48) dX4_holdBack_47 rfl rfl ?_
    refine x_getR (q := 51) dX4_holdBack_48 rfl fl_X4_16 (or4_trial) ?_
    refine x_callV0n (q := 54) dX4_holdBack_51 rfl ml_X4_136 mv_X0_passDay (rv0 isC_13) rfl (c_X0_passDay isC_13 hI.2.1 hI.1 hI.td) (Nat.le_of_ble_eq_true rfl) ⟨by decide, by decide⟩ ?_
    refine x_aload_n (q := 55) dX4_holdBack_54 rfl rfl ?_
    refine x_getR (q := 58) dX4_holdBack_55 rfl fl_X4_16 (or4_trial) ?_
    refine x_getIr (q := 61) dX4_holdBack_58 rfl fl_X4_56 (ob0_late isC_13) ?_
    refine x_aload_n (q := 62) dX4_holdBack_61 rfl rfl ?_
    refine x_getR (q := 65) dX4_holdBack_62 rfl fl_X4_12 (or4_coast) ?_
    refine x_getI (q := 68) dX4_holdBack_65 rfl fl_X4_56 (ob0_late isC_1) ?_
    rw [sr_ne (by decide)]
    refine x_icmp_eq (q := 71) (t := 106) dX4_holdBack_68 rfl (by decide) (fun h68 => ?_) (fun h68 => ?_)
    · refine x_iinc (q := 109) (v := nI (j + 1)) dX4_holdBack_106 rfl rfl (jnI_s j) (by decide) rfl rfl ?_
      refine x_goto (q := 32) dX4_holdBack_109 (by decide) ?_
      rw [if_pos h68]
      exact x_ls (ih (j + 1) (dyC u n8) a (by omega) (by omega) hI.day) (And.intro rfl (And.intro rfl (And.intro rfl (And.intro rfl trivial))))
    refine x_iload_n (q := 72) dX4_holdBack_71 rfl rfl ?_
    refine x_aload_n (q := 73) dX4_holdBack_72 rfl rfl ?_
    refine x_getR (q := 76) dX4_holdBack_73 rfl fl_X4_16 (or4_trial) ?_
    refine x_iload (q := 78) dX4_holdBack_76 rfl rfl ?_
    refine x_aload_n (q := 79) dX4_holdBack_78 rfl rfl ?_
    refine x_getR (q := 82) dX4_holdBack_79 rfl fl_X4_16 (or4_trial) ?_
    refine x_iconst (q := 83) (v := 1) dX4_holdBack_82 rfl (by decide) ?_
    refine x_callV1v (q := 86) dX4_holdBack_83 rfl ml_X4_113 mv_X0_allThatAre (rv0 isC_13) rfl (c_X0_allThatAre isC_13 hI.day.2.1 hI.1) (Nat.le_of_ble_eq_true rfl) ⟨by decide, by decide⟩ ?_
    refine x_iand (q := 87) dX4_holdBack_86 rfl ?_
    refine x_callV1v (q := 90) dX4_holdBack_87 rfl ml_X4_153 mv_X0_delaying (rv0 isC_13) rfl (c_X0_delaying isC_13 hI.day.2.1 hI.1) (Nat.le_of_ble_eq_true rfl) ⟨by decide, by decide⟩ ?_
    refine x_ior (q := 91) dX4_holdBack_90 rfl ?_
    refine x_istore_n (q := 92) dX4_holdBack_91 rfl (by decide) rfl rfl ?_
    refine x_aload_n (q := 93) dX4_holdBack_92 rfl rfl ?_
    refine x_getR (q := 96) dX4_holdBack_93 rfl fl_X4_16 (or4_trial) ?_
    refine x_aload_n (q := 97) dX4_holdBack_96 rfl rfl ?_
    refine x_getR (q := 100) dX4_holdBack_97 rfl fl_X4_12 (or4_coast) ?_
    refine x_getI (q := 103) dX4_holdBack_100 rfl fl_X4_56 (ob0_late isC_1) ?_
    rw [sr_ne (by decide)]
    refine x_putIr (q := 106) dX4_holdBack_103 rfl fl_X4_56 (ob0_late isC_13) rfl rfl rfl  ?_
    refine x_iinc (q := 109) (v := nI (j + 1)) dX4_holdBack_106 rfl rfl (jnI_s j) (by decide) rfl rfl ?_
    refine x_goto (q := 32) dX4_holdBack_109 (by decide) ?_
    rw [if_neg h68]
    exact x_ls (ih (j + 1) _ _ (by omega) (by omega) (iv_late hI.day hl el)) (And.intro rfl (And.intro rfl (And.intro rfl (And.intro rfl trivial))))
set_option maxRecDepth 20000 in
set_option maxHeartbeats 4000000 in
theorem c_X4_holdBackB {K : Cx} {x : Int32} {m : TM} (hb : outI x 0 20 = true) : CT yX4_holdBack cX4_holdBack 5 (some .int) 4 87 K [.ref 0, .int x] (m) (some (.int (-1000001))) (fnd m 0) := by
  refine ct_ofd (n := 3) (by decide +kernel) rfl rfl ?_
  show XX RX4 cX4_holdBack 5 (some .int) 4 87 K 0 [some (.ref 0), some (.int x), none, none, none] [] (m) (fun r1 m1 => r1 = (some (.int (-1000001))) ∧ m1 = fnd m 0)
  refine x_iload_n (q := 1) dX4_holdBack_0 rfl rfl ?_
  refine x_iconst (q := 2) (v := 0) dX4_holdBack_1 rfl (by decide) ?_
  refine x_bipush (q := 4) (v := 20) dX4_holdBack_2 rfl (by decide) ?_
  refine x_callS3v (q := 7) dX4_holdBack_4 rfl ml_X4_44 ms_X4_isOut c_X4_isOut (Nat.le_of_ble_eq_true rfl) ⟨by decide, by decide⟩ ?_
  refine x_ifB_eq (q := 10) (t := 17) dX4_holdBack_7 rfl (by decide) (fun h7 => ?_) (fun h7 => ?_)
  · exact absurd hb (by rw [h7]; decide)
  refine x_aload_n (q := 11) dX4_holdBack_10 rfl rfl ?_
  refine x_ldc (q := 13) dX4_holdBack_11 rfl kc_X4_48 ?_
  refine x_callV1v (q := 16) dX4_holdBack_13 rfl ml_X4_49 mv_X4_finding rv4 rfl (c_X4_finding (w := 0) (by decide) (by decide)) (Nat.le_of_ble_eq_true rfl) ⟨by decide, by decide⟩ ?_
  refine x_ireturn dX4_holdBack_16 rfl rfl ?_
  exact ⟨rfl, rfl⟩
set_option maxRecDepth 20000 in
set_option maxHeartbeats 4000000 in
theorem c_X4_holdBack {K : Cx} {N n8 : Nat} {m : TM} (hI : Iv n8 (m.1 1)) (hN : N ≤ 20) : CQ yX4_holdBack cX4_holdBack 5 (some .int) 4 87 K [.ref 0, .int (nI N)] (m) (fun r1 m1 => ∃ X, r1 = some (.int (hbS n8 (m.1 1 4) (N) (bcF (m.1 13) (m.1 1) n8) (0))) ∧ m1 = sr m 13 X) := by
  refine ct_ofq (n := 3) (by decide +kernel) rfl rfl ?_
  show XX RX4 cX4_holdBack 5 (some .int) 4 87 K 0 [some (.ref 0), some (.int (nI N)), none, none, none] [] (m) (fun r1 m1 => ∃ X, r1 = some (.int (hbS n8 (m.1 1 4) (N) (bcF (m.1 13) (m.1 1) n8) (0))) ∧ m1 = sr m 13 X)
  refine x_iload_n (q := 1) dX4_holdBack_0 rfl rfl ?_
  refine x_iconst (q := 2) (v := 0) dX4_holdBack_1 rfl (by decide) ?_
  refine x_bipush (q := 4) (v := 20) dX4_holdBack_2 rfl (by decide) ?_
  refine x_callS3v (q := 7) dX4_holdBack_4 rfl ml_X4_44 ms_X4_isOut c_X4_isOut (Nat.le_of_ble_eq_true rfl) ⟨by decide, by decide⟩ ?_
  refine x_ifB_eq (q := 10) (t := 17) dX4_holdBack_7 rfl (by decide) (fun h7 => ?_) (fun h7 => ?_)
  · refine x_aload_n (q := 18) dX4_holdBack_17 rfl rfl ?_
    refine x_getR (q := 21) dX4_holdBack_18 rfl fl_X4_16 (or4_trial) ?_
    refine x_aload_n (q := 22) dX4_holdBack_21 rfl rfl ?_
    refine x_getR (q := 25) dX4_holdBack_22 rfl fl_X4_12 (or4_coast) ?_
    refine x_callV1n (q := 28) dX4_holdBack_25 rfl ml_X4_129 mv_X0_becomeAs (rv0 isC_13) rfl (p_X0_becomeAs isC_13 isC_1 (by decide) hI.2.1 hI.1) (Nat.le_of_ble_eq_true rfl) ⟨by decide, by decide⟩ ?_
    refine x_iconst (q := 29) (v := 0) dX4_holdBack_28 rfl (by decide) ?_
    refine x_istore_n (q := 30) dX4_holdBack_29 rfl (by decide) rfl rfl ?_
    refine x_iconst (q := 31) (v := 0) dX4_holdBack_30 rfl (by decide) ?_
    refine x_istore_n (q := 32) dX4_holdBack_31 rfl (by decide) rfl rfl ?_
    obtain ⟨l, hl, el⟩ := hI.2.2.2.1
    exact x_ls (l_X4_holdBack hN hl el (N + 1) 0 _ 0 (by omega) (by omega) (iv_bc hI)) (And.intro rfl (And.intro rfl (And.intro rfl (And.intro rfl trivial))))
  exact absurd (show outI (nI N) 0 20 = false from rng_in (c := N) (a := 0) (b := 20) (Nat.zero_le _) hN (by decide)) (by rw [h7]; decide)
theorem dX5_lateWith_0 : decode cX5_lateWith 0 = .ok (.aload_n 0, 1) := by decide +kernel
theorem dX5_lateWith_1 : decode cX5_lateWith 1 = .ok (.invokevirtual 124, 3) := by decide +kernel
theorem dX5_lateWith_4 : decode cX5_lateWith 4 = .ok (.iconst 0, 1) := by decide +kernel
theorem dX5_lateWith_5 : decode cX5_lateWith 5 = .ok (.istore_n 3, 1) := by decide +kernel
theorem dX5_lateWith_6 : decode cX5_lateWith 6 = .ok (.iload_n 3, 1) := by decide +kernel
theorem dX5_lateWith_7 : decode cX5_lateWith 7 = .ok (.aload_n 0, 1) := by decide +kernel
theorem dX5_lateWith_8 : decode cX5_lateWith 8 = .ok (.getfield 9, 3) := by decide +kernel
theorem dX5_lateWith_11 : decode cX5_lateWith 11 = .ok (.iconst 1, 1) := by decide +kernel
theorem dX5_lateWith_12 : decode cX5_lateWith 12 = .ok (.iaload, 1) := by decide +kernel
theorem dX5_lateWith_13 : decode cX5_lateWith 13 = .ok (.if_icmp .ge 27, 3) := by decide +kernel
theorem dX5_lateWith_16 : decode cX5_lateWith 16 = .ok (.aload_n 0, 1) := by decide +kernel
theorem dX5_lateWith_17 : decode cX5_lateWith 17 = .ok (.iload_n 3, 1) := by decide +kernel
theorem dX5_lateWith_18 : decode cX5_lateWith 18 = .ok (.iconst 5, 1) := by decide +kernel
theorem dX5_lateWith_19 : decode cX5_lateWith 19 = .ok (.aload_n 0, 1) := by decide +kernel
theorem dX5_lateWith_20 : decode cX5_lateWith 20 = .ok (.iload_n 3, 1) := by decide +kernel
theorem dX5_lateWith_21 : decode cX5_lateWith 21 = .ok (.iconst 5, 1) := by decide +kernel
theorem dX5_lateWith_22 : decode cX5_lateWith 22 = .ok (.invokevirtual 52, 3) := by decide +kernel
theorem dX5_lateWith_25 : decode cX5_lateWith 25 = .ok (.iload_n 1, 1) := by decide +kernel
theorem dX5_lateWith_26 : decode cX5_lateWith 26 = .ok (.iload_n 3, 1) := by decide +kernel
theorem dX5_lateWith_27 : decode cX5_lateWith 27 = .ok (.ishr, 1) := by decide +kernel
theorem dX5_lateWith_28 : decode cX5_lateWith 28 = .ok (.iconst 1, 1) := by decide +kernel
theorem dX5_lateWith_29 : decode cX5_lateWith 29 = .ok (.iand, 1) := by decide +kernel
theorem dX5_lateWith_30 : decode cX5_lateWith 30 = .ok (.ior, 1) := by decide +kernel
theorem dX5_lateWith_31 : decode cX5_lateWith 31 = .ok (.invokevirtual 60, 3) := by decide +kernel
theorem dX5_lateWith_34 : decode cX5_lateWith 34 = .ok (.iinc 3 1, 3) := by decide +kernel
theorem dX5_lateWith_37 : decode cX5_lateWith 37 = .ok (.goto (-31), 3) := by decide +kernel
theorem dX5_lateWith_40 : decode cX5_lateWith 40 = .ok (.aload_n 0, 1) := by decide +kernel
theorem dX5_lateWith_41 : decode cX5_lateWith 41 = .ok (.iload_n 2, 1) := by decide +kernel
theorem dX5_lateWith_42 : decode cX5_lateWith 42 = .ok (.invokevirtual 115, 3) := by decide +kernel
theorem dX5_lateWith_45 : decode cX5_lateWith 45 = .ok (.aload_n 0, 1) := by decide +kernel
theorem dX5_lateWith_46 : decode cX5_lateWith 46 = .ok (.getfield 9, 3) := by decide +kernel
theorem dX5_lateWith_49 : decode cX5_lateWith 49 = .ok (.iconst 4, 1) := by decide +kernel
theorem dX5_lateWith_50 : decode cX5_lateWith 50 = .ok (.iaload, 1) := by decide +kernel
theorem dX5_lateWith_51 : decode cX5_lateWith 51 = .ok (.istore_n 3, 1) := by decide +kernel
theorem dX5_lateWith_52 : decode cX5_lateWith 52 = .ok (.aload_n 0, 1) := by decide +kernel
theorem dX5_lateWith_53 : decode cX5_lateWith 53 = .ok (.invokevirtual 127, 3) := by decide +kernel
theorem dX5_lateWith_56 : decode cX5_lateWith 56 = .ok (.iload_n 3, 1) := by decide +kernel
theorem dX5_lateWith_57 : decode cX5_lateWith 57 = .ok (.ireturn, 1) := by decide +kernel
set_option maxRecDepth 20000 in
set_option maxHeartbeats 4000000 in
theorem l_X5_lateWith {K : Cx} {n8 c x : Nat} {m : TM} (hI : Iv n8 (m.1 50)) (hx : x < 256) (hc : c ≤ 1000) : ∀ (fu : Nat) (j : Nat), n8 - j < fu → j ≤ n8 → XX RX5 cX5_lateWith 4 (some .int) 5 113 K 6 [some (.ref 49), some (.int (nI x)), some (.int (nI c)), some (.int (nI j))] [] (sr (asM m) 50 (hdF (m.1 50) x j)) (fun r1 m1 => r1 = (some (.int (lwF (m.1 50) n8 c x))) ∧ m1 = asM m) := by
  intro fu
  induction fu with
  | zero => intro j hlt; exact absurd hlt (Nat.not_lt_zero _)
  | succ fu ih =>
    intro j hlt hj
    have hI2 := hdF_iv (x := x) hI j hj
    have h8 := hI.1
    refine x_iload_n (q := 7) dX5_lateWith_6 rfl rfl ?_
    refine x_aload_n (q := 8) dX5_lateWith_7 rfl rfl ?_
    refine x_getR (q := 11) dX5_lateWith_8 rfl fl_X5_9 (or5_s) ?_
    refine x_iconst (q := 12) (v := 1) dX5_lateWith_11 rfl (by decide) ?_
    refine x_ialdr (q := 13) dX5_lateWith_12 rfl (ar_50) (ix_nI (k := 1) (by decide) (by decide)) (Nat.zero_add _) ?_
    refine x_icmp_ge (q := 16) (t := 40) dX5_lateWith_13 rfl (by decide) (fun h13 => ?_) (fun h13 => ?_)
    · have e : j = n8 := Nat.le_antisymm hj (lp_stop hI2.2.1 (by omega) (by omega) h13)
      subst e
      refine x_aload_n (q := 41) dX5_lateWith_40 rfl rfl ?_
      refine x_iload_n (q := 42) dX5_lateWith_41 rfl rfl ?_
      refine x_callV1n (q := 45) dX5_lateWith_42 rfl ml_X5_115 mv_X5_goes rv5 rfl (c_X5_goes hc hI2) (Nat.le_of_ble_eq_true rfl) ⟨by decide, by decide⟩ ?_
      refine x_aload_n (q := 46) dX5_lateWith_45 rfl rfl ?_
      refine x_getR (q := 49) dX5_lateWith_46 rfl fl_X5_9 (or5_s) ?_
      refine x_iconst (q := 50) (v := 4) dX5_lateWith_49 rfl (by decide) ?_
      refine x_ialdr (q := 51) dX5_lateWith_50 rfl (ar_50) (ix_nI (k := 4) (by decide) (by decide)) (Nat.zero_add _) ?_
      refine x_istore_n (q := 52) dX5_lateWith_51 rfl (by decide) rfl rfl ?_
      refine x_aload_n (q := 53) dX5_lateWith_52 rfl rfl ?_
      refine x_callV0n (q := 56) dX5_lateWith_53 rfl ml_X5_127 mv_X5_laysBack rv5 rfl c_back (Nat.le_of_ble_eq_true rfl) ⟨by decide, by decide⟩ ?_
      refine x_iload_n (q := 57) dX5_lateWith_56 rfl rfl ?_
      refine x_ireturn dX5_lateWith_57 rfl rfl ?_
      exact ⟨rfl, rfl⟩
    have hjn : j < n8 := lp_go hI2.2.1 (by omega) (by omega) h13
    refine x_aload_n (q := 17) dX5_lateWith_16 rfl rfl ?_
    refine x_iload_n (q := 18) dX5_lateWith_17 rfl rfl ?_
    refine x_iconst (q := 19) (v := 5) dX5_lateWith_18 rfl (by decide) ?_
    refine x_aload_n (q := 20) dX5_lateWith_19 rfl rfl ?_
    refine x_iload_n (q := 21) dX5_lateWith_20 rfl rfl ?_
    refine x_iconst (q := 22) (v := 5) dX5_lateWith_21 rfl (by decide) ?_
    refine x_callV2v (q := 25) dX5_lateWith_22 rfl ml_X5_52 mv_X5_get rv5 rfl (c_X5_getr (f := 5) (show j < 8 by omega) (by decide)) (Nat.le_of_ble_eq_true rfl) ⟨by decide, by decide⟩ ?_
    refine x_iload_n (q := 26) dX5_lateWith_25 rfl rfl ?_
    refine x_iload_n (q := 27) dX5_lateWith_26 rfl rfl ?_
    refine x_ishr (q := 28) dX5_lateWith_27 rfl ?_
    refine x_iconst (q := 29) (v := 1) dX5_lateWith_28 rfl (by decide) ?_
    refine x_iand (q := 30) dX5_lateWith_29 rfl ?_
    rw [hb_bit j (by omega) x hx]
    refine x_ior (q := 31) dX5_lateWith_30 rfl ?_
    refine x_callV3n (q := 34) dX5_lateWith_31 rfl ml_X5_60 mv_X5_puts rv5 rfl (c_X5_putsr (f := 5) (show j < 8 by omega) (by decide)) (Nat.le_of_ble_eq_true rfl) ⟨by decide, by decide⟩ ?_
    refine x_iinc (q := 37) (v := nI (j + 1)) dX5_lateWith_34 rfl rfl (jnI_s j) (by decide) rfl rfl ?_
    refine x_goto (q := 6) dX5_lateWith_37 (by decide) ?_
    exact ih (j + 1) (by omega) (by omega)
set_option maxRecDepth 20000 in
set_option maxHeartbeats 4000000 in
theorem c_X5_lateWith {K : Cx} {n8 c x : Nat} {m : TM} (hI : Iv n8 (m.1 50)) (hx : x < 256) (hc : c ≤ 1000) : CT yX5_lateWith cX5_lateWith 4 (some .int) 5 113 K [.ref 49, .int (nI x), .int (nI c)] (m) (some (.int (lwF (m.1 50) n8 c x))) (asM m) := by
  refine ct_ofd (n := 1) (by decide +kernel) rfl rfl ?_
  show XX RX5 cX5_lateWith 4 (some .int) 5 113 K 0 [some (.ref 49), some (.int (nI x)), some (.int (nI c)), none] [] (m) (fun r1 m1 => r1 = (some (.int (lwF (m.1 50) n8 c x))) ∧ m1 = asM m)
  refine x_aload_n (q := 1) dX5_lateWith_0 rfl rfl ?_
  refine x_callV0n (q := 4) dX5_lateWith_1 rfl ml_X5_124 mv_X5_setsAside rv5 rfl c_set (Nat.le_of_ble_eq_true rfl) ⟨by decide, by decide⟩ ?_
  refine x_iconst (q := 5) (v := 0) dX5_lateWith_4 rfl (by decide) ?_
  refine x_istore_n (q := 6) dX5_lateWith_5 rfl (by decide) rfl rfl ?_
  exact l_X5_lateWith hI hx hc (n8 + 1) 0 (by omega) (by omega)
theorem c_lwY {K : Cx} {n8 c x : Nat} {Y : Nat → Int32} {m : TM} (hI : Iv n8 (m.1 50)) (hx : x < 256) (hc : c ≤ 1000) : CT yX5_lateWith cX5_lateWith 4 (some .int) 5 113 K [.ref 49, .int (nI x), .int (nI c)] (sr m 52 Y) (some (.int (lwF (m.1 50) n8 c x))) (sr m 52 (m.1 50)) := by
  have e : (sr m 52 Y).1 50 = m.1 50 := sr_ne (by decide)
  have h := c_X5_lateWith (K := K) (m := sr m 52 Y) (n8 := n8) (c := c) (x := x) (by rw [e]; exact hI) hx hc
  rw [e, asM, e, sr_sr] at h
  exact h
theorem dX5_holdBack_0 : decode cX5_holdBack 0 = .ok (.iload_n 1, 1) := by decide +kernel
theorem dX5_holdBack_1 : decode cX5_holdBack 1 = .ok (.iconst 0, 1) := by decide +kernel
theorem dX5_holdBack_2 : decode cX5_holdBack 2 = .ok (.bipush 20, 2) := by decide +kernel
theorem dX5_holdBack_4 : decode cX5_holdBack 4 = .ok (.invokestatic 48, 3) := by decide +kernel
theorem dX5_holdBack_7 : decode cX5_holdBack 7 = .ok (.ifCond .ne 9, 3) := by decide +kernel
theorem dX5_holdBack_10 : decode cX5_holdBack 10 = .ok (.aload_n 0, 1) := by decide +kernel
theorem dX5_holdBack_11 : decode cX5_holdBack 11 = .ok (.iconst 0, 1) := by decide +kernel
theorem dX5_holdBack_12 : decode cX5_holdBack 12 = .ok (.invokevirtual 103, 3) := by decide +kernel
theorem dX5_holdBack_15 : decode cX5_holdBack 15 = .ok (.ireturn, 1) := by decide +kernel
theorem dX5_holdBack_16 : decode cX5_holdBack 16 = .ok (.iconst (-1), 1) := by decide +kernel
theorem dX5_holdBack_17 : decode cX5_holdBack 17 = .ok (.istore_n 2, 1) := by decide +kernel
theorem dX5_holdBack_18 : decode cX5_holdBack 18 = .ok (.iconst 0, 1) := by decide +kernel
theorem dX5_holdBack_19 : decode cX5_holdBack 19 = .ok (.istore_n 3, 1) := by decide +kernel
theorem dX5_holdBack_20 : decode cX5_holdBack 20 = .ok (.iload_n 3, 1) := by decide +kernel
theorem dX5_holdBack_21 : decode cX5_holdBack 21 = .ok (.iconst 1, 1) := by decide +kernel
theorem dX5_holdBack_22 : decode cX5_holdBack 22 = .ok (.aload_n 0, 1) := by decide +kernel
theorem dX5_holdBack_23 : decode cX5_holdBack 23 = .ok (.getfield 9, 3) := by decide +kernel
theorem dX5_holdBack_26 : decode cX5_holdBack 26 = .ok (.iconst 1, 1) := by decide +kernel
theorem dX5_holdBack_27 : decode cX5_holdBack 27 = .ok (.iaload, 1) := by decide +kernel
theorem dX5_holdBack_28 : decode cX5_holdBack 28 = .ok (.ishl, 1) := by decide +kernel
theorem dX5_holdBack_29 : decode cX5_holdBack 29 = .ok (.if_icmp .ge 57, 3) := by decide +kernel
theorem dX5_holdBack_32 : decode cX5_holdBack 32 = .ok (.iload_n 2, 1) := by decide +kernel
theorem dX5_holdBack_33 : decode cX5_holdBack 33 = .ok (.ifCond .lt 14, 3) := by decide +kernel
theorem dX5_holdBack_36 : decode cX5_holdBack 36 = .ok (.iload_n 3, 1) := by decide +kernel
theorem dX5_holdBack_37 : decode cX5_holdBack 37 = .ok (.invokestatic 149, 3) := by decide +kernel
theorem dX5_holdBack_40 : decode cX5_holdBack 40 = .ok (.iload_n 2, 1) := by decide +kernel
theorem dX5_holdBack_41 : decode cX5_holdBack 41 = .ok (.invokestatic 149, 3) := by decide +kernel
theorem dX5_holdBack_44 : decode cX5_holdBack 44 = .ok (.if_icmp .ge 7, 3) := by decide +kernel
theorem dX5_holdBack_47 : decode cX5_holdBack 47 = .ok (.iconst 1, 1) := by decide +kernel
theorem dX5_holdBack_48 : decode cX5_holdBack 48 = .ok (.goto 4, 3) := by decide +kernel
theorem dX5_holdBack_51 : decode cX5_holdBack 51 = .ok (.iconst 0, 1) := by decide +kernel
theorem dX5_holdBack_52 : decode cX5_holdBack 52 = .ok (.istore 4, 2) := by decide +kernel
theorem dX5_holdBack_54 : decode cX5_holdBack 54 = .ok (.iload 4, 2) := by decide +kernel
theorem dX5_holdBack_56 : decode cX5_holdBack 56 = .ok (.ifCond .eq 22, 3) := by decide +kernel
theorem dX5_holdBack_59 : decode cX5_holdBack 59 = .ok (.aload_n 0, 1) := by decide +kernel
theorem dX5_holdBack_60 : decode cX5_holdBack 60 = .ok (.iload_n 3, 1) := by decide +kernel
theorem dX5_holdBack_61 : decode cX5_holdBack 61 = .ok (.iload_n 1, 1) := by decide +kernel
theorem dX5_holdBack_62 : decode cX5_holdBack 62 = .ok (.invokevirtual 152, 3) := by decide +kernel
theorem dX5_holdBack_65 : decode cX5_holdBack 65 = .ok (.aload_n 0, 1) := by decide +kernel
theorem dX5_holdBack_66 : decode cX5_holdBack 66 = .ok (.getfield 9, 3) := by decide +kernel
theorem dX5_holdBack_69 : decode cX5_holdBack 69 = .ok (.iconst 4, 1) := by decide +kernel
theorem dX5_holdBack_70 : decode cX5_holdBack 70 = .ok (.iaload, 1) := by decide +kernel
theorem dX5_holdBack_71 : decode cX5_holdBack 71 = .ok (.if_icmp .ne 7, 3) := by decide +kernel
theorem dX5_holdBack_74 : decode cX5_holdBack 74 = .ok (.iload_n 3, 1) := by decide +kernel
theorem dX5_holdBack_75 : decode cX5_holdBack 75 = .ok (.goto 4, 3) := by decide +kernel
theorem dX5_holdBack_78 : decode cX5_holdBack 78 = .ok (.iload_n 2, 1) := by decide +kernel
theorem dX5_holdBack_79 : decode cX5_holdBack 79 = .ok (.istore_n 2, 1) := by decide +kernel
theorem dX5_holdBack_80 : decode cX5_holdBack 80 = .ok (.iinc 3 1, 3) := by decide +kernel
theorem dX5_holdBack_83 : decode cX5_holdBack 83 = .ok (.goto (-63), 3) := by decide +kernel
theorem dX5_holdBack_86 : decode cX5_holdBack 86 = .ok (.iload_n 2, 1) := by decide +kernel
theorem dX5_holdBack_87 : decode cX5_holdBack 87 = .ok (.ifCond .ge 11, 3) := by decide +kernel
theorem dX5_holdBack_90 : decode cX5_holdBack 90 = .ok (.aload_n 0, 1) := by decide +kernel
theorem dX5_holdBack_91 : decode cX5_holdBack 91 = .ok (.iconst 3, 1) := by decide +kernel
theorem dX5_holdBack_92 : decode cX5_holdBack 92 = .ok (.invokevirtual 103, 3) := by decide +kernel
theorem dX5_holdBack_95 : decode cX5_holdBack 95 = .ok (.goto 4, 3) := by decide +kernel
theorem dX5_holdBack_98 : decode cX5_holdBack 98 = .ok (.iload_n 2, 1) := by decide +kernel
theorem dX5_holdBack_99 : decode cX5_holdBack 99 = .ok (.ireturn, 1) := by decide +kernel
set_option maxRecDepth 20000 in
set_option maxHeartbeats 4000000 in
theorem c_X5_holdBackB {K : Cx} {x : Int32} {m : TM} (hb : outI x 0 20 = true) : CT yX5_holdBack cX5_holdBack 5 (some .int) 6 136 K [.ref 49, .int x] (m) (some (.int (-1000001))) (fnm m 0) := by
  refine ct_ofd (n := 3) (by decide +kernel) rfl rfl ?_
  show XX RX5 cX5_holdBack 5 (some .int) 6 136 K 0 [some (.ref 49), some (.int x), none, none, none] [] (m) (fun r1 m1 => r1 = (some (.int (-1000001))) ∧ m1 = fnm m 0)
  refine x_iload_n (q := 1) dX5_holdBack_0 rfl rfl ?_
  refine x_iconst (q := 2) (v := 0) dX5_holdBack_1 rfl (by decide) ?_
  refine x_bipush (q := 4) (v := 20) dX5_holdBack_2 rfl (by decide) ?_
  refine x_callS3v (q := 7) dX5_holdBack_4 rfl ml_X5_48 ms_X5_in1 c_X5_in1 (Nat.le_of_ble_eq_true rfl) ⟨by decide, by decide⟩ ?_
  refine x_ifB_ne (q := 10) (t := 16) dX5_holdBack_7 rfl (by decide) (fun h7 => ?_) (fun h7 => ?_)
  · replace h7 := in_t h7
    exact absurd hb (by rw [h7]; decide)
  replace h7 := in_f h7
  refine x_aload_n (q := 11) dX5_holdBack_10 rfl rfl ?_
  refine x_iconst (q := 12) (v := 0) dX5_holdBack_11 rfl (by decide) ?_
  refine x_callV1v (q := 15) dX5_holdBack_12 rfl ml_X5_103 mv_X5_no rv5 rfl (c_X5_nox (w := 0) (x := -1000001) (by decide) (by decide)) (Nat.le_of_ble_eq_true rfl) ⟨by decide, by decide⟩ ?_
  refine x_ireturn dX5_holdBack_15 rfl rfl ?_
  exact ⟨rfl, rfl⟩
set_option maxRecDepth 20000 in
set_option maxHeartbeats 4000000 in
theorem l_X5_holdBack {K : Cx} {n8 N D : Nat} {m : TM} (hI : Iv n8 (m.1 50)) (hN : N ≤ 20) (hD : D < 256) : ∀ (fu : Nat) (j : Nat) (b : Option Nat) (Y : Nat → Int32), 2 ^ n8 - j < fu → j ≤ 2 ^ n8 → (∀ c, b = some c → c < 256) → hbB (lwF (m.1 50) n8 N) (m.1 50 4) (2 ^ n8 - j) j b = some D → XX RX5 cX5_holdBack 5 (some .int) 6 136 K 20 [some (.ref 49), some (.int (nI N)), some (.int (bsI b)), some (.int (nI j)), none] [] (sr m 52 Y) (fun r1 m1 => ∃ Y, r1 = some (.int (nI D)) ∧ m1 = sr m 52 Y) := by
  intro fu
  induction fu with
  | zero => intro j b Y hlt; exact absurd hlt (Nat.not_lt_zero _)
  | succ fu ih =>
    intro j b Y hlt hj hbc hB
    have h28 := p2_256 hI.1
    have e50 : ∀ q, (sr m 52 Y).1 50 q = m.1 50 q := fun q => by rw [sr_ne (by decide)]
    refine x_iload_n (q := 21) dX5_holdBack_20 rfl rfl ?_
    refine x_iconst (q := 22) (v := 1) dX5_holdBack_21 rfl (by decide) ?_
    refine x_aload_n (q := 23) dX5_holdBack_22 rfl rfl ?_
    refine x_getR (q := 26) dX5_holdBack_23 rfl fl_X5_9 (or5_s) ?_
    refine x_iconst (q := 27) (v := 1) dX5_holdBack_26 rfl (by decide) ?_
    refine x_iald (q := 28) dX5_holdBack_27 rfl (ar_50) (ix_nI (k := 1) (by decide) (by decide)) (Nat.zero_add _) ?_
    rw [e50, hI.2.1]
    refine x_ishl (q := 29) dX5_holdBack_28 rfl ?_
    rw [sh_1 n8 (by have := hI.1; omega)]
    refine x_icmp_ge (q := 32) (t := 86) dX5_holdBack_29 rfl (by decide) (fun h29 => ?_) (fun h29 => ?_)
    · rw [show 2 ^ n8 - j = 0 by have := lp_stop rfl (by omega) (by omega) h29; omega] at hB
      obtain rfl : b = some D := hB
      refine x_iload_n (q := 87) dX5_holdBack_86 rfl rfl ?_
      refine x_if_ge (q := 90) (t := 98) dX5_holdBack_87 rfl (by decide) (fun h87 => ?_) (fun h87 => ?_)
      · refine x_iload_n (q := 99) dX5_holdBack_98 rfl rfl ?_
        refine x_ireturn dX5_holdBack_99 rfl rfl ?_
        exact ⟨Y, rfl, rfl⟩
      exact absurd (Int32.not_lt.mp (jnI_nneg (k := D) (by omega))) h87
    have hjn : j < 2 ^ n8 := lp_go rfl (by omega) (by omega) h29
    have hj8 : j < 256 := by omega
    rw [show 2 ^ n8 - j = (2 ^ n8 - (j + 1)) + 1 by omega] at hB
    simp only [hbB] at hB
    refine x_iload_n (q := 33) dX5_holdBack_32 rfl rfl ?_
    refine x_if_lt (q := 36) (t := 47) dX5_holdBack_33 rfl (by decide) (fun h33 => ?_) (fun h33 => ?_)
    · obtain rfl : b = none := (by
        cases b with
        | none => rfl
        | some c => exact absurd h33 (jnI_nneg (by have := hbc c rfl; omega)))
      refine x_iconst (q := 48) (v := 1) dX5_holdBack_47 rfl (by decide) ?_
      refine x_goto (q := 52) dX5_holdBack_48 (by decide) ?_
      refine x_istore (q := 54) dX5_holdBack_52 rfl (by decide) rfl rfl ?_
      refine x_iload (q := 56) dX5_holdBack_54 rfl rfl ?_
      refine x_if_eq (q := 59) (t := 78) dX5_holdBack_56 rfl (by decide) (fun h => absurd h (by decide)) (fun _ => ?_)
      refine x_aload_n (q := 60) dX5_holdBack_59 rfl rfl ?_
      refine x_iload_n (q := 61) dX5_holdBack_60 rfl rfl ?_
      refine x_iload_n (q := 62) dX5_holdBack_61 rfl rfl ?_
      refine x_callV2v (q := 65) dX5_holdBack_62 rfl ml_X5_152 mv_X5_lateWith rv5 rfl (c_lwY hI hj8 (by omega)) (Nat.le_of_ble_eq_true rfl) ⟨by decide, by decide⟩ ?_
      refine x_aload_n (q := 66) dX5_holdBack_65 rfl rfl ?_
      refine x_getR (q := 69) dX5_holdBack_66 rfl fl_X5_9 (or5_s) ?_
      refine x_iconst (q := 70) (v := 4) dX5_holdBack_69 rfl (by decide) ?_
      refine x_iald (q := 71) dX5_holdBack_70 rfl (ar_50) (ix_nI (k := 4) (by decide) (by decide)) (Nat.zero_add _) ?_
      rw [sr_ne (by decide)]
      refine x_icmp_ne (q := 74) (t := 78) dX5_holdBack_71 rfl (by decide) (fun h71 => ?_) (fun h71 => ?_)
      · refine x_iload_n (q := 79) dX5_holdBack_78 rfl rfl ?_
        refine x_istore_n (q := 80) dX5_holdBack_79 rfl (by decide) rfl rfl ?_
        refine x_iinc (q := 83) (v := nI (j + 1)) dX5_holdBack_80 rfl rfl (jnI_s j) (by decide) rfl rfl ?_
        refine x_goto (q := 20) dX5_holdBack_83 (by decide) ?_
        rw [show nx (lwF (m.1 50) n8 N) (m.1 50 4) j none = none from if_neg h71] at hB
        exact x_ls (ih (j + 1) none _ (by omega) (by omega) hbc hB) (And.intro rfl (And.intro rfl (And.intro rfl (And.intro rfl trivial))))
      refine x_iload_n (q := 75) dX5_holdBack_74 rfl rfl ?_
      refine x_goto (q := 79) dX5_holdBack_75 (by decide) ?_
      refine x_istore_n (q := 80) dX5_holdBack_79 rfl (by decide) rfl rfl ?_
      refine x_iinc (q := 83) (v := nI (j + 1)) dX5_holdBack_80 rfl rfl (jnI_s j) (by decide) rfl rfl ?_
      refine x_goto (q := 20) dX5_holdBack_83 (by decide) ?_
      rw [show nx (lwF (m.1 50) n8 N) (m.1 50 4) j none = some j from if_pos h71] at hB
      exact x_ls (ih (j + 1) (some j) _ (by omega) (by omega) (fun d q => by cases q; exact hj8) hB) (And.intro rfl (And.intro rfl (And.intro rfl (And.intro rfl trivial))))
    obtain ⟨c, rfl⟩ : ∃ c, b = some c := by
      cases b with
      | none => exact absurd (show bsI none < 0 by decide) h33
      | some c => exact ⟨c, rfl⟩
    refine x_iload_n (q := 37) dX5_holdBack_36 rfl rfl ?_
    refine x_callS1v (q := 40) dX5_holdBack_37 rfl ml_X5_149 ms_X5_bits (c_X5_bits hj8) (Nat.le_of_ble_eq_true rfl) ⟨by decide, by decide⟩ ?_
    refine x_iload_n (q := 41) dX5_holdBack_40 rfl rfl ?_
    refine x_callS1v (q := 44) dX5_holdBack_41 rfl ml_X5_149 ms_X5_bits (c_X5_bits (hbc c rfl)) (Nat.le_of_ble_eq_true rfl) ⟨by decide, by decide⟩ ?_
    refine x_icmp_ge (q := 47) (t := 51) dX5_holdBack_44 rfl (by decide) (fun h44 => ?_) (fun h44 => ?_)
    · refine x_iconst (q := 52) (v := 0) dX5_holdBack_51 rfl (by decide) ?_
      refine x_istore (q := 54) dX5_holdBack_52 rfl (by decide) rfl rfl ?_
      refine x_iload (q := 56) dX5_holdBack_54 rfl rfl ?_
      refine x_if_eq (q := 59) (t := 78) dX5_holdBack_56 rfl (by decide) (fun _ => ?_) (fun h => absurd (by decide) h)
      refine x_iload_n (q := 79) dX5_holdBack_78 rfl rfl ?_
      refine x_istore_n (q := 80) dX5_holdBack_79 rfl (by decide) rfl rfl ?_
      refine x_iinc (q := 83) (v := nI (j + 1)) dX5_holdBack_80 rfl rfl (jnI_s j) (by decide) rfl rfl ?_
      refine x_goto (q := 20) dX5_holdBack_83 (by decide) ?_
      rw [show nx (lwF (m.1 50) n8 N) (m.1 50 4) j (some c) = some c from if_neg (by have := (jnI_le' (by have := bt_le 9 c; omega) (by have := bt_le 9 j; omega)).mp h44; omega)] at hB
      exact x_ls (ih (j + 1) (some c) Y (by omega) (by omega) hbc hB) (And.intro rfl (And.intro rfl (And.intro rfl (And.intro rfl trivial))))
    
    refine x_iconst (q := 48) (v := 1) dX5_holdBack_47 rfl (by decide) ?_
    refine x_goto (q := 52) dX5_holdBack_48 (by decide) ?_
    refine x_istore (q := 54) dX5_holdBack_52 rfl (by decide) rfl rfl ?_
    refine x_iload (q := 56) dX5_holdBack_54 rfl rfl ?_
    refine x_if_eq (q := 59) (t := 78) dX5_holdBack_56 rfl (by decide) (fun h => absurd h (by decide)) (fun _ => ?_)
    refine x_aload_n (q := 60) dX5_holdBack_59 rfl rfl ?_
    refine x_iload_n (q := 61) dX5_holdBack_60 rfl rfl ?_
    refine x_iload_n (q := 62) dX5_holdBack_61 rfl rfl ?_
    refine x_callV2v (q := 65) dX5_holdBack_62 rfl ml_X5_152 mv_X5_lateWith rv5 rfl (c_lwY hI hj8 (by omega)) (Nat.le_of_ble_eq_true rfl) ⟨by decide, by decide⟩ ?_
    refine x_aload_n (q := 66) dX5_holdBack_65 rfl rfl ?_
    refine x_getR (q := 69) dX5_holdBack_66 rfl fl_X5_9 (or5_s) ?_
    refine x_iconst (q := 70) (v := 4) dX5_holdBack_69 rfl (by decide) ?_
    refine x_iald (q := 71) dX5_holdBack_70 rfl (ar_50) (ix_nI (k := 4) (by decide) (by decide)) (Nat.zero_add _) ?_
    rw [sr_ne (by decide)]
    refine x_icmp_ne (q := 74) (t := 78) dX5_holdBack_71 rfl (by decide) (fun h71 => ?_) (fun h71 => ?_)
    · refine x_iload_n (q := 79) dX5_holdBack_78 rfl rfl ?_
      refine x_istore_n (q := 80) dX5_holdBack_79 rfl (by decide) rfl rfl ?_
      refine x_iinc (q := 83) (v := nI (j + 1)) dX5_holdBack_80 rfl rfl (jnI_s j) (by decide) rfl rfl ?_
      refine x_goto (q := 20) dX5_holdBack_83 (by decide) ?_
      have hbt : bt 9 j < bt 9 c := by
        have h9 : ¬ bt 9 c ≤ bt 9 j := fun q => h44 ((jnI_le' (by have := bt_le 9 c; omega) (by have := bt_le 9 j; omega)).mpr q)
        omega
      rw [show nx (lwF (m.1 50) n8 N) (m.1 50 4) j (some c) = (some c) from (if_pos hbt).trans (if_neg h71)] at hB
      exact x_ls (ih (j + 1) (some c) _ (by omega) (by omega) hbc hB) (And.intro rfl (And.intro rfl (And.intro rfl (And.intro rfl trivial))))
    refine x_iload_n (q := 75) dX5_holdBack_74 rfl rfl ?_
    refine x_goto (q := 79) dX5_holdBack_75 (by decide) ?_
    refine x_istore_n (q := 80) dX5_holdBack_79 rfl (by decide) rfl rfl ?_
    refine x_iinc (q := 83) (v := nI (j + 1)) dX5_holdBack_80 rfl rfl (jnI_s j) (by decide) rfl rfl ?_
    refine x_goto (q := 20) dX5_holdBack_83 (by decide) ?_
    have hbt : bt 9 j < bt 9 c := by
      have h9 : ¬ bt 9 c ≤ bt 9 j := fun q => h44 ((jnI_le' (by have := bt_le 9 c; omega) (by have := bt_le 9 j; omega)).mpr q)
      omega
    rw [show nx (lwF (m.1 50) n8 N) (m.1 50 4) j (some c) = some j from (if_pos hbt).trans (if_pos h71)] at hB
    exact x_ls (ih (j + 1) (some j) _ (by omega) (by omega) (fun d q => by cases q; exact hj8) hB) (And.intro rfl (And.intro rfl (And.intro rfl (And.intro rfl trivial))))
set_option maxRecDepth 20000 in
set_option maxHeartbeats 4000000 in
theorem c_X5_holdBack {K : Cx} {N n8 D : Nat} {m : TM} (hI : Iv n8 (m.1 50)) (hN : N ≤ 20) (hD : D < 256) (hB : hbB (lwF (m.1 50) n8 N) (m.1 50 4) (2 ^ n8) 0 none = some D) : CQ yX5_holdBack cX5_holdBack 5 (some .int) 6 136 K [.ref 49, .int (nI N)] (m) (fun r1 m1 => ∃ Y, r1 = some (.int (nI D)) ∧ m1 = sr m 52 Y) := by
  refine ct_ofq (n := 3) (by decide +kernel) rfl rfl ?_
  show XX RX5 cX5_holdBack 5 (some .int) 6 136 K 0 [some (.ref 49), some (.int (nI N)), none, none, none] [] (m) (fun r1 m1 => ∃ Y, r1 = some (.int (nI D)) ∧ m1 = sr m 52 Y)
  refine x_iload_n (q := 1) dX5_holdBack_0 rfl rfl ?_
  refine x_iconst (q := 2) (v := 0) dX5_holdBack_1 rfl (by decide) ?_
  refine x_bipush (q := 4) (v := 20) dX5_holdBack_2 rfl (by decide) ?_
  refine x_callS3v (q := 7) dX5_holdBack_4 rfl ml_X5_48 ms_X5_in1 c_X5_in1 (Nat.le_of_ble_eq_true rfl) ⟨by decide, by decide⟩ ?_
  refine x_ifB_ne (q := 10) (t := 16) dX5_holdBack_7 rfl (by decide) (fun h7 => ?_) (fun h7 => ?_)
  · replace h7 := in_t h7
    refine x_iconst (q := 17) (v := (-1)) dX5_holdBack_16 rfl (by decide) ?_
    refine x_istore_n (q := 18) dX5_holdBack_17 rfl (by decide) rfl rfl ?_
    refine x_iconst (q := 19) (v := 0) dX5_holdBack_18 rfl (by decide) ?_
    refine x_istore_n (q := 20) dX5_holdBack_19 rfl (by decide) rfl rfl ?_
    have h := l_X5_holdBack (K := K) hI hN hD (2 ^ n8 + 1) 0 none (m.1 52) (Nat.lt_succ_of_le (Nat.sub_le _ _)) (Nat.zero_le _) (fun c q => by cases q) hB
    rw [sr_self] at h
    exact x_ls h (And.intro rfl (And.intro rfl (And.intro rfl (And.intro rfl trivial))))
  replace h7 := in_f h7
  exact absurd (show outI (nI N) 0 20 = false from rng_in (c := N) (a := 0) (b := 20) (Nat.zero_le _) hN (by decide)) (by rw [h7]; decide)
