/-! the reference's own methods over its row -/
theorem or0 (x : Int32) : x ||| 0 = x := by apply Int32.toBitVec_inj.1; simp
theorem add0 (x : Int32) : x + 0 = x := by apply Int32.toBitVec_inj.1; simp
theorem fa_and (a b : Nat) : nI a &&& nI b = nI (a &&& b) := by
  apply Int32.toBitVec_inj.1
  show BitVec.ofNat 32 a &&& BitVec.ofNat 32 b = BitVec.ofNat 32 (a &&& b)
  apply BitVec.eq_of_getLsbD_eq
  intro i hi
  simp [hi]
theorem fa_or (a b : Nat) : nI a ||| nI b = nI (a ||| b) := by
  apply Int32.toBitVec_inj.1
  show BitVec.ofNat 32 a ||| BitVec.ofNat 32 b = BitVec.ofNat 32 (a ||| b)
  apply BitVec.eq_of_getLsbD_eq
  intro i hi
  simp [hi]
theorem c_X5_getr {K : Cx} {k f : Nat} {s : Nat → Int32} {m : TM} (hk : k < 8) (hf : f < 7) : CT yX5_get cX5_get 3 (some .int) 0 0 K [.ref 49, .int (nI k), .int (nI f)] (sr m 50 s) (some (.int (s (12 + 7 * k + f)))) (sr m 50 s) := by
  have h := c_X5_get (K := K) (m := sr m 50 s) hk hf
  rwa [sr_at] at h
theorem c_X5_putsr {K : Cx} {k f : Nat} {v : Int32} {s : Nat → Int32} {m : TM} (hk : k < 8) (hf : f < 7) : CT yX5_puts cX5_puts 4 none 0 0 K [.ref 49, .int (nI k), .int (nI f), .int v] (sr m 50 s) none (sr m 50 (upd s (12 + 7 * k + f) v)) := by
  have h := c_X5_puts (K := K) (m := sr m 50 s) (v := v) hk hf
  rwa [st1_sr] at h
def mvM (kd : Int32) : Int32 := if kd = 0 then 2 else if kd = 4 then 0 else if kd = 5 then 5 else 1
theorem mv_eq {c : Nat} (h : c ≤ 6) : mvM (nI c) = mvC (nI c) := by
  have key : ∀ c, c < 7 → mvM (nI c) = mvC (nI c) := by decide
  exact key c (by omega)
def bt : Nat → Nat → Nat
  | 0, _ => 0
  | f + 1, y => if y = 0 then 0 else 1 + bt f (y &&& (y - 1))
theorem bt_step : ∀ y, y < 256 → y ≠ 0 → bt 9 y = 1 + bt 9 (y &&& (y - 1)) ∧ (y &&& (y - 1)) < y := by decide +kernel
theorem upd_same {s : Nat → Int32} {i : Nat} {v : Int32} (h : s i = v) : upd s i v = s := by
  funext j
  unfold upd
  split
  · rename_i e; rw [e, h]
  · rfl
theorem ix_td {s : Nat → Int32} (h : TD s) : IX ((6 : Int32) + rm6 (s 0 + s 4)) (6 + tdx s) 78 := by
  have e : rm6 (s 0 + s 4) = nI (tdx s) := by
    have h1 := h.2.1
    have h2 : rm6 (s 0 + s 4) = nI (rm6 (s 0 + s 4)).toNatClampNeg := jnI_of h.1
    rw [h1] at h2
    exact h2
  rw [e, show (6 : Int32) = nI 6 from rfl, nI_add]
  have := h.2.2
  exact ix_nI (by omega) (by decide)
theorem dX5_no_0 : decode cX5_no 0 = .ok (.aload_n 0, 1) := by decide +kernel
theorem dX5_no_1 : decode cX5_no 1 = .ok (.getfield 19, 3) := by decide +kernel
theorem dX5_no_4 : decode cX5_no 4 = .ok (.iload_n 1, 1) := by decide +kernel
theorem dX5_no_5 : decode cX5_no 5 = .ok (.dup2, 1) := by decide +kernel
theorem dX5_no_6 : decode cX5_no 6 = .ok (.iaload, 1) := by decide +kernel
theorem dX5_no_7 : decode cX5_no 7 = .ok (.iconst 1, 1) := by decide +kernel
theorem dX5_no_8 : decode cX5_no 8 = .ok (.iadd, 1) := by decide +kernel
theorem dX5_no_9 : decode cX5_no 9 = .ok (.iastore, 1) := by decide +kernel
theorem dX5_no_10 : decode cX5_no 10 = .ok (.ldc 47, 2) := by decide +kernel
theorem dX5_no_12 : decode cX5_no 12 = .ok (.iload_n 1, 1) := by decide +kernel
theorem dX5_no_13 : decode cX5_no 13 = .ok (.isub, 1) := by decide +kernel
theorem dX5_no_14 : decode cX5_no 14 = .ok (.ireturn, 1) := by decide +kernel
set_option maxRecDepth 20000 in
set_option maxHeartbeats 4000000 in
theorem c_X5_no {K : Cx} {w : Nat} {m : TM} (hw : w < 7) : CT yX5_no cX5_no 2 (some .int) 0 0 K [.ref 49, .int (nI w)] (m) (some (.int (-1000001 - nI w))) (st1 m 53 w (m.1 53 w + 1)) := by
  refine ct_ofd (n := 0) (by decide +kernel) rfl rfl ?_
  show XX RX5 cX5_no 2 (some .int) 0 0 K 0 [some (.ref 49), some (.int (nI w))] [] (m) (fun r1 m1 => r1 = (some (.int (-1000001 - nI w))) ∧ m1 = st1 m 53 w (m.1 53 w + 1))
  refine x_aload_n (q := 1) dX5_no_0 rfl rfl ?_
  refine x_getR (q := 4) dX5_no_1 rfl fl_X5_19 (or5_found) ?_
  refine x_iload_n (q := 5) dX5_no_4 rfl rfl ?_
  refine x_dup2 (q := 6) dX5_no_5 rfl rfl rfl ?_
  refine x_iald (q := 7) dX5_no_6 rfl (ar_53) (ix_nI hw (by decide)) (Nat.zero_add _) ?_
  refine x_iconst (q := 8) (v := 1) dX5_no_7 rfl (by decide) ?_
  refine x_iadd (q := 9) dX5_no_8 rfl ?_
  refine x_iast (q := 10) dX5_no_9 rfl (ar_53) (ix_nI hw (by decide)) (Nat.zero_add _) rfl ?_
  refine x_ldc (q := 12) dX5_no_10 rfl kc_X5_47 ?_
  refine x_iload_n (q := 13) dX5_no_12 rfl rfl ?_
  refine x_isub (q := 14) dX5_no_13 rfl ?_
  refine x_ireturn dX5_no_14 rfl rfl ?_
  exact ⟨rfl, rfl⟩
theorem dX5_bits_0 : decode cX5_bits 0 = .ok (.iconst 0, 1) := by decide +kernel
theorem dX5_bits_1 : decode cX5_bits 1 = .ok (.istore_n 1, 1) := by decide +kernel
theorem dX5_bits_2 : decode cX5_bits 2 = .ok (.iload_n 0, 1) := by decide +kernel
theorem dX5_bits_3 : decode cX5_bits 3 = .ok (.istore_n 2, 1) := by decide +kernel
theorem dX5_bits_4 : decode cX5_bits 4 = .ok (.iload_n 2, 1) := by decide +kernel
theorem dX5_bits_5 : decode cX5_bits 5 = .ok (.ifCond .eq 15, 3) := by decide +kernel
theorem dX5_bits_8 : decode cX5_bits 8 = .ok (.iinc 1 1, 3) := by decide +kernel
theorem dX5_bits_11 : decode cX5_bits 11 = .ok (.iload_n 2, 1) := by decide +kernel
theorem dX5_bits_12 : decode cX5_bits 12 = .ok (.iload_n 2, 1) := by decide +kernel
theorem dX5_bits_13 : decode cX5_bits 13 = .ok (.iconst 1, 1) := by decide +kernel
theorem dX5_bits_14 : decode cX5_bits 14 = .ok (.isub, 1) := by decide +kernel
theorem dX5_bits_15 : decode cX5_bits 15 = .ok (.iand, 1) := by decide +kernel
theorem dX5_bits_16 : decode cX5_bits 16 = .ok (.istore_n 2, 1) := by decide +kernel
theorem dX5_bits_17 : decode cX5_bits 17 = .ok (.goto (-13), 3) := by decide +kernel
theorem dX5_bits_20 : decode cX5_bits 20 = .ok (.iload_n 1, 1) := by decide +kernel
theorem dX5_bits_21 : decode cX5_bits 21 = .ok (.ireturn, 1) := by decide +kernel
set_option maxRecDepth 20000 in
set_option maxHeartbeats 4000000 in
theorem l_X5_bits {K : Cx} {x : Int32} {m : TM} : ∀ (n : Nat) (y c : Nat), y < n → y < 256 → XX RX5 cX5_bits 3 (some .int) 0 0 K 4 [some (.int x), some (.int (nI c)), some (.int (nI y))] [] (m) (fun r1 m1 => r1 = (some (.int (nI (c + bt 9 y)))) ∧ m1 = m) := by
  intro n
  induction n with
  | zero => intro y c hlt; exact absurd hlt (Nat.not_lt_zero _)
  | succ n ih =>
    intro y c hlt hy
    refine x_iload_n (q := 5) dX5_bits_4 rfl rfl ?_
    refine x_if_eq (q := 8) (t := 20) dX5_bits_5 rfl (by decide) (fun h5 => ?_) (fun h5 => ?_)
    · refine x_iload_n (q := 21) dX5_bits_20 rfl rfl ?_
      refine x_ireturn dX5_bits_21 rfl rfl ?_
      have e : y = 0 := (jnI_inj (b := 0) (by omega) (by omega)).mp h5
      subst e
      exact ⟨rfl, rfl⟩
    refine x_iinc (q := 11) (v := nI (c + 1)) dX5_bits_8 rfl rfl (jnI_s c) (by decide) rfl rfl ?_
    refine x_iload_n (q := 12) dX5_bits_11 rfl rfl ?_
    refine x_iload_n (q := 13) dX5_bits_12 rfl rfl ?_
    refine x_iconst (q := 14) (v := 1) dX5_bits_13 rfl (by decide) ?_
    refine x_isub (q := 15) dX5_bits_14 rfl ?_
    refine x_iand (q := 16) dX5_bits_15 rfl ?_
    refine x_istore_n (q := 17) dX5_bits_16 rfl (by decide) rfl rfl ?_
    refine x_goto (q := 4) dX5_bits_17 (by decide) ?_
    have hy0 : y ≠ 0 := fun q => h5 (by rw [q]; rfl)
    obtain ⟨b1, b2⟩ := bt_step y hy hy0
    have e1 : nI y &&& (nI y - 1) = nI (y &&& (y - 1)) := by
      rw [show y = (y - 1) + 1 by omega, nI_pred, ← show y = (y - 1) + 1 by omega, fa_and]
    rw [e1, b1, ← Nat.add_assoc]
    exact ih (y &&& (y - 1)) (c + 1) (by omega) (by omega)
set_option maxRecDepth 20000 in
set_option maxHeartbeats 4000000 in
theorem c_X5_bits {K : Cx} {x : Nat} {m : TM} (hx : x < 256) : CT yX5_bits cX5_bits 3 (some .int) 0 0 K [.int (nI x)] (m) (some (.int (nI (bt 9 x)))) (m) := by
  refine ct_ofd (n := 2) (by decide +kernel) rfl rfl ?_
  show XX RX5 cX5_bits 3 (some .int) 0 0 K 0 [some (.int (nI x)), none, none] [] (m) (fun r1 m1 => r1 = (some (.int (nI (bt 9 x)))) ∧ m1 = m)
  refine x_iconst (q := 1) (v := 0) dX5_bits_0 rfl (by decide) ?_
  refine x_istore_n (q := 2) dX5_bits_1 rfl (by decide) rfl rfl ?_
  refine x_iload_n (q := 3) dX5_bits_2 rfl rfl ?_
  refine x_istore_n (q := 4) dX5_bits_3 rfl (by decide) rfl rfl ?_
  have h := l_X5_bits (K := K) (x := nI x) (m := m) (x + 1) x 0 (by omega) hx
  rw [Nat.zero_add] at h
  exact h
theorem dX5_setsAside_0 : decode cX5_setsAside 0 = .ok (.iconst 0, 1) := by decide +kernel
theorem dX5_setsAside_1 : decode cX5_setsAside 1 = .ok (.istore_n 1, 1) := by decide +kernel
theorem dX5_setsAside_2 : decode cX5_setsAside 2 = .ok (.iload_n 1, 1) := by decide +kernel
theorem dX5_setsAside_3 : decode cX5_setsAside 3 = .ok (.bipush 78, 2) := by decide +kernel
theorem dX5_setsAside_5 : decode cX5_setsAside 5 = .ok (.if_icmp .ge 21, 3) := by decide +kernel
theorem dX5_setsAside_8 : decode cX5_setsAside 8 = .ok (.aload_n 0, 1) := by decide +kernel
theorem dX5_setsAside_9 : decode cX5_setsAside 9 = .ok (.getfield 16, 3) := by decide +kernel
theorem dX5_setsAside_12 : decode cX5_setsAside 12 = .ok (.iload_n 1, 1) := by decide +kernel
theorem dX5_setsAside_13 : decode cX5_setsAside 13 = .ok (.aload_n 0, 1) := by decide +kernel
theorem dX5_setsAside_14 : decode cX5_setsAside 14 = .ok (.getfield 9, 3) := by decide +kernel
theorem dX5_setsAside_17 : decode cX5_setsAside 17 = .ok (.iload_n 1, 1) := by decide +kernel
theorem dX5_setsAside_18 : decode cX5_setsAside 18 = .ok (.iaload, 1) := by decide +kernel
theorem dX5_setsAside_19 : decode cX5_setsAside 19 = .ok (.iastore, 1) := by decide +kernel
theorem dX5_setsAside_20 : decode cX5_setsAside 20 = .ok (.iinc 1 1, 3) := by decide +kernel
theorem dX5_setsAside_23 : decode cX5_setsAside 23 = .ok (.goto (-21), 3) := by decide +kernel
theorem dX5_setsAside_26 : decode cX5_setsAside 26 = .ok (.return_, 1) := by decide +kernel
set_option maxRecDepth 20000 in
set_option maxHeartbeats 4000000 in
theorem l_X5_setsAside {K : Cx} {m : TM} : ∀ (n : Nat) (j : Nat), 78 - j < n → j ≤ 78 → XX RX5 cX5_setsAside 2 none 0 0 K 2 [some (.ref 49), some (.int (nI j))] [] (sr m 52 (cpR (m.1 52) (m.1 50) 0 0 j)) (fun r1 m1 => r1 = none ∧ m1 = sr m 52 (m.1 50)) := by
  intro n
  induction n with
  | zero => intro j hlt; exact absurd hlt (Nat.not_lt_zero _)
  | succ n ih =>
    intro j hlt hj
    refine x_iload_n (q := 3) dX5_setsAside_2 rfl rfl ?_
    refine x_bipush (q := 5) (v := 78) dX5_setsAside_3 rfl (by decide) ?_
    refine x_icmp_ge (q := 8) (t := 26) dX5_setsAside_5 rfl (by decide) (fun h5 => ?_) (fun h5 => ?_)
    · have e : j = 78 := Nat.le_antisymm hj (lp_stop (n := 78) rfl (by omega) (by omega) h5)
      subst e
      refine x_ag (m' := sr m 52 (m.1 50)) (ag_row fun i hi => ?_) ?_
      · show cpR _ _ 0 0 78 i = _
        unfold cpR
        rw [if_pos ⟨Nat.zero_le _, by have : rsz 52 = 78 := rfl; omega⟩, Nat.zero_add, Nat.sub_zero]
      refine x_return dX5_setsAside_26 rfl ?_
      exact ⟨rfl, rfl⟩
    have hjn : j < 78 := lp_go (n := 78) rfl (by omega) (by omega) h5
    refine x_aload_n (q := 9) dX5_setsAside_8 rfl rfl ?_
    refine x_getR (q := 12) dX5_setsAside_9 rfl fl_X5_16 (or5_aside) ?_
    refine x_iload_n (q := 13) dX5_setsAside_12 rfl rfl ?_
    refine x_aload_n (q := 14) dX5_setsAside_13 rfl rfl ?_
    refine x_getR (q := 17) dX5_setsAside_14 rfl fl_X5_9 (or5_s) ?_
    refine x_iload_n (q := 18) dX5_setsAside_17 rfl rfl ?_
    refine x_iald (q := 19) dX5_setsAside_18 rfl (ar_50) (ix_nI hjn (by decide)) (Nat.zero_add _) ?_
    refine x_iastr (q := 20) dX5_setsAside_19 rfl (ar_52) (ix_nI hjn (by decide)) (Nat.zero_add _)  ?_
    refine x_iinc (q := 23) (v := nI (j + 1)) dX5_setsAside_20 rfl rfl (jnI_s j) (by decide) rfl rfl ?_
    refine x_goto (q := 2) dX5_setsAside_23 (by decide) ?_
    have e : upd (cpR (m.1 52) (m.1 50) 0 0 j) j ((sr m 52 (cpR (m.1 52) (m.1 50) 0 0 j)).1 50 j) = cpR (m.1 52) (m.1 50) 0 0 (j + 1) := by
      rw [sr_ne (by decide)]
      funext i
      unfold upd cpR
      by_cases h1 : i = j
      · subst h1
        rw [if_pos rfl, if_pos (by omega), Nat.zero_add, Nat.sub_zero]
      · rw [if_neg h1]
        by_cases h2 : i < j
        · rw [if_pos (by omega), if_pos (by omega)]
        · rw [if_neg (by omega), if_neg (by omega)]
    rw [e]
    exact ih (j + 1) (by omega) (by omega)
set_option maxRecDepth 20000 in
set_option maxHeartbeats 4000000 in
theorem c_X5_setsAside {K : Cx} {m : TM} : CT yX5_setsAside cX5_setsAside 2 none 0 0 K [.ref 49] (m) none (sr m 52 (m.1 50)) := by
  refine ct_ofd (n := 1) (by decide +kernel) rfl rfl ?_
  show XX RX5 cX5_setsAside 2 none 0 0 K 0 [some (.ref 49), none] [] (m) (fun r1 m1 => r1 = none ∧ m1 = sr m 52 (m.1 50))
  refine x_iconst (q := 1) (v := 0) dX5_setsAside_0 rfl (by decide) ?_
  refine x_istore_n (q := 2) dX5_setsAside_1 rfl (by decide) rfl rfl ?_
  have e : cpR (m.1 52) (m.1 50) 0 0 0 = m.1 52 := by
    funext i
    unfold cpR
    rw [if_neg (by omega)]
  have h := l_X5_setsAside (K := K) (m := m) 79 0 (by omega) (by omega)
  rw [e, sr_self] at h
  exact h
theorem dX5_laysBack_0 : decode cX5_laysBack 0 = .ok (.iconst 0, 1) := by decide +kernel
theorem dX5_laysBack_1 : decode cX5_laysBack 1 = .ok (.istore_n 1, 1) := by decide +kernel
theorem dX5_laysBack_2 : decode cX5_laysBack 2 = .ok (.iload_n 1, 1) := by decide +kernel
theorem dX5_laysBack_3 : decode cX5_laysBack 3 = .ok (.bipush 78, 2) := by decide +kernel
theorem dX5_laysBack_5 : decode cX5_laysBack 5 = .ok (.if_icmp .ge 21, 3) := by decide +kernel
theorem dX5_laysBack_8 : decode cX5_laysBack 8 = .ok (.aload_n 0, 1) := by decide +kernel
theorem dX5_laysBack_9 : decode cX5_laysBack 9 = .ok (.getfield 9, 3) := by decide +kernel
theorem dX5_laysBack_12 : decode cX5_laysBack 12 = .ok (.iload_n 1, 1) := by decide +kernel
theorem dX5_laysBack_13 : decode cX5_laysBack 13 = .ok (.aload_n 0, 1) := by decide +kernel
theorem dX5_laysBack_14 : decode cX5_laysBack 14 = .ok (.getfield 16, 3) := by decide +kernel
theorem dX5_laysBack_17 : decode cX5_laysBack 17 = .ok (.iload_n 1, 1) := by decide +kernel
theorem dX5_laysBack_18 : decode cX5_laysBack 18 = .ok (.iaload, 1) := by decide +kernel
theorem dX5_laysBack_19 : decode cX5_laysBack 19 = .ok (.iastore, 1) := by decide +kernel
theorem dX5_laysBack_20 : decode cX5_laysBack 20 = .ok (.iinc 1 1, 3) := by decide +kernel
theorem dX5_laysBack_23 : decode cX5_laysBack 23 = .ok (.goto (-21), 3) := by decide +kernel
theorem dX5_laysBack_26 : decode cX5_laysBack 26 = .ok (.return_, 1) := by decide +kernel
set_option maxRecDepth 20000 in
set_option maxHeartbeats 4000000 in
theorem l_X5_laysBack {K : Cx} {m : TM} : ∀ (n : Nat) (j : Nat), 78 - j < n → j ≤ 78 → XX RX5 cX5_laysBack 2 none 0 0 K 2 [some (.ref 49), some (.int (nI j))] [] (sr m 50 (cpR (m.1 50) (m.1 52) 0 0 j)) (fun r1 m1 => r1 = none ∧ m1 = sr m 50 (m.1 52)) := by
  intro n
  induction n with
  | zero => intro j hlt; exact absurd hlt (Nat.not_lt_zero _)
  | succ n ih =>
    intro j hlt hj
    refine x_iload_n (q := 3) dX5_laysBack_2 rfl rfl ?_
    refine x_bipush (q := 5) (v := 78) dX5_laysBack_3 rfl (by decide) ?_
    refine x_icmp_ge (q := 8) (t := 26) dX5_laysBack_5 rfl (by decide) (fun h5 => ?_) (fun h5 => ?_)
    · have e : j = 78 := Nat.le_antisymm hj (lp_stop (n := 78) rfl (by omega) (by omega) h5)
      subst e
      refine x_ag (m' := sr m 50 (m.1 52)) (ag_row fun i hi => ?_) ?_
      · show cpR _ _ 0 0 78 i = _
        unfold cpR
        rw [if_pos ⟨Nat.zero_le _, by have : rsz 50 = 78 := rfl; omega⟩, Nat.zero_add, Nat.sub_zero]
      refine x_return dX5_laysBack_26 rfl ?_
      exact ⟨rfl, rfl⟩
    have hjn : j < 78 := lp_go (n := 78) rfl (by omega) (by omega) h5
    refine x_aload_n (q := 9) dX5_laysBack_8 rfl rfl ?_
    refine x_getR (q := 12) dX5_laysBack_9 rfl fl_X5_9 (or5_s) ?_
    refine x_iload_n (q := 13) dX5_laysBack_12 rfl rfl ?_
    refine x_aload_n (q := 14) dX5_laysBack_13 rfl rfl ?_
    refine x_getR (q := 17) dX5_laysBack_14 rfl fl_X5_16 (or5_aside) ?_
    refine x_iload_n (q := 18) dX5_laysBack_17 rfl rfl ?_
    refine x_iald (q := 19) dX5_laysBack_18 rfl (ar_52) (ix_nI hjn (by decide)) (Nat.zero_add _) ?_
    refine x_iastr (q := 20) dX5_laysBack_19 rfl (ar_50) (ix_nI hjn (by decide)) (Nat.zero_add _)  ?_
    refine x_iinc (q := 23) (v := nI (j + 1)) dX5_laysBack_20 rfl rfl (jnI_s j) (by decide) rfl rfl ?_
    refine x_goto (q := 2) dX5_laysBack_23 (by decide) ?_
    have e : upd (cpR (m.1 50) (m.1 52) 0 0 j) j ((sr m 50 (cpR (m.1 50) (m.1 52) 0 0 j)).1 52 j) = cpR (m.1 50) (m.1 52) 0 0 (j + 1) := by
      rw [sr_ne (by decide)]
      funext i
      unfold upd cpR
      by_cases h1 : i = j
      · subst h1
        rw [if_pos rfl, if_pos (by omega), Nat.zero_add, Nat.sub_zero]
      · rw [if_neg h1]
        by_cases h2 : i < j
        · rw [if_pos (by omega), if_pos (by omega)]
        · rw [if_neg (by omega), if_neg (by omega)]
    rw [e]
    exact ih (j + 1) (by omega) (by omega)
set_option maxRecDepth 20000 in
set_option maxHeartbeats 4000000 in
theorem c_X5_laysBack {K : Cx} {m : TM} : CT yX5_laysBack cX5_laysBack 2 none 0 0 K [.ref 49] (m) none (sr m 50 (m.1 52)) := by
  refine ct_ofd (n := 1) (by decide +kernel) rfl rfl ?_
  show XX RX5 cX5_laysBack 2 none 0 0 K 0 [some (.ref 49), none] [] (m) (fun r1 m1 => r1 = none ∧ m1 = sr m 50 (m.1 52))
  refine x_iconst (q := 1) (v := 0) dX5_laysBack_0 rfl (by decide) ?_
  refine x_istore_n (q := 2) dX5_laysBack_1 rfl (by decide) rfl rfl ?_
  have e : cpR (m.1 50) (m.1 52) 0 0 0 = m.1 50 := by
    funext i
    unfold cpR
    rw [if_neg (by omega)]
  have h := l_X5_laysBack (K := K) (m := m) 79 0 (by omega) (by omega)
  rw [e, sr_self] at h
  exact h
theorem dX5_isSigned_0 : decode cX5_isSigned 0 = .ok (.iload_n 2, 1) := by decide +kernel
theorem dX5_isSigned_1 : decode cX5_isSigned 1 = .ok (.aload_n 0, 1) := by decide +kernel
theorem dX5_isSigned_2 : decode cX5_isSigned 2 = .ok (.iload_n 1, 1) := by decide +kernel
theorem dX5_isSigned_3 : decode cX5_isSigned 3 = .ok (.iconst 1, 1) := by decide +kernel
theorem dX5_isSigned_4 : decode cX5_isSigned 4 = .ok (.invokevirtual 52, 3) := by decide +kernel
theorem dX5_isSigned_7 : decode cX5_isSigned 7 = .ok (.if_icmp .lt 7, 3) := by decide +kernel
theorem dX5_isSigned_10 : decode cX5_isSigned 10 = .ok (.iconst 1, 1) := by decide +kernel
theorem dX5_isSigned_11 : decode cX5_isSigned 11 = .ok (.goto 4, 3) := by decide +kernel
theorem dX5_isSigned_14 : decode cX5_isSigned 14 = .ok (.iconst 0, 1) := by decide +kernel
theorem dX5_isSigned_15 : decode cX5_isSigned 15 = .ok (.istore_n 3, 1) := by decide +kernel
theorem dX5_isSigned_16 : decode cX5_isSigned 16 = .ok (.iload_n 3, 1) := by decide +kernel
theorem dX5_isSigned_17 : decode cX5_isSigned 17 = .ok (.ifCond .eq 17, 3) := by decide +kernel
theorem dX5_isSigned_20 : decode cX5_isSigned 20 = .ok (.aload_n 0, 1) := by decide +kernel
theorem dX5_isSigned_21 : decode cX5_isSigned 21 = .ok (.iload_n 1, 1) := by decide +kernel
theorem dX5_isSigned_22 : decode cX5_isSigned 22 = .ok (.iconst 2, 1) := by decide +kernel
theorem dX5_isSigned_23 : decode cX5_isSigned 23 = .ok (.invokevirtual 52, 3) := by decide +kernel
theorem dX5_isSigned_26 : decode cX5_isSigned 26 = .ok (.iconst 5, 1) := by decide +kernel
theorem dX5_isSigned_27 : decode cX5_isSigned 27 = .ok (.if_icmp .lt 7, 3) := by decide +kernel
theorem dX5_isSigned_30 : decode cX5_isSigned 30 = .ok (.iconst 1, 1) := by decide +kernel
theorem dX5_isSigned_31 : decode cX5_isSigned 31 = .ok (.goto 4, 3) := by decide +kernel
theorem dX5_isSigned_34 : decode cX5_isSigned 34 = .ok (.iconst 0, 1) := by decide +kernel
theorem dX5_isSigned_35 : decode cX5_isSigned 35 = .ok (.istore 4, 2) := by decide +kernel
theorem dX5_isSigned_37 : decode cX5_isSigned 37 = .ok (.iload_n 2, 1) := by decide +kernel
theorem dX5_isSigned_38 : decode cX5_isSigned 38 = .ok (.aload_n 0, 1) := by decide +kernel
theorem dX5_isSigned_39 : decode cX5_isSigned 39 = .ok (.iload_n 1, 1) := by decide +kernel
theorem dX5_isSigned_40 : decode cX5_isSigned 40 = .ok (.iconst 1, 1) := by decide +kernel
theorem dX5_isSigned_41 : decode cX5_isSigned 41 = .ok (.invokevirtual 52, 3) := by decide +kernel
theorem dX5_isSigned_44 : decode cX5_isSigned 44 = .ok (.aload_n 0, 1) := by decide +kernel
theorem dX5_isSigned_45 : decode cX5_isSigned 45 = .ok (.iload_n 1, 1) := by decide +kernel
theorem dX5_isSigned_46 : decode cX5_isSigned 46 = .ok (.iconst 2, 1) := by decide +kernel
theorem dX5_isSigned_47 : decode cX5_isSigned 47 = .ok (.invokevirtual 52, 3) := by decide +kernel
theorem dX5_isSigned_50 : decode cX5_isSigned 50 = .ok (.bipush 20, 2) := by decide +kernel
theorem dX5_isSigned_52 : decode cX5_isSigned 52 = .ok (.idiv, 1) := by decide +kernel
theorem dX5_isSigned_53 : decode cX5_isSigned 53 = .ok (.iadd, 1) := by decide +kernel
theorem dX5_isSigned_54 : decode cX5_isSigned 54 = .ok (.if_icmp .lt 7, 3) := by decide +kernel
theorem dX5_isSigned_57 : decode cX5_isSigned 57 = .ok (.iconst 1, 1) := by decide +kernel
theorem dX5_isSigned_58 : decode cX5_isSigned 58 = .ok (.goto 4, 3) := by decide +kernel
theorem dX5_isSigned_61 : decode cX5_isSigned 61 = .ok (.iconst 0, 1) := by decide +kernel
theorem dX5_isSigned_62 : decode cX5_isSigned 62 = .ok (.istore 5, 2) := by decide +kernel
theorem dX5_isSigned_64 : decode cX5_isSigned 64 = .ok (.aload_n 0, 1) := by decide +kernel
theorem dX5_isSigned_65 : decode cX5_isSigned 65 = .ok (.iload_n 1, 1) := by decide +kernel
theorem dX5_isSigned_66 : decode cX5_isSigned 66 = .ok (.iconst 0, 1) := by decide +kernel
theorem dX5_isSigned_67 : decode cX5_isSigned 67 = .ok (.invokevirtual 52, 3) := by decide +kernel
theorem dX5_isSigned_70 : decode cX5_isSigned 70 = .ok (.tableswitch 99 1 6 #[38, 41, 41, 44, 67, 77], 38) := by decide +kernel
theorem dX5_isSigned_108 : decode cX5_isSigned 108 = .ok (.iload 4, 2) := by decide +kernel
theorem dX5_isSigned_110 : decode cX5_isSigned 110 = .ok (.ireturn, 1) := by decide +kernel
theorem dX5_isSigned_111 : decode cX5_isSigned 111 = .ok (.iload 5, 2) := by decide +kernel
theorem dX5_isSigned_113 : decode cX5_isSigned 113 = .ok (.ireturn, 1) := by decide +kernel
theorem dX5_isSigned_114 : decode cX5_isSigned 114 = .ok (.iload 5, 2) := by decide +kernel
theorem dX5_isSigned_116 : decode cX5_isSigned 116 = .ok (.ifCond .eq 19, 3) := by decide +kernel
theorem dX5_isSigned_119 : decode cX5_isSigned 119 = .ok (.aload_n 0, 1) := by decide +kernel
theorem dX5_isSigned_120 : decode cX5_isSigned 120 = .ok (.iload_n 1, 1) := by decide +kernel
theorem dX5_isSigned_121 : decode cX5_isSigned 121 = .ok (.bipush 6, 2) := by decide +kernel
theorem dX5_isSigned_123 : decode cX5_isSigned 123 = .ok (.invokevirtual 52, 3) := by decide +kernel
theorem dX5_isSigned_126 : decode cX5_isSigned 126 = .ok (.bipush 7, 2) := by decide +kernel
theorem dX5_isSigned_128 : decode cX5_isSigned 128 = .ok (.if_icmp .lt 7, 3) := by decide +kernel
theorem dX5_isSigned_131 : decode cX5_isSigned 131 = .ok (.iconst 1, 1) := by decide +kernel
theorem dX5_isSigned_132 : decode cX5_isSigned 132 = .ok (.goto 4, 3) := by decide +kernel
theorem dX5_isSigned_135 : decode cX5_isSigned 135 = .ok (.iconst 0, 1) := by decide +kernel
theorem dX5_isSigned_136 : decode cX5_isSigned 136 = .ok (.ireturn, 1) := by decide +kernel
theorem dX5_isSigned_137 : decode cX5_isSigned 137 = .ok (.iload_n 2, 1) := by decide +kernel
theorem dX5_isSigned_138 : decode cX5_isSigned 138 = .ok (.ifCond .le 7, 3) := by decide +kernel
theorem dX5_isSigned_141 : decode cX5_isSigned 141 = .ok (.iconst 1, 1) := by decide +kernel
theorem dX5_isSigned_142 : decode cX5_isSigned 142 = .ok (.goto 4, 3) := by decide +kernel
theorem dX5_isSigned_145 : decode cX5_isSigned 145 = .ok (.iconst 0, 1) := by decide +kernel
theorem dX5_isSigned_146 : decode cX5_isSigned 146 = .ok (.ireturn, 1) := by decide +kernel
theorem dX5_isSigned_147 : decode cX5_isSigned 147 = .ok (.iload 4, 2) := by decide +kernel
theorem dX5_isSigned_149 : decode cX5_isSigned 149 = .ok (.ifCond .eq 18, 3) := by decide +kernel
theorem dX5_isSigned_152 : decode cX5_isSigned 152 = .ok (.aload_n 0, 1) := by decide +kernel
theorem dX5_isSigned_153 : decode cX5_isSigned 153 = .ok (.getfield 9, 3) := by decide +kernel
theorem dX5_isSigned_156 : decode cX5_isSigned 156 = .ok (.iconst 0, 1) := by decide +kernel
theorem dX5_isSigned_157 : decode cX5_isSigned 157 = .ok (.iaload, 1) := by decide +kernel
theorem dX5_isSigned_158 : decode cX5_isSigned 158 = .ok (.iconst 2, 1) := by decide +kernel
theorem dX5_isSigned_159 : decode cX5_isSigned 159 = .ok (.irem, 1) := by decide +kernel
theorem dX5_isSigned_160 : decode cX5_isSigned 160 = .ok (.ifCond .ne 7, 3) := by decide +kernel
theorem dX5_isSigned_163 : decode cX5_isSigned 163 = .ok (.iconst 1, 1) := by decide +kernel
theorem dX5_isSigned_164 : decode cX5_isSigned 164 = .ok (.goto 4, 3) := by decide +kernel
theorem dX5_isSigned_167 : decode cX5_isSigned 167 = .ok (.iconst 0, 1) := by decide +kernel
theorem dX5_isSigned_168 : decode cX5_isSigned 168 = .ok (.ireturn, 1) := by decide +kernel
theorem dX5_isSigned_169 : decode cX5_isSigned 169 = .ok (.iload_n 3, 1) := by decide +kernel
theorem dX5_isSigned_170 : decode cX5_isSigned 170 = .ok (.ireturn, 1) := by decide +kernel
set_option maxRecDepth 20000 in
set_option maxHeartbeats 4000000 in
theorem c_X5_isSigned {K : Cx} {k : Nat} {t : Int32} {s : Nat → Int32} {m : TM} (hk : k < 8) : CT yX5_isSigned cX5_isSigned 6 (some .boolean) 1 22 K [.ref 49, .int (nI k), .int t] (sr m 50 s) (some (.int (bI (sg (s (12 + 7 * k + 0)) (s (12 + 7 * k + 1)) (s (12 + 7 * k + 2)) (s (12 + 7 * k + 6)) (s 0) t)))) (sr m 50 s) := by
  refine ct_ofd (n := 3) (by decide +kernel) rfl rfl ?_
  show XX RX5 cX5_isSigned 6 (some .boolean) 1 22 K 0 [some (.ref 49), some (.int (nI k)), some (.int t), none, none, none] [] (sr m 50 s) (fun r1 m1 => r1 = (some (.int (bI (sg (s (12 + 7 * k + 0)) (s (12 + 7 * k + 1)) (s (12 + 7 * k + 2)) (s (12 + 7 * k + 6)) (s 0) t)))) ∧ m1 = sr m 50 s)
  refine x_iload_n (q := 1) dX5_isSigned_0 rfl rfl ?_
  refine x_aload_n (q := 2) dX5_isSigned_1 rfl rfl ?_
  refine x_iload_n (q := 3) dX5_isSigned_2 rfl rfl ?_
  refine x_iconst (q := 4) (v := 1) dX5_isSigned_3 rfl (by decide) ?_
  refine x_callV2v (q := 7) dX5_isSigned_4 rfl ml_X5_52 mv_X5_get rv5 rfl (c_X5_getr (f := 1) hk (by decide)) (Nat.le_of_ble_eq_true rfl) ⟨by decide, by decide⟩ ?_
  refine x_icmp_lt (q := 10) (t := 14) dX5_isSigned_7 rfl (by decide) (fun h7 => ?_) (fun h7 => ?_)
  · refine x_iconst (q := 15) (v := 0) dX5_isSigned_14 rfl (by decide) ?_
    refine x_istore_n (q := 16) dX5_isSigned_15 rfl (by decide) rfl rfl ?_
    refine x_iload_n (q := 17) dX5_isSigned_16 rfl rfl ?_
    refine x_if_eq (q := 20) (t := 34) dX5_isSigned_17 rfl (by decide) (fun _ => ?_) (fun h => absurd (by decide) h)
    refine x_iconst (q := 35) (v := 0) dX5_isSigned_34 rfl (by decide) ?_
    refine x_istore (q := 37) dX5_isSigned_35 rfl (by decide) rfl rfl ?_
    refine x_iload_n (q := 38) dX5_isSigned_37 rfl rfl ?_
    refine x_aload_n (q := 39) dX5_isSigned_38 rfl rfl ?_
    refine x_iload_n (q := 40) dX5_isSigned_39 rfl rfl ?_
    refine x_iconst (q := 41) (v := 1) dX5_isSigned_40 rfl (by decide) ?_
    refine x_callV2v (q := 44) dX5_isSigned_41 rfl ml_X5_52 mv_X5_get rv5 rfl (c_X5_getr (f := 1) hk (by decide)) (Nat.le_of_ble_eq_true rfl) ⟨by decide, by decide⟩ ?_
    refine x_aload_n (q := 45) dX5_isSigned_44 rfl rfl ?_
    refine x_iload_n (q := 46) dX5_isSigned_45 rfl rfl ?_
    refine x_iconst (q := 47) (v := 2) dX5_isSigned_46 rfl (by decide) ?_
    refine x_callV2v (q := 50) dX5_isSigned_47 rfl ml_X5_52 mv_X5_get rv5 rfl (c_X5_getr (f := 2) hk (by decide)) (Nat.le_of_ble_eq_true rfl) ⟨by decide, by decide⟩ ?_
    refine x_bipush (q := 52) (v := 20) dX5_isSigned_50 rfl (by decide) ?_
    refine x_idiv (q := 53) dX5_isSigned_52 rfl (by decide) ?_
    refine x_iadd (q := 54) dX5_isSigned_53 rfl ?_
    refine x_icmp_lt (q := 57) (t := 61) dX5_isSigned_54 rfl (by decide) (fun h54 => ?_) (fun h54 => ?_)
    · refine x_iconst (q := 62) (v := 0) dX5_isSigned_61 rfl (by decide) ?_
      refine x_istore (q := 64) dX5_isSigned_62 rfl (by decide) rfl rfl ?_
      refine x_aload_n (q := 65) dX5_isSigned_64 rfl rfl ?_
      refine x_iload_n (q := 66) dX5_isSigned_65 rfl rfl ?_
      refine x_iconst (q := 67) (v := 0) dX5_isSigned_66 rfl (by decide) ?_
      refine x_callV2v (q := 70) dX5_isSigned_67 rfl ml_X5_52 mv_X5_get rv5 rfl (c_X5_getr (f := 0) hk (by decide)) (Nat.le_of_ble_eq_true rfl) ⟨by decide, by decide⟩ ?_
      by_cases h70_1 : s (12 + 7 * k + 0) = 1
      · refine x_tswC (q := 108) (k := 1) dX5_isSigned_70 h70_1 (by decide) (by decide) rfl (by decide) ?_
        refine x_iload (q := 110) dX5_isSigned_108 rfl rfl ?_
        refine x_ireturn dX5_isSigned_110 rfl (by decide) ?_
        exact ⟨by simp_all [sg, bI], rfl⟩
      by_cases h70_2 : s (12 + 7 * k + 0) = 2
      · refine x_tswC (q := 111) (k := 2) dX5_isSigned_70 h70_2 (by decide) (by decide) rfl (by decide) ?_
        refine x_iload (q := 113) dX5_isSigned_111 rfl rfl ?_
        refine x_ireturn dX5_isSigned_113 rfl (by decide) ?_
        exact ⟨by simp_all [sg, bI], rfl⟩
      by_cases h70_3 : s (12 + 7 * k + 0) = 3
      · refine x_tswC (q := 111) (k := 3) dX5_isSigned_70 h70_3 (by decide) (by decide) rfl (by decide) ?_
        refine x_iload (q := 113) dX5_isSigned_111 rfl rfl ?_
        refine x_ireturn dX5_isSigned_113 rfl (by decide) ?_
        exact ⟨by simp_all [sg, bI], rfl⟩
      by_cases h70_4 : s (12 + 7 * k + 0) = 4
      · refine x_tswC (q := 114) (k := 4) dX5_isSigned_70 h70_4 (by decide) (by decide) rfl (by decide) ?_
        refine x_iload (q := 116) dX5_isSigned_114 rfl rfl ?_
        refine x_if_eq (q := 119) (t := 135) dX5_isSigned_116 rfl (by decide) (fun _ => ?_) (fun h => absurd (by decide) h)
        refine x_iconst (q := 136) (v := 0) dX5_isSigned_135 rfl (by decide) ?_
        refine x_ireturn dX5_isSigned_136 rfl (by decide) ?_
        exact ⟨by simp_all [sg, bI], rfl⟩
      by_cases h70_5 : s (12 + 7 * k + 0) = 5
      · refine x_tswC (q := 137) (k := 5) dX5_isSigned_70 h70_5 (by decide) (by decide) rfl (by decide) ?_
        refine x_iload_n (q := 138) dX5_isSigned_137 rfl rfl ?_
        refine x_if_le (q := 141) (t := 145) dX5_isSigned_138 rfl (by decide) (fun h138 => ?_) (fun h138 => ?_)
        · refine x_iconst (q := 146) (v := 0) dX5_isSigned_145 rfl (by decide) ?_
          refine x_ireturn dX5_isSigned_146 rfl (by decide) ?_
          exact ⟨by simp_all [sg, bI], rfl⟩
        refine x_iconst (q := 142) (v := 1) dX5_isSigned_141 rfl (by decide) ?_
        refine x_goto (q := 146) dX5_isSigned_142 (by decide) ?_
        refine x_ireturn dX5_isSigned_146 rfl (by decide) ?_
        exact ⟨by simp_all [sg, bI], rfl⟩
      by_cases h70_6 : s (12 + 7 * k + 0) = 6
      · refine x_tswC (q := 147) (k := 6) dX5_isSigned_70 h70_6 (by decide) (by decide) rfl (by decide) ?_
        refine x_iload (q := 149) dX5_isSigned_147 rfl rfl ?_
        refine x_if_eq (q := 152) (t := 167) dX5_isSigned_149 rfl (by decide) (fun _ => ?_) (fun h => absurd (by decide) h)
        refine x_iconst (q := 168) (v := 0) dX5_isSigned_167 rfl (by decide) ?_
        refine x_ireturn dX5_isSigned_168 rfl (by decide) ?_
        exact ⟨by simp_all [sg, bI], rfl⟩
      refine x_tswD (q := 169) dX5_isSigned_70 (by have n1 := lv_neT h70_1 (a := 1) (by decide); have n2 := lv_neT h70_2 (a := 2) (by decide); have n3 := lv_neT h70_3 (a := 3) (by decide); have n4 := lv_neT h70_4 (a := 4) (by decide); have n5 := lv_neT h70_5 (a := 5) (by decide); have n6 := lv_neT h70_6 (a := 6) (by decide); omega) (by decide) ?_
      refine x_iload_n (q := 170) dX5_isSigned_169 rfl rfl ?_
      refine x_ireturn dX5_isSigned_170 rfl (by decide) ?_
      exact ⟨by simp_all [sg, bI], rfl⟩
    refine x_iconst (q := 58) (v := 1) dX5_isSigned_57 rfl (by decide) ?_
    refine x_goto (q := 62) dX5_isSigned_58 (by decide) ?_
    refine x_istore (q := 64) dX5_isSigned_62 rfl (by decide) rfl rfl ?_
    refine x_aload_n (q := 65) dX5_isSigned_64 rfl rfl ?_
    refine x_iload_n (q := 66) dX5_isSigned_65 rfl rfl ?_
    refine x_iconst (q := 67) (v := 0) dX5_isSigned_66 rfl (by decide) ?_
    refine x_callV2v (q := 70) dX5_isSigned_67 rfl ml_X5_52 mv_X5_get rv5 rfl (c_X5_getr (f := 0) hk (by decide)) (Nat.le_of_ble_eq_true rfl) ⟨by decide, by decide⟩ ?_
    by_cases h70_1 : s (12 + 7 * k + 0) = 1
    · refine x_tswC (q := 108) (k := 1) dX5_isSigned_70 h70_1 (by decide) (by decide) rfl (by decide) ?_
      refine x_iload (q := 110) dX5_isSigned_108 rfl rfl ?_
      refine x_ireturn dX5_isSigned_110 rfl (by decide) ?_
      exact ⟨by simp_all [sg, bI], rfl⟩
    by_cases h70_2 : s (12 + 7 * k + 0) = 2
    · refine x_tswC (q := 111) (k := 2) dX5_isSigned_70 h70_2 (by decide) (by decide) rfl (by decide) ?_
      refine x_iload (q := 113) dX5_isSigned_111 rfl rfl ?_
      refine x_ireturn dX5_isSigned_113 rfl (by decide) ?_
      exact ⟨by simp_all [sg, bI], rfl⟩
    by_cases h70_3 : s (12 + 7 * k + 0) = 3
    · refine x_tswC (q := 111) (k := 3) dX5_isSigned_70 h70_3 (by decide) (by decide) rfl (by decide) ?_
      refine x_iload (q := 113) dX5_isSigned_111 rfl rfl ?_
      refine x_ireturn dX5_isSigned_113 rfl (by decide) ?_
      exact ⟨by simp_all [sg, bI], rfl⟩
    by_cases h70_4 : s (12 + 7 * k + 0) = 4
    · refine x_tswC (q := 114) (k := 4) dX5_isSigned_70 h70_4 (by decide) (by decide) rfl (by decide) ?_
      refine x_iload (q := 116) dX5_isSigned_114 rfl rfl ?_
      refine x_if_eq (q := 119) (t := 135) dX5_isSigned_116 rfl (by decide) (fun h => absurd h (by decide)) (fun _ => ?_)
      refine x_aload_n (q := 120) dX5_isSigned_119 rfl rfl ?_
      refine x_iload_n (q := 121) dX5_isSigned_120 rfl rfl ?_
      refine x_bipush (q := 123) (v := 6) dX5_isSigned_121 rfl (by decide) ?_
      refine x_callV2v (q := 126) dX5_isSigned_123 rfl ml_X5_52 mv_X5_get rv5 rfl (c_X5_getr (f := 6) hk (by decide)) (Nat.le_of_ble_eq_true rfl) ⟨by decide, by decide⟩ ?_
      refine x_bipush (q := 128) (v := 7) dX5_isSigned_126 rfl (by decide) ?_
      refine x_icmp_lt (q := 131) (t := 135) dX5_isSigned_128 rfl (by decide) (fun h128 => ?_) (fun h128 => ?_)
      · refine x_iconst (q := 136) (v := 0) dX5_isSigned_135 rfl (by decide) ?_
        refine x_ireturn dX5_isSigned_136 rfl (by decide) ?_
        exact ⟨by simp_all [sg, bI], rfl⟩
      refine x_iconst (q := 132) (v := 1) dX5_isSigned_131 rfl (by decide) ?_
      refine x_goto (q := 136) dX5_isSigned_132 (by decide) ?_
      refine x_ireturn dX5_isSigned_136 rfl (by decide) ?_
      exact ⟨by simp_all [sg, bI], rfl⟩
    by_cases h70_5 : s (12 + 7 * k + 0) = 5
    · refine x_tswC (q := 137) (k := 5) dX5_isSigned_70 h70_5 (by decide) (by decide) rfl (by decide) ?_
      refine x_iload_n (q := 138) dX5_isSigned_137 rfl rfl ?_
      refine x_if_le (q := 141) (t := 145) dX5_isSigned_138 rfl (by decide) (fun h138 => ?_) (fun h138 => ?_)
      · refine x_iconst (q := 146) (v := 0) dX5_isSigned_145 rfl (by decide) ?_
        refine x_ireturn dX5_isSigned_146 rfl (by decide) ?_
        exact ⟨by simp_all [sg, bI], rfl⟩
      refine x_iconst (q := 142) (v := 1) dX5_isSigned_141 rfl (by decide) ?_
      refine x_goto (q := 146) dX5_isSigned_142 (by decide) ?_
      refine x_ireturn dX5_isSigned_146 rfl (by decide) ?_
      exact ⟨by simp_all [sg, bI], rfl⟩
    by_cases h70_6 : s (12 + 7 * k + 0) = 6
    · refine x_tswC (q := 147) (k := 6) dX5_isSigned_70 h70_6 (by decide) (by decide) rfl (by decide) ?_
      refine x_iload (q := 149) dX5_isSigned_147 rfl rfl ?_
      refine x_if_eq (q := 152) (t := 167) dX5_isSigned_149 rfl (by decide) (fun _ => ?_) (fun h => absurd (by decide) h)
      refine x_iconst (q := 168) (v := 0) dX5_isSigned_167 rfl (by decide) ?_
      refine x_ireturn dX5_isSigned_168 rfl (by decide) ?_
      exact ⟨by simp_all [sg, bI], rfl⟩
    refine x_tswD (q := 169) dX5_isSigned_70 (by have n1 := lv_neT h70_1 (a := 1) (by decide); have n2 := lv_neT h70_2 (a := 2) (by decide); have n3 := lv_neT h70_3 (a := 3) (by decide); have n4 := lv_neT h70_4 (a := 4) (by decide); have n5 := lv_neT h70_5 (a := 5) (by decide); have n6 := lv_neT h70_6 (a := 6) (by decide); omega) (by decide) ?_
    refine x_iload_n (q := 170) dX5_isSigned_169 rfl rfl ?_
    refine x_ireturn dX5_isSigned_170 rfl (by decide) ?_
    exact ⟨by simp_all [sg, bI], rfl⟩
  refine x_iconst (q := 11) (v := 1) dX5_isSigned_10 rfl (by decide) ?_
  refine x_goto (q := 15) dX5_isSigned_11 (by decide) ?_
  refine x_istore_n (q := 16) dX5_isSigned_15 rfl (by decide) rfl rfl ?_
  refine x_iload_n (q := 17) dX5_isSigned_16 rfl rfl ?_
  refine x_if_eq (q := 20) (t := 34) dX5_isSigned_17 rfl (by decide) (fun h => absurd h (by decide)) (fun _ => ?_)
  refine x_aload_n (q := 21) dX5_isSigned_20 rfl rfl ?_
  refine x_iload_n (q := 22) dX5_isSigned_21 rfl rfl ?_
  refine x_iconst (q := 23) (v := 2) dX5_isSigned_22 rfl (by decide) ?_
  refine x_callV2v (q := 26) dX5_isSigned_23 rfl ml_X5_52 mv_X5_get rv5 rfl (c_X5_getr (f := 2) hk (by decide)) (Nat.le_of_ble_eq_true rfl) ⟨by decide, by decide⟩ ?_
  refine x_iconst (q := 27) (v := 5) dX5_isSigned_26 rfl (by decide) ?_
  refine x_icmp_lt (q := 30) (t := 34) dX5_isSigned_27 rfl (by decide) (fun h27 => ?_) (fun h27 => ?_)
  · refine x_iconst (q := 35) (v := 0) dX5_isSigned_34 rfl (by decide) ?_
    refine x_istore (q := 37) dX5_isSigned_35 rfl (by decide) rfl rfl ?_
    refine x_iload_n (q := 38) dX5_isSigned_37 rfl rfl ?_
    refine x_aload_n (q := 39) dX5_isSigned_38 rfl rfl ?_
    refine x_iload_n (q := 40) dX5_isSigned_39 rfl rfl ?_
    refine x_iconst (q := 41) (v := 1) dX5_isSigned_40 rfl (by decide) ?_
    refine x_callV2v (q := 44) dX5_isSigned_41 rfl ml_X5_52 mv_X5_get rv5 rfl (c_X5_getr (f := 1) hk (by decide)) (Nat.le_of_ble_eq_true rfl) ⟨by decide, by decide⟩ ?_
    refine x_aload_n (q := 45) dX5_isSigned_44 rfl rfl ?_
    refine x_iload_n (q := 46) dX5_isSigned_45 rfl rfl ?_
    refine x_iconst (q := 47) (v := 2) dX5_isSigned_46 rfl (by decide) ?_
    refine x_callV2v (q := 50) dX5_isSigned_47 rfl ml_X5_52 mv_X5_get rv5 rfl (c_X5_getr (f := 2) hk (by decide)) (Nat.le_of_ble_eq_true rfl) ⟨by decide, by decide⟩ ?_
    refine x_bipush (q := 52) (v := 20) dX5_isSigned_50 rfl (by decide) ?_
    refine x_idiv (q := 53) dX5_isSigned_52 rfl (by decide) ?_
    refine x_iadd (q := 54) dX5_isSigned_53 rfl ?_
    refine x_icmp_lt (q := 57) (t := 61) dX5_isSigned_54 rfl (by decide) (fun h54 => ?_) (fun h54 => ?_)
    · refine x_iconst (q := 62) (v := 0) dX5_isSigned_61 rfl (by decide) ?_
      refine x_istore (q := 64) dX5_isSigned_62 rfl (by decide) rfl rfl ?_
      refine x_aload_n (q := 65) dX5_isSigned_64 rfl rfl ?_
      refine x_iload_n (q := 66) dX5_isSigned_65 rfl rfl ?_
      refine x_iconst (q := 67) (v := 0) dX5_isSigned_66 rfl (by decide) ?_
      refine x_callV2v (q := 70) dX5_isSigned_67 rfl ml_X5_52 mv_X5_get rv5 rfl (c_X5_getr (f := 0) hk (by decide)) (Nat.le_of_ble_eq_true rfl) ⟨by decide, by decide⟩ ?_
      by_cases h70_1 : s (12 + 7 * k + 0) = 1
      · refine x_tswC (q := 108) (k := 1) dX5_isSigned_70 h70_1 (by decide) (by decide) rfl (by decide) ?_
        refine x_iload (q := 110) dX5_isSigned_108 rfl rfl ?_
        refine x_ireturn dX5_isSigned_110 rfl (by decide) ?_
        exact ⟨by simp_all [sg, bI], rfl⟩
      by_cases h70_2 : s (12 + 7 * k + 0) = 2
      · refine x_tswC (q := 111) (k := 2) dX5_isSigned_70 h70_2 (by decide) (by decide) rfl (by decide) ?_
        refine x_iload (q := 113) dX5_isSigned_111 rfl rfl ?_
        refine x_ireturn dX5_isSigned_113 rfl (by decide) ?_
        exact ⟨by simp_all [sg, bI], rfl⟩
      by_cases h70_3 : s (12 + 7 * k + 0) = 3
      · refine x_tswC (q := 111) (k := 3) dX5_isSigned_70 h70_3 (by decide) (by decide) rfl (by decide) ?_
        refine x_iload (q := 113) dX5_isSigned_111 rfl rfl ?_
        refine x_ireturn dX5_isSigned_113 rfl (by decide) ?_
        exact ⟨by simp_all [sg, bI], rfl⟩
      by_cases h70_4 : s (12 + 7 * k + 0) = 4
      · refine x_tswC (q := 114) (k := 4) dX5_isSigned_70 h70_4 (by decide) (by decide) rfl (by decide) ?_
        refine x_iload (q := 116) dX5_isSigned_114 rfl rfl ?_
        refine x_if_eq (q := 119) (t := 135) dX5_isSigned_116 rfl (by decide) (fun _ => ?_) (fun h => absurd (by decide) h)
        refine x_iconst (q := 136) (v := 0) dX5_isSigned_135 rfl (by decide) ?_
        refine x_ireturn dX5_isSigned_136 rfl (by decide) ?_
        exact ⟨by simp_all [sg, bI], rfl⟩
      by_cases h70_5 : s (12 + 7 * k + 0) = 5
      · refine x_tswC (q := 137) (k := 5) dX5_isSigned_70 h70_5 (by decide) (by decide) rfl (by decide) ?_
        refine x_iload_n (q := 138) dX5_isSigned_137 rfl rfl ?_
        refine x_if_le (q := 141) (t := 145) dX5_isSigned_138 rfl (by decide) (fun h138 => ?_) (fun h138 => ?_)
        · refine x_iconst (q := 146) (v := 0) dX5_isSigned_145 rfl (by decide) ?_
          refine x_ireturn dX5_isSigned_146 rfl (by decide) ?_
          exact ⟨by simp_all [sg, bI], rfl⟩
        refine x_iconst (q := 142) (v := 1) dX5_isSigned_141 rfl (by decide) ?_
        refine x_goto (q := 146) dX5_isSigned_142 (by decide) ?_
        refine x_ireturn dX5_isSigned_146 rfl (by decide) ?_
        exact ⟨by simp_all [sg, bI], rfl⟩
      by_cases h70_6 : s (12 + 7 * k + 0) = 6
      · refine x_tswC (q := 147) (k := 6) dX5_isSigned_70 h70_6 (by decide) (by decide) rfl (by decide) ?_
        refine x_iload (q := 149) dX5_isSigned_147 rfl rfl ?_
        refine x_if_eq (q := 152) (t := 167) dX5_isSigned_149 rfl (by decide) (fun _ => ?_) (fun h => absurd (by decide) h)
        refine x_iconst (q := 168) (v := 0) dX5_isSigned_167 rfl (by decide) ?_
        refine x_ireturn dX5_isSigned_168 rfl (by decide) ?_
        exact ⟨by simp_all [sg, bI], rfl⟩
      refine x_tswD (q := 169) dX5_isSigned_70 (by have n1 := lv_neT h70_1 (a := 1) (by decide); have n2 := lv_neT h70_2 (a := 2) (by decide); have n3 := lv_neT h70_3 (a := 3) (by decide); have n4 := lv_neT h70_4 (a := 4) (by decide); have n5 := lv_neT h70_5 (a := 5) (by decide); have n6 := lv_neT h70_6 (a := 6) (by decide); omega) (by decide) ?_
      refine x_iload_n (q := 170) dX5_isSigned_169 rfl rfl ?_
      refine x_ireturn dX5_isSigned_170 rfl (by decide) ?_
      exact ⟨by simp_all [sg, bI], rfl⟩
    refine x_iconst (q := 58) (v := 1) dX5_isSigned_57 rfl (by decide) ?_
    refine x_goto (q := 62) dX5_isSigned_58 (by decide) ?_
    refine x_istore (q := 64) dX5_isSigned_62 rfl (by decide) rfl rfl ?_
    refine x_aload_n (q := 65) dX5_isSigned_64 rfl rfl ?_
    refine x_iload_n (q := 66) dX5_isSigned_65 rfl rfl ?_
    refine x_iconst (q := 67) (v := 0) dX5_isSigned_66 rfl (by decide) ?_
    refine x_callV2v (q := 70) dX5_isSigned_67 rfl ml_X5_52 mv_X5_get rv5 rfl (c_X5_getr (f := 0) hk (by decide)) (Nat.le_of_ble_eq_true rfl) ⟨by decide, by decide⟩ ?_
    by_cases h70_1 : s (12 + 7 * k + 0) = 1
    · refine x_tswC (q := 108) (k := 1) dX5_isSigned_70 h70_1 (by decide) (by decide) rfl (by decide) ?_
      refine x_iload (q := 110) dX5_isSigned_108 rfl rfl ?_
      refine x_ireturn dX5_isSigned_110 rfl (by decide) ?_
      exact ⟨by simp_all [sg, bI], rfl⟩
    by_cases h70_2 : s (12 + 7 * k + 0) = 2
    · refine x_tswC (q := 111) (k := 2) dX5_isSigned_70 h70_2 (by decide) (by decide) rfl (by decide) ?_
      refine x_iload (q := 113) dX5_isSigned_111 rfl rfl ?_
      refine x_ireturn dX5_isSigned_113 rfl (by decide) ?_
      exact ⟨by simp_all [sg, bI], rfl⟩
    by_cases h70_3 : s (12 + 7 * k + 0) = 3
    · refine x_tswC (q := 111) (k := 3) dX5_isSigned_70 h70_3 (by decide) (by decide) rfl (by decide) ?_
      refine x_iload (q := 113) dX5_isSigned_111 rfl rfl ?_
      refine x_ireturn dX5_isSigned_113 rfl (by decide) ?_
      exact ⟨by simp_all [sg, bI], rfl⟩
    by_cases h70_4 : s (12 + 7 * k + 0) = 4
    · refine x_tswC (q := 114) (k := 4) dX5_isSigned_70 h70_4 (by decide) (by decide) rfl (by decide) ?_
      refine x_iload (q := 116) dX5_isSigned_114 rfl rfl ?_
      refine x_if_eq (q := 119) (t := 135) dX5_isSigned_116 rfl (by decide) (fun h => absurd h (by decide)) (fun _ => ?_)
      refine x_aload_n (q := 120) dX5_isSigned_119 rfl rfl ?_
      refine x_iload_n (q := 121) dX5_isSigned_120 rfl rfl ?_
      refine x_bipush (q := 123) (v := 6) dX5_isSigned_121 rfl (by decide) ?_
      refine x_callV2v (q := 126) dX5_isSigned_123 rfl ml_X5_52 mv_X5_get rv5 rfl (c_X5_getr (f := 6) hk (by decide)) (Nat.le_of_ble_eq_true rfl) ⟨by decide, by decide⟩ ?_
      refine x_bipush (q := 128) (v := 7) dX5_isSigned_126 rfl (by decide) ?_
      refine x_icmp_lt (q := 131) (t := 135) dX5_isSigned_128 rfl (by decide) (fun h128 => ?_) (fun h128 => ?_)
      · refine x_iconst (q := 136) (v := 0) dX5_isSigned_135 rfl (by decide) ?_
        refine x_ireturn dX5_isSigned_136 rfl (by decide) ?_
        exact ⟨by simp_all [sg, bI], rfl⟩
      refine x_iconst (q := 132) (v := 1) dX5_isSigned_131 rfl (by decide) ?_
      refine x_goto (q := 136) dX5_isSigned_132 (by decide) ?_
      refine x_ireturn dX5_isSigned_136 rfl (by decide) ?_
      exact ⟨by simp_all [sg, bI], rfl⟩
    by_cases h70_5 : s (12 + 7 * k + 0) = 5
    · refine x_tswC (q := 137) (k := 5) dX5_isSigned_70 h70_5 (by decide) (by decide) rfl (by decide) ?_
      refine x_iload_n (q := 138) dX5_isSigned_137 rfl rfl ?_
      refine x_if_le (q := 141) (t := 145) dX5_isSigned_138 rfl (by decide) (fun h138 => ?_) (fun h138 => ?_)
      · refine x_iconst (q := 146) (v := 0) dX5_isSigned_145 rfl (by decide) ?_
        refine x_ireturn dX5_isSigned_146 rfl (by decide) ?_
        exact ⟨by simp_all [sg, bI], rfl⟩
      refine x_iconst (q := 142) (v := 1) dX5_isSigned_141 rfl (by decide) ?_
      refine x_goto (q := 146) dX5_isSigned_142 (by decide) ?_
      refine x_ireturn dX5_isSigned_146 rfl (by decide) ?_
      exact ⟨by simp_all [sg, bI], rfl⟩
    by_cases h70_6 : s (12 + 7 * k + 0) = 6
    · refine x_tswC (q := 147) (k := 6) dX5_isSigned_70 h70_6 (by decide) (by decide) rfl (by decide) ?_
      refine x_iload (q := 149) dX5_isSigned_147 rfl rfl ?_
      refine x_if_eq (q := 152) (t := 167) dX5_isSigned_149 rfl (by decide) (fun _ => ?_) (fun h => absurd (by decide) h)
      refine x_iconst (q := 168) (v := 0) dX5_isSigned_167 rfl (by decide) ?_
      refine x_ireturn dX5_isSigned_168 rfl (by decide) ?_
      exact ⟨by simp_all [sg, bI], rfl⟩
    refine x_tswD (q := 169) dX5_isSigned_70 (by have n1 := lv_neT h70_1 (a := 1) (by decide); have n2 := lv_neT h70_2 (a := 2) (by decide); have n3 := lv_neT h70_3 (a := 3) (by decide); have n4 := lv_neT h70_4 (a := 4) (by decide); have n5 := lv_neT h70_5 (a := 5) (by decide); have n6 := lv_neT h70_6 (a := 6) (by decide); omega) (by decide) ?_
    refine x_iload_n (q := 170) dX5_isSigned_169 rfl rfl ?_
    refine x_ireturn dX5_isSigned_170 rfl (by decide) ?_
    exact ⟨by simp_all [sg, bI], rfl⟩
  refine x_iconst (q := 31) (v := 1) dX5_isSigned_30 rfl (by decide) ?_
  refine x_goto (q := 35) dX5_isSigned_31 (by decide) ?_
  refine x_istore (q := 37) dX5_isSigned_35 rfl (by decide) rfl rfl ?_
  refine x_iload_n (q := 38) dX5_isSigned_37 rfl rfl ?_
  refine x_aload_n (q := 39) dX5_isSigned_38 rfl rfl ?_
  refine x_iload_n (q := 40) dX5_isSigned_39 rfl rfl ?_
  refine x_iconst (q := 41) (v := 1) dX5_isSigned_40 rfl (by decide) ?_
  refine x_callV2v (q := 44) dX5_isSigned_41 rfl ml_X5_52 mv_X5_get rv5 rfl (c_X5_getr (f := 1) hk (by decide)) (Nat.le_of_ble_eq_true rfl) ⟨by decide, by decide⟩ ?_
  refine x_aload_n (q := 45) dX5_isSigned_44 rfl rfl ?_
  refine x_iload_n (q := 46) dX5_isSigned_45 rfl rfl ?_
  refine x_iconst (q := 47) (v := 2) dX5_isSigned_46 rfl (by decide) ?_
  refine x_callV2v (q := 50) dX5_isSigned_47 rfl ml_X5_52 mv_X5_get rv5 rfl (c_X5_getr (f := 2) hk (by decide)) (Nat.le_of_ble_eq_true rfl) ⟨by decide, by decide⟩ ?_
  refine x_bipush (q := 52) (v := 20) dX5_isSigned_50 rfl (by decide) ?_
  refine x_idiv (q := 53) dX5_isSigned_52 rfl (by decide) ?_
  refine x_iadd (q := 54) dX5_isSigned_53 rfl ?_
  refine x_icmp_lt (q := 57) (t := 61) dX5_isSigned_54 rfl (by decide) (fun h54 => ?_) (fun h54 => ?_)
  · refine x_iconst (q := 62) (v := 0) dX5_isSigned_61 rfl (by decide) ?_
    refine x_istore (q := 64) dX5_isSigned_62 rfl (by decide) rfl rfl ?_
    refine x_aload_n (q := 65) dX5_isSigned_64 rfl rfl ?_
    refine x_iload_n (q := 66) dX5_isSigned_65 rfl rfl ?_
    refine x_iconst (q := 67) (v := 0) dX5_isSigned_66 rfl (by decide) ?_
    refine x_callV2v (q := 70) dX5_isSigned_67 rfl ml_X5_52 mv_X5_get rv5 rfl (c_X5_getr (f := 0) hk (by decide)) (Nat.le_of_ble_eq_true rfl) ⟨by decide, by decide⟩ ?_
    by_cases h70_1 : s (12 + 7 * k + 0) = 1
    · refine x_tswC (q := 108) (k := 1) dX5_isSigned_70 h70_1 (by decide) (by decide) rfl (by decide) ?_
      refine x_iload (q := 110) dX5_isSigned_108 rfl rfl ?_
      refine x_ireturn dX5_isSigned_110 rfl (by decide) ?_
      exact ⟨by simp_all [sg, bI], rfl⟩
    by_cases h70_2 : s (12 + 7 * k + 0) = 2
    · refine x_tswC (q := 111) (k := 2) dX5_isSigned_70 h70_2 (by decide) (by decide) rfl (by decide) ?_
      refine x_iload (q := 113) dX5_isSigned_111 rfl rfl ?_
      refine x_ireturn dX5_isSigned_113 rfl (by decide) ?_
      exact ⟨by simp_all [sg, bI], rfl⟩
    by_cases h70_3 : s (12 + 7 * k + 0) = 3
    · refine x_tswC (q := 111) (k := 3) dX5_isSigned_70 h70_3 (by decide) (by decide) rfl (by decide) ?_
      refine x_iload (q := 113) dX5_isSigned_111 rfl rfl ?_
      refine x_ireturn dX5_isSigned_113 rfl (by decide) ?_
      exact ⟨by simp_all [sg, bI], rfl⟩
    by_cases h70_4 : s (12 + 7 * k + 0) = 4
    · refine x_tswC (q := 114) (k := 4) dX5_isSigned_70 h70_4 (by decide) (by decide) rfl (by decide) ?_
      refine x_iload (q := 116) dX5_isSigned_114 rfl rfl ?_
      refine x_if_eq (q := 119) (t := 135) dX5_isSigned_116 rfl (by decide) (fun _ => ?_) (fun h => absurd (by decide) h)
      refine x_iconst (q := 136) (v := 0) dX5_isSigned_135 rfl (by decide) ?_
      refine x_ireturn dX5_isSigned_136 rfl (by decide) ?_
      exact ⟨by simp_all [sg, bI], rfl⟩
    by_cases h70_5 : s (12 + 7 * k + 0) = 5
    · refine x_tswC (q := 137) (k := 5) dX5_isSigned_70 h70_5 (by decide) (by decide) rfl (by decide) ?_
      refine x_iload_n (q := 138) dX5_isSigned_137 rfl rfl ?_
      refine x_if_le (q := 141) (t := 145) dX5_isSigned_138 rfl (by decide) (fun h138 => ?_) (fun h138 => ?_)
      · refine x_iconst (q := 146) (v := 0) dX5_isSigned_145 rfl (by decide) ?_
        refine x_ireturn dX5_isSigned_146 rfl (by decide) ?_
        exact ⟨by simp_all [sg, bI], rfl⟩
      refine x_iconst (q := 142) (v := 1) dX5_isSigned_141 rfl (by decide) ?_
      refine x_goto (q := 146) dX5_isSigned_142 (by decide) ?_
      refine x_ireturn dX5_isSigned_146 rfl (by decide) ?_
      exact ⟨by simp_all [sg, bI], rfl⟩
    by_cases h70_6 : s (12 + 7 * k + 0) = 6
    · refine x_tswC (q := 147) (k := 6) dX5_isSigned_70 h70_6 (by decide) (by decide) rfl (by decide) ?_
      refine x_iload (q := 149) dX5_isSigned_147 rfl rfl ?_
      refine x_if_eq (q := 152) (t := 167) dX5_isSigned_149 rfl (by decide) (fun h => absurd h (by decide)) (fun _ => ?_)
      refine x_aload_n (q := 153) dX5_isSigned_152 rfl rfl ?_
      refine x_getR (q := 156) dX5_isSigned_153 rfl fl_X5_9 (or5_s) ?_
      refine x_iconst (q := 157) (v := 0) dX5_isSigned_156 rfl (by decide) ?_
      refine x_ialdr (q := 158) dX5_isSigned_157 rfl (ar_50) (ix_nI (k := 0) (by decide) (by decide)) (Nat.zero_add _) ?_
      refine x_iconst (q := 159) (v := 2) dX5_isSigned_158 rfl (by decide) ?_
      refine x_irem (q := 160) dX5_isSigned_159 rfl (by decide) ?_
      refine x_if_ne (q := 163) (t := 167) dX5_isSigned_160 rfl (by decide) (fun h160 => ?_) (fun h160 => ?_)
      · refine x_iconst (q := 168) (v := 0) dX5_isSigned_167 rfl (by decide) ?_
        refine x_ireturn dX5_isSigned_168 rfl (by decide) ?_
        exact ⟨by simp_all [sg, bI], rfl⟩
      refine x_iconst (q := 164) (v := 1) dX5_isSigned_163 rfl (by decide) ?_
      refine x_goto (q := 168) dX5_isSigned_164 (by decide) ?_
      refine x_ireturn dX5_isSigned_168 rfl (by decide) ?_
      exact ⟨by simp_all [sg, bI], rfl⟩
    refine x_tswD (q := 169) dX5_isSigned_70 (by have n1 := lv_neT h70_1 (a := 1) (by decide); have n2 := lv_neT h70_2 (a := 2) (by decide); have n3 := lv_neT h70_3 (a := 3) (by decide); have n4 := lv_neT h70_4 (a := 4) (by decide); have n5 := lv_neT h70_5 (a := 5) (by decide); have n6 := lv_neT h70_6 (a := 6) (by decide); omega) (by decide) ?_
    refine x_iload_n (q := 170) dX5_isSigned_169 rfl rfl ?_
    refine x_ireturn dX5_isSigned_170 rfl (by decide) ?_
    exact ⟨by simp_all [sg, bI], rfl⟩
  refine x_iconst (q := 58) (v := 1) dX5_isSigned_57 rfl (by decide) ?_
  refine x_goto (q := 62) dX5_isSigned_58 (by decide) ?_
  refine x_istore (q := 64) dX5_isSigned_62 rfl (by decide) rfl rfl ?_
  refine x_aload_n (q := 65) dX5_isSigned_64 rfl rfl ?_
  refine x_iload_n (q := 66) dX5_isSigned_65 rfl rfl ?_
  refine x_iconst (q := 67) (v := 0) dX5_isSigned_66 rfl (by decide) ?_
  refine x_callV2v (q := 70) dX5_isSigned_67 rfl ml_X5_52 mv_X5_get rv5 rfl (c_X5_getr (f := 0) hk (by decide)) (Nat.le_of_ble_eq_true rfl) ⟨by decide, by decide⟩ ?_
  by_cases h70_1 : s (12 + 7 * k + 0) = 1
  · refine x_tswC (q := 108) (k := 1) dX5_isSigned_70 h70_1 (by decide) (by decide) rfl (by decide) ?_
    refine x_iload (q := 110) dX5_isSigned_108 rfl rfl ?_
    refine x_ireturn dX5_isSigned_110 rfl (by decide) ?_
    exact ⟨by simp_all [sg, bI], rfl⟩
  by_cases h70_2 : s (12 + 7 * k + 0) = 2
  · refine x_tswC (q := 111) (k := 2) dX5_isSigned_70 h70_2 (by decide) (by decide) rfl (by decide) ?_
    refine x_iload (q := 113) dX5_isSigned_111 rfl rfl ?_
    refine x_ireturn dX5_isSigned_113 rfl (by decide) ?_
    exact ⟨by simp_all [sg, bI], rfl⟩
  by_cases h70_3 : s (12 + 7 * k + 0) = 3
  · refine x_tswC (q := 111) (k := 3) dX5_isSigned_70 h70_3 (by decide) (by decide) rfl (by decide) ?_
    refine x_iload (q := 113) dX5_isSigned_111 rfl rfl ?_
    refine x_ireturn dX5_isSigned_113 rfl (by decide) ?_
    exact ⟨by simp_all [sg, bI], rfl⟩
  by_cases h70_4 : s (12 + 7 * k + 0) = 4
  · refine x_tswC (q := 114) (k := 4) dX5_isSigned_70 h70_4 (by decide) (by decide) rfl (by decide) ?_
    refine x_iload (q := 116) dX5_isSigned_114 rfl rfl ?_
    refine x_if_eq (q := 119) (t := 135) dX5_isSigned_116 rfl (by decide) (fun h => absurd h (by decide)) (fun _ => ?_)
    refine x_aload_n (q := 120) dX5_isSigned_119 rfl rfl ?_
    refine x_iload_n (q := 121) dX5_isSigned_120 rfl rfl ?_
    refine x_bipush (q := 123) (v := 6) dX5_isSigned_121 rfl (by decide) ?_
    refine x_callV2v (q := 126) dX5_isSigned_123 rfl ml_X5_52 mv_X5_get rv5 rfl (c_X5_getr (f := 6) hk (by decide)) (Nat.le_of_ble_eq_true rfl) ⟨by decide, by decide⟩ ?_
    refine x_bipush (q := 128) (v := 7) dX5_isSigned_126 rfl (by decide) ?_
    refine x_icmp_lt (q := 131) (t := 135) dX5_isSigned_128 rfl (by decide) (fun h128 => ?_) (fun h128 => ?_)
    · refine x_iconst (q := 136) (v := 0) dX5_isSigned_135 rfl (by decide) ?_
      refine x_ireturn dX5_isSigned_136 rfl (by decide) ?_
      exact ⟨by simp_all [sg, bI], rfl⟩
    refine x_iconst (q := 132) (v := 1) dX5_isSigned_131 rfl (by decide) ?_
    refine x_goto (q := 136) dX5_isSigned_132 (by decide) ?_
    refine x_ireturn dX5_isSigned_136 rfl (by decide) ?_
    exact ⟨by simp_all [sg, bI], rfl⟩
  by_cases h70_5 : s (12 + 7 * k + 0) = 5
  · refine x_tswC (q := 137) (k := 5) dX5_isSigned_70 h70_5 (by decide) (by decide) rfl (by decide) ?_
    refine x_iload_n (q := 138) dX5_isSigned_137 rfl rfl ?_
    refine x_if_le (q := 141) (t := 145) dX5_isSigned_138 rfl (by decide) (fun h138 => ?_) (fun h138 => ?_)
    · refine x_iconst (q := 146) (v := 0) dX5_isSigned_145 rfl (by decide) ?_
      refine x_ireturn dX5_isSigned_146 rfl (by decide) ?_
      exact ⟨by simp_all [sg, bI], rfl⟩
    refine x_iconst (q := 142) (v := 1) dX5_isSigned_141 rfl (by decide) ?_
    refine x_goto (q := 146) dX5_isSigned_142 (by decide) ?_
    refine x_ireturn dX5_isSigned_146 rfl (by decide) ?_
    exact ⟨by simp_all [sg, bI], rfl⟩
  by_cases h70_6 : s (12 + 7 * k + 0) = 6
  · refine x_tswC (q := 147) (k := 6) dX5_isSigned_70 h70_6 (by decide) (by decide) rfl (by decide) ?_
    refine x_iload (q := 149) dX5_isSigned_147 rfl rfl ?_
    refine x_if_eq (q := 152) (t := 167) dX5_isSigned_149 rfl (by decide) (fun h => absurd h (by decide)) (fun _ => ?_)
    refine x_aload_n (q := 153) dX5_isSigned_152 rfl rfl ?_
    refine x_getR (q := 156) dX5_isSigned_153 rfl fl_X5_9 (or5_s) ?_
    refine x_iconst (q := 157) (v := 0) dX5_isSigned_156 rfl (by decide) ?_
    refine x_ialdr (q := 158) dX5_isSigned_157 rfl (ar_50) (ix_nI (k := 0) (by decide) (by decide)) (Nat.zero_add _) ?_
    refine x_iconst (q := 159) (v := 2) dX5_isSigned_158 rfl (by decide) ?_
    refine x_irem (q := 160) dX5_isSigned_159 rfl (by decide) ?_
    refine x_if_ne (q := 163) (t := 167) dX5_isSigned_160 rfl (by decide) (fun h160 => ?_) (fun h160 => ?_)
    · refine x_iconst (q := 168) (v := 0) dX5_isSigned_167 rfl (by decide) ?_
      refine x_ireturn dX5_isSigned_168 rfl (by decide) ?_
      exact ⟨by simp_all [sg, bI], rfl⟩
    refine x_iconst (q := 164) (v := 1) dX5_isSigned_163 rfl (by decide) ?_
    refine x_goto (q := 168) dX5_isSigned_164 (by decide) ?_
    refine x_ireturn dX5_isSigned_168 rfl (by decide) ?_
    exact ⟨by simp_all [sg, bI], rfl⟩
  refine x_tswD (q := 169) dX5_isSigned_70 (by have n1 := lv_neT h70_1 (a := 1) (by decide); have n2 := lv_neT h70_2 (a := 2) (by decide); have n3 := lv_neT h70_3 (a := 3) (by decide); have n4 := lv_neT h70_4 (a := 4) (by decide); have n5 := lv_neT h70_5 (a := 5) (by decide); have n6 := lv_neT h70_6 (a := 6) (by decide); omega) (by decide) ?_
  refine x_iload_n (q := 170) dX5_isSigned_169 rfl rfl ?_
  refine x_ireturn dX5_isSigned_170 rfl (by decide) ?_
  exact ⟨by simp_all [sg, bI], rfl⟩
theorem dX5_movesOf_0 : decode cX5_movesOf 0 = .ok (.aload_n 0, 1) := by decide +kernel
theorem dX5_movesOf_1 : decode cX5_movesOf 1 = .ok (.iload_n 1, 1) := by decide +kernel
theorem dX5_movesOf_2 : decode cX5_movesOf 2 = .ok (.iconst 0, 1) := by decide +kernel
theorem dX5_movesOf_3 : decode cX5_movesOf 3 = .ok (.invokevirtual 52, 3) := by decide +kernel
theorem dX5_movesOf_6 : decode cX5_movesOf 6 = .ok (.istore_n 2, 1) := by decide +kernel
theorem dX5_movesOf_7 : decode cX5_movesOf 7 = .ok (.iload_n 2, 1) := by decide +kernel
theorem dX5_movesOf_8 : decode cX5_movesOf 8 = .ok (.ifCond .ne 7, 3) := by decide +kernel
theorem dX5_movesOf_11 : decode cX5_movesOf 11 = .ok (.iconst 2, 1) := by decide +kernel
theorem dX5_movesOf_12 : decode cX5_movesOf 12 = .ok (.goto 22, 3) := by decide +kernel
theorem dX5_movesOf_15 : decode cX5_movesOf 15 = .ok (.iload_n 2, 1) := by decide +kernel
theorem dX5_movesOf_16 : decode cX5_movesOf 16 = .ok (.iconst 4, 1) := by decide +kernel
theorem dX5_movesOf_17 : decode cX5_movesOf 17 = .ok (.if_icmp .ne 7, 3) := by decide +kernel
theorem dX5_movesOf_20 : decode cX5_movesOf 20 = .ok (.iconst 0, 1) := by decide +kernel
theorem dX5_movesOf_21 : decode cX5_movesOf 21 = .ok (.goto 13, 3) := by decide +kernel
theorem dX5_movesOf_24 : decode cX5_movesOf 24 = .ok (.iload_n 2, 1) := by decide +kernel
theorem dX5_movesOf_25 : decode cX5_movesOf 25 = .ok (.iconst 5, 1) := by decide +kernel
theorem dX5_movesOf_26 : decode cX5_movesOf 26 = .ok (.if_icmp .ne 7, 3) := by decide +kernel
theorem dX5_movesOf_29 : decode cX5_movesOf 29 = .ok (.iconst 5, 1) := by decide +kernel
theorem dX5_movesOf_30 : decode cX5_movesOf 30 = .ok (.goto 4, 3) := by decide +kernel
theorem dX5_movesOf_33 : decode cX5_movesOf 33 = .ok (.iconst 1, 1) := by decide +kernel
theorem dX5_movesOf_34 : decode cX5_movesOf 34 = .ok (.ireturn, 1) := by decide +kernel
set_option maxRecDepth 20000 in
set_option maxHeartbeats 4000000 in
theorem c_X5_movesOf {K : Cx} {k : Nat} {s : Nat → Int32} {m : TM} (hk : k < 8) : CT yX5_movesOf cX5_movesOf 3 (some .int) 1 22 K [.ref 49, .int (nI k)] (sr m 50 s) (some (.int (mvM (s (12 + 7 * k + 0))))) (sr m 50 s) := by
  refine ct_ofd (n := 1) (by decide +kernel) rfl rfl ?_
  show XX RX5 cX5_movesOf 3 (some .int) 1 22 K 0 [some (.ref 49), some (.int (nI k)), none] [] (sr m 50 s) (fun r1 m1 => r1 = (some (.int (mvM (s (12 + 7 * k + 0))))) ∧ m1 = sr m 50 s)
  refine x_aload_n (q := 1) dX5_movesOf_0 rfl rfl ?_
  refine x_iload_n (q := 2) dX5_movesOf_1 rfl rfl ?_
  refine x_iconst (q := 3) (v := 0) dX5_movesOf_2 rfl (by decide) ?_
  refine x_callV2v (q := 6) dX5_movesOf_3 rfl ml_X5_52 mv_X5_get rv5 rfl (c_X5_getr (f := 0) hk (by decide)) (Nat.le_of_ble_eq_true rfl) ⟨by decide, by decide⟩ ?_
  refine x_istore_n (q := 7) dX5_movesOf_6 rfl (by decide) rfl rfl ?_
  refine x_iload_n (q := 8) dX5_movesOf_7 rfl rfl ?_
  refine x_if_ne (q := 11) (t := 15) dX5_movesOf_8 rfl (by decide) (fun h8 => ?_) (fun h8 => ?_)
  · refine x_iload_n (q := 16) dX5_movesOf_15 rfl rfl ?_
    refine x_iconst (q := 17) (v := 4) dX5_movesOf_16 rfl (by decide) ?_
    refine x_icmp_ne (q := 20) (t := 24) dX5_movesOf_17 rfl (by decide) (fun h17 => ?_) (fun h17 => ?_)
    · refine x_iload_n (q := 25) dX5_movesOf_24 rfl rfl ?_
      refine x_iconst (q := 26) (v := 5) dX5_movesOf_25 rfl (by decide) ?_
      refine x_icmp_ne (q := 29) (t := 33) dX5_movesOf_26 rfl (by decide) (fun h26 => ?_) (fun h26 => ?_)
      · refine x_iconst (q := 34) (v := 1) dX5_movesOf_33 rfl (by decide) ?_
        refine x_ireturn dX5_movesOf_34 rfl rfl ?_
        exact ⟨by simp_all [mvM], rfl⟩
      refine x_iconst (q := 30) (v := 5) dX5_movesOf_29 rfl (by decide) ?_
      refine x_goto (q := 34) dX5_movesOf_30 (by decide) ?_
      refine x_ireturn dX5_movesOf_34 rfl rfl ?_
      exact ⟨by simp_all [mvM], rfl⟩
    refine x_iconst (q := 21) (v := 0) dX5_movesOf_20 rfl (by decide) ?_
    refine x_goto (q := 34) dX5_movesOf_21 (by decide) ?_
    refine x_ireturn dX5_movesOf_34 rfl rfl ?_
    exact ⟨by simp_all [mvM], rfl⟩
  refine x_iconst (q := 12) (v := 2) dX5_movesOf_11 rfl (by decide) ?_
  refine x_goto (q := 34) dX5_movesOf_12 (by decide) ?_
  refine x_ireturn dX5_movesOf_34 rfl rfl ?_
  exact ⟨by simp_all [mvM], rfl⟩
theorem dX5_lastsOf_0 : decode cX5_lastsOf 0 = .ok (.aload_n 0, 1) := by decide +kernel
theorem dX5_lastsOf_1 : decode cX5_lastsOf 1 = .ok (.iload_n 1, 1) := by decide +kernel
theorem dX5_lastsOf_2 : decode cX5_lastsOf 2 = .ok (.iconst 0, 1) := by decide +kernel
theorem dX5_lastsOf_3 : decode cX5_lastsOf 3 = .ok (.invokevirtual 52, 3) := by decide +kernel
theorem dX5_lastsOf_6 : decode cX5_lastsOf 6 = .ok (.tableswitch 54 1 6 #[38, 41, 41, 44, 48, 51], 38) := by decide +kernel
theorem dX5_lastsOf_44 : decode cX5_lastsOf 44 = .ok (.bipush 36, 2) := by decide +kernel
theorem dX5_lastsOf_46 : decode cX5_lastsOf 46 = .ok (.ireturn, 1) := by decide +kernel
theorem dX5_lastsOf_47 : decode cX5_lastsOf 47 = .ok (.bipush 24, 2) := by decide +kernel
theorem dX5_lastsOf_49 : decode cX5_lastsOf 49 = .ok (.ireturn, 1) := by decide +kernel
theorem dX5_lastsOf_50 : decode cX5_lastsOf 50 = .ok (.sipush 9999, 3) := by decide +kernel
theorem dX5_lastsOf_53 : decode cX5_lastsOf 53 = .ok (.ireturn, 1) := by decide +kernel
theorem dX5_lastsOf_54 : decode cX5_lastsOf 54 = .ok (.bipush 15, 2) := by decide +kernel
theorem dX5_lastsOf_56 : decode cX5_lastsOf 56 = .ok (.ireturn, 1) := by decide +kernel
theorem dX5_lastsOf_57 : decode cX5_lastsOf 57 = .ok (.bipush 66, 2) := by decide +kernel
theorem dX5_lastsOf_59 : decode cX5_lastsOf 59 = .ok (.ireturn, 1) := by decide +kernel
theorem dX5_lastsOf_60 : decode cX5_lastsOf 60 = .ok (.bipush 12, 2) := by decide +kernel
theorem dX5_lastsOf_62 : decode cX5_lastsOf 62 = .ok (.ireturn, 1) := by decide +kernel
set_option maxRecDepth 20000 in
set_option maxHeartbeats 4000000 in
theorem c_X5_lastsOf {K : Cx} {k : Nat} {s : Nat → Int32} {m : TM} (hk : k < 8) : CT yX5_lastsOf cX5_lastsOf 2 (some .int) 1 22 K [.ref 49, .int (nI k)] (sr m 50 s) (some (.int (las (s (12 + 7 * k + 0))))) (sr m 50 s) := by
  refine ct_ofd (n := 0) (by decide +kernel) rfl rfl ?_
  show XX RX5 cX5_lastsOf 2 (some .int) 1 22 K 0 [some (.ref 49), some (.int (nI k))] [] (sr m 50 s) (fun r1 m1 => r1 = (some (.int (las (s (12 + 7 * k + 0))))) ∧ m1 = sr m 50 s)
  refine x_aload_n (q := 1) dX5_lastsOf_0 rfl rfl ?_
  refine x_iload_n (q := 2) dX5_lastsOf_1 rfl rfl ?_
  refine x_iconst (q := 3) (v := 0) dX5_lastsOf_2 rfl (by decide) ?_
  refine x_callV2v (q := 6) dX5_lastsOf_3 rfl ml_X5_52 mv_X5_get rv5 rfl (c_X5_getr (f := 0) hk (by decide)) (Nat.le_of_ble_eq_true rfl) ⟨by decide, by decide⟩ ?_
  by_cases h6_1 : s (12 + 7 * k + 0) = 1
  · refine x_tswC (q := 44) (k := 1) dX5_lastsOf_6 h6_1 (by decide) (by decide) rfl (by decide) ?_
    refine x_bipush (q := 46) (v := 36) dX5_lastsOf_44 rfl (by decide) ?_
    refine x_ireturn dX5_lastsOf_46 rfl rfl ?_
    exact ⟨by simp_all [las], rfl⟩
  by_cases h6_2 : s (12 + 7 * k + 0) = 2
  · refine x_tswC (q := 47) (k := 2) dX5_lastsOf_6 h6_2 (by decide) (by decide) rfl (by decide) ?_
    refine x_bipush (q := 49) (v := 24) dX5_lastsOf_47 rfl (by decide) ?_
    refine x_ireturn dX5_lastsOf_49 rfl rfl ?_
    exact ⟨by simp_all [las], rfl⟩
  by_cases h6_3 : s (12 + 7 * k + 0) = 3
  · refine x_tswC (q := 47) (k := 3) dX5_lastsOf_6 h6_3 (by decide) (by decide) rfl (by decide) ?_
    refine x_bipush (q := 49) (v := 24) dX5_lastsOf_47 rfl (by decide) ?_
    refine x_ireturn dX5_lastsOf_49 rfl rfl ?_
    exact ⟨by simp_all [las], rfl⟩
  by_cases h6_4 : s (12 + 7 * k + 0) = 4
  · refine x_tswC (q := 50) (k := 4) dX5_lastsOf_6 h6_4 (by decide) (by decide) rfl (by decide) ?_
    refine x_sipush (q := 53) (v := 9999) dX5_lastsOf_50 rfl (by decide) ?_
    refine x_ireturn dX5_lastsOf_53 rfl rfl ?_
    exact ⟨by simp_all [las], rfl⟩
  by_cases h6_5 : s (12 + 7 * k + 0) = 5
  · refine x_tswC (q := 54) (k := 5) dX5_lastsOf_6 h6_5 (by decide) (by decide) rfl (by decide) ?_
    refine x_bipush (q := 56) (v := 15) dX5_lastsOf_54 rfl (by decide) ?_
    refine x_ireturn dX5_lastsOf_56 rfl rfl ?_
    exact ⟨by simp_all [las], rfl⟩
  by_cases h6_6 : s (12 + 7 * k + 0) = 6
  · refine x_tswC (q := 57) (k := 6) dX5_lastsOf_6 h6_6 (by decide) (by decide) rfl (by decide) ?_
    refine x_bipush (q := 59) (v := 66) dX5_lastsOf_57 rfl (by decide) ?_
    refine x_ireturn dX5_lastsOf_59 rfl rfl ?_
    exact ⟨by simp_all [las], rfl⟩
  refine x_tswD (q := 60) dX5_lastsOf_6 (by have n1 := lv_neT h6_1 (a := 1) (by decide); have n2 := lv_neT h6_2 (a := 2) (by decide); have n3 := lv_neT h6_3 (a := 3) (by decide); have n4 := lv_neT h6_4 (a := 4) (by decide); have n5 := lv_neT h6_5 (a := 5) (by decide); have n6 := lv_neT h6_6 (a := 6) (by decide); omega) (by decide) ?_
  refine x_bipush (q := 62) (v := 12) dX5_lastsOf_60 rfl (by decide) ?_
  refine x_ireturn dX5_lastsOf_62 rfl rfl ?_
  exact ⟨by simp_all [las], rfl⟩
theorem dX5_paysOf_0 : decode cX5_paysOf 0 = .ok (.aload_n 0, 1) := by decide +kernel
theorem dX5_paysOf_1 : decode cX5_paysOf 1 = .ok (.iload_n 1, 1) := by decide +kernel
theorem dX5_paysOf_2 : decode cX5_paysOf 2 = .ok (.iconst 2, 1) := by decide +kernel
theorem dX5_paysOf_3 : decode cX5_paysOf 3 = .ok (.invokevirtual 52, 3) := by decide +kernel
theorem dX5_paysOf_6 : decode cX5_paysOf 6 = .ok (.bipush 10, 2) := by decide +kernel
theorem dX5_paysOf_8 : decode cX5_paysOf 8 = .ok (.idiv, 1) := by decide +kernel
theorem dX5_paysOf_9 : decode cX5_paysOf 9 = .ok (.istore_n 2, 1) := by decide +kernel
theorem dX5_paysOf_10 : decode cX5_paysOf 10 = .ok (.aload_n 0, 1) := by decide +kernel
theorem dX5_paysOf_11 : decode cX5_paysOf 11 = .ok (.iload_n 1, 1) := by decide +kernel
theorem dX5_paysOf_12 : decode cX5_paysOf 12 = .ok (.iconst 0, 1) := by decide +kernel
theorem dX5_paysOf_13 : decode cX5_paysOf 13 = .ok (.invokevirtual 52, 3) := by decide +kernel
theorem dX5_paysOf_16 : decode cX5_paysOf 16 = .ok (.tableswitch 66 1 6 #[40, 42, 46, 53, 62, 64], 40) := by decide +kernel
theorem dX5_paysOf_56 : decode cX5_paysOf 56 = .ok (.iconst 0, 1) := by decide +kernel
theorem dX5_paysOf_57 : decode cX5_paysOf 57 = .ok (.ireturn, 1) := by decide +kernel
theorem dX5_paysOf_58 : decode cX5_paysOf 58 = .ok (.iconst 2, 1) := by decide +kernel
theorem dX5_paysOf_59 : decode cX5_paysOf 59 = .ok (.iload_n 2, 1) := by decide +kernel
theorem dX5_paysOf_60 : decode cX5_paysOf 60 = .ok (.imul, 1) := by decide +kernel
theorem dX5_paysOf_61 : decode cX5_paysOf 61 = .ok (.ireturn, 1) := by decide +kernel
theorem dX5_paysOf_62 : decode cX5_paysOf 62 = .ok (.iconst 2, 1) := by decide +kernel
theorem dX5_paysOf_63 : decode cX5_paysOf 63 = .ok (.iload_n 2, 1) := by decide +kernel
theorem dX5_paysOf_64 : decode cX5_paysOf 64 = .ok (.imul, 1) := by decide +kernel
theorem dX5_paysOf_65 : decode cX5_paysOf 65 = .ok (.bipush 10, 2) := by decide +kernel
theorem dX5_paysOf_67 : decode cX5_paysOf 67 = .ok (.iadd, 1) := by decide +kernel
theorem dX5_paysOf_68 : decode cX5_paysOf 68 = .ok (.ireturn, 1) := by decide +kernel
theorem dX5_paysOf_69 : decode cX5_paysOf 69 = .ok (.iconst 3, 1) := by decide +kernel
theorem dX5_paysOf_70 : decode cX5_paysOf 70 = .ok (.iconst 2, 1) := by decide +kernel
theorem dX5_paysOf_71 : decode cX5_paysOf 71 = .ok (.iload_n 2, 1) := by decide +kernel
theorem dX5_paysOf_72 : decode cX5_paysOf 72 = .ok (.imul, 1) := by decide +kernel
theorem dX5_paysOf_73 : decode cX5_paysOf 73 = .ok (.bipush 10, 2) := by decide +kernel
theorem dX5_paysOf_75 : decode cX5_paysOf 75 = .ok (.iadd, 1) := by decide +kernel
theorem dX5_paysOf_76 : decode cX5_paysOf 76 = .ok (.imul, 1) := by decide +kernel
theorem dX5_paysOf_77 : decode cX5_paysOf 77 = .ok (.ireturn, 1) := by decide +kernel
theorem dX5_paysOf_78 : decode cX5_paysOf 78 = .ok (.iconst 1, 1) := by decide +kernel
theorem dX5_paysOf_79 : decode cX5_paysOf 79 = .ok (.ireturn, 1) := by decide +kernel
theorem dX5_paysOf_80 : decode cX5_paysOf 80 = .ok (.iconst 5, 1) := by decide +kernel
theorem dX5_paysOf_81 : decode cX5_paysOf 81 = .ok (.ireturn, 1) := by decide +kernel
theorem dX5_paysOf_82 : decode cX5_paysOf 82 = .ok (.iload_n 2, 1) := by decide +kernel
theorem dX5_paysOf_83 : decode cX5_paysOf 83 = .ok (.ireturn, 1) := by decide +kernel
set_option maxRecDepth 20000 in
set_option maxHeartbeats 4000000 in
theorem c_X5_paysOf {K : Cx} {k : Nat} {s : Nat → Int32} {m : TM} (hk : k < 8) : CT yX5_paysOf cX5_paysOf 3 (some .int) 1 22 K [.ref 49, .int (nI k)] (sr m 50 s) (some (.int (pys (s (12 + 7 * k + 0)) (s (12 + 7 * k + 2))))) (sr m 50 s) := by
  refine ct_ofd (n := 1) (by decide +kernel) rfl rfl ?_
  show XX RX5 cX5_paysOf 3 (some .int) 1 22 K 0 [some (.ref 49), some (.int (nI k)), none] [] (sr m 50 s) (fun r1 m1 => r1 = (some (.int (pys (s (12 + 7 * k + 0)) (s (12 + 7 * k + 2))))) ∧ m1 = sr m 50 s)
  refine x_aload_n (q := 1) dX5_paysOf_0 rfl rfl ?_
  refine x_iload_n (q := 2) dX5_paysOf_1 rfl rfl ?_
  refine x_iconst (q := 3) (v := 2) dX5_paysOf_2 rfl (by decide) ?_
  refine x_callV2v (q := 6) dX5_paysOf_3 rfl ml_X5_52 mv_X5_get rv5 rfl (c_X5_getr (f := 2) hk (by decide)) (Nat.le_of_ble_eq_true rfl) ⟨by decide, by decide⟩ ?_
  refine x_bipush (q := 8) (v := 10) dX5_paysOf_6 rfl (by decide) ?_
  refine x_idiv (q := 9) dX5_paysOf_8 rfl (by decide) ?_
  refine x_istore_n (q := 10) dX5_paysOf_9 rfl (by decide) rfl rfl ?_
  refine x_aload_n (q := 11) dX5_paysOf_10 rfl rfl ?_
  refine x_iload_n (q := 12) dX5_paysOf_11 rfl rfl ?_
  refine x_iconst (q := 13) (v := 0) dX5_paysOf_12 rfl (by decide) ?_
  refine x_callV2v (q := 16) dX5_paysOf_13 rfl ml_X5_52 mv_X5_get rv5 rfl (c_X5_getr (f := 0) hk (by decide)) (Nat.le_of_ble_eq_true rfl) ⟨by decide, by decide⟩ ?_
  by_cases h16_1 : s (12 + 7 * k + 0) = 1
  · refine x_tswC (q := 56) (k := 1) dX5_paysOf_16 h16_1 (by decide) (by decide) rfl (by decide) ?_
    refine x_iconst (q := 57) (v := 0) dX5_paysOf_56 rfl (by decide) ?_
    refine x_ireturn dX5_paysOf_57 rfl rfl ?_
    exact ⟨by simp_all [pys], rfl⟩
  by_cases h16_2 : s (12 + 7 * k + 0) = 2
  · refine x_tswC (q := 58) (k := 2) dX5_paysOf_16 h16_2 (by decide) (by decide) rfl (by decide) ?_
    refine x_iconst (q := 59) (v := 2) dX5_paysOf_58 rfl (by decide) ?_
    refine x_iload_n (q := 60) dX5_paysOf_59 rfl rfl ?_
    refine x_imul (q := 61) dX5_paysOf_60 rfl ?_
    refine x_ireturn dX5_paysOf_61 rfl rfl ?_
    exact ⟨by simp_all [pys], rfl⟩
  by_cases h16_3 : s (12 + 7 * k + 0) = 3
  · refine x_tswC (q := 62) (k := 3) dX5_paysOf_16 h16_3 (by decide) (by decide) rfl (by decide) ?_
    refine x_iconst (q := 63) (v := 2) dX5_paysOf_62 rfl (by decide) ?_
    refine x_iload_n (q := 64) dX5_paysOf_63 rfl rfl ?_
    refine x_imul (q := 65) dX5_paysOf_64 rfl ?_
    refine x_bipush (q := 67) (v := 10) dX5_paysOf_65 rfl (by decide) ?_
    refine x_iadd (q := 68) dX5_paysOf_67 rfl ?_
    refine x_ireturn dX5_paysOf_68 rfl rfl ?_
    exact ⟨by simp_all [pys], rfl⟩
  by_cases h16_4 : s (12 + 7 * k + 0) = 4
  · refine x_tswC (q := 69) (k := 4) dX5_paysOf_16 h16_4 (by decide) (by decide) rfl (by decide) ?_
    refine x_iconst (q := 70) (v := 3) dX5_paysOf_69 rfl (by decide) ?_
    refine x_iconst (q := 71) (v := 2) dX5_paysOf_70 rfl (by decide) ?_
    refine x_iload_n (q := 72) dX5_paysOf_71 rfl rfl ?_
    refine x_imul (q := 73) dX5_paysOf_72 rfl ?_
    refine x_bipush (q := 75) (v := 10) dX5_paysOf_73 rfl (by decide) ?_
    refine x_iadd (q := 76) dX5_paysOf_75 rfl ?_
    refine x_imul (q := 77) dX5_paysOf_76 rfl ?_
    refine x_ireturn dX5_paysOf_77 rfl rfl ?_
    exact ⟨by simp_all [pys], rfl⟩
  by_cases h16_5 : s (12 + 7 * k + 0) = 5
  · refine x_tswC (q := 78) (k := 5) dX5_paysOf_16 h16_5 (by decide) (by decide) rfl (by decide) ?_
    refine x_iconst (q := 79) (v := 1) dX5_paysOf_78 rfl (by decide) ?_
    refine x_ireturn dX5_paysOf_79 rfl rfl ?_
    exact ⟨by simp_all [pys], rfl⟩
  by_cases h16_6 : s (12 + 7 * k + 0) = 6
  · refine x_tswC (q := 80) (k := 6) dX5_paysOf_16 h16_6 (by decide) (by decide) rfl (by decide) ?_
    refine x_iconst (q := 81) (v := 5) dX5_paysOf_80 rfl (by decide) ?_
    refine x_ireturn dX5_paysOf_81 rfl rfl ?_
    exact ⟨by simp_all [pys], rfl⟩
  refine x_tswD (q := 82) dX5_paysOf_16 (by have n1 := lv_neT h16_1 (a := 1) (by decide); have n2 := lv_neT h16_2 (a := 2) (by decide); have n3 := lv_neT h16_3 (a := 3) (by decide); have n4 := lv_neT h16_4 (a := 4) (by decide); have n5 := lv_neT h16_5 (a := 5) (by decide); have n6 := lv_neT h16_6 (a := 6) (by decide); omega) (by decide) ?_
  refine x_iload_n (q := 83) dX5_paysOf_82 rfl rfl ?_
  refine x_ireturn dX5_paysOf_83 rfl rfl ?_
  exact ⟨by simp_all [pys], rfl⟩
theorem dX5_delaysOf_0 : decode cX5_delaysOf 0 = .ok (.aload_n 0, 1) := by decide +kernel
theorem dX5_delaysOf_1 : decode cX5_delaysOf 1 = .ok (.iload_n 1, 1) := by decide +kernel
theorem dX5_delaysOf_2 : decode cX5_delaysOf 2 = .ok (.iconst 0, 1) := by decide +kernel
theorem dX5_delaysOf_3 : decode cX5_delaysOf 3 = .ok (.invokevirtual 52, 3) := by decide +kernel
theorem dX5_delaysOf_6 : decode cX5_delaysOf 6 = .ok (.istore_n 2, 1) := by decide +kernel
theorem dX5_delaysOf_7 : decode cX5_delaysOf 7 = .ok (.iload_n 2, 1) := by decide +kernel
theorem dX5_delaysOf_8 : decode cX5_delaysOf 8 = .ok (.iconst 3, 1) := by decide +kernel
theorem dX5_delaysOf_9 : decode cX5_delaysOf 9 = .ok (.if_icmp .ne 7, 3) := by decide +kernel
theorem dX5_delaysOf_12 : decode cX5_delaysOf 12 = .ok (.iconst 1, 1) := by decide +kernel
theorem dX5_delaysOf_13 : decode cX5_delaysOf 13 = .ok (.goto 13, 3) := by decide +kernel
theorem dX5_delaysOf_16 : decode cX5_delaysOf 16 = .ok (.iload_n 2, 1) := by decide +kernel
theorem dX5_delaysOf_17 : decode cX5_delaysOf 17 = .ok (.iconst 4, 1) := by decide +kernel
theorem dX5_delaysOf_18 : decode cX5_delaysOf 18 = .ok (.if_icmp .ne 7, 3) := by decide +kernel
theorem dX5_delaysOf_21 : decode cX5_delaysOf 21 = .ok (.iconst 2, 1) := by decide +kernel
theorem dX5_delaysOf_22 : decode cX5_delaysOf 22 = .ok (.goto 4, 3) := by decide +kernel
theorem dX5_delaysOf_25 : decode cX5_delaysOf 25 = .ok (.iconst 0, 1) := by decide +kernel
theorem dX5_delaysOf_26 : decode cX5_delaysOf 26 = .ok (.ireturn, 1) := by decide +kernel
set_option maxRecDepth 20000 in
set_option maxHeartbeats 4000000 in
theorem c_X5_delaysOf {K : Cx} {k : Nat} {s : Nat → Int32} {m : TM} (hk : k < 8) : CT yX5_delaysOf cX5_delaysOf 3 (some .int) 1 22 K [.ref 49, .int (nI k)] (sr m 50 s) (some (.int (dly (s (12 + 7 * k + 0))))) (sr m 50 s) := by
  refine ct_ofd (n := 1) (by decide +kernel) rfl rfl ?_
  show XX RX5 cX5_delaysOf 3 (some .int) 1 22 K 0 [some (.ref 49), some (.int (nI k)), none] [] (sr m 50 s) (fun r1 m1 => r1 = (some (.int (dly (s (12 + 7 * k + 0))))) ∧ m1 = sr m 50 s)
  refine x_aload_n (q := 1) dX5_delaysOf_0 rfl rfl ?_
  refine x_iload_n (q := 2) dX5_delaysOf_1 rfl rfl ?_
  refine x_iconst (q := 3) (v := 0) dX5_delaysOf_2 rfl (by decide) ?_
  refine x_callV2v (q := 6) dX5_delaysOf_3 rfl ml_X5_52 mv_X5_get rv5 rfl (c_X5_getr (f := 0) hk (by decide)) (Nat.le_of_ble_eq_true rfl) ⟨by decide, by decide⟩ ?_
  refine x_istore_n (q := 7) dX5_delaysOf_6 rfl (by decide) rfl rfl ?_
  refine x_iload_n (q := 8) dX5_delaysOf_7 rfl rfl ?_
  refine x_iconst (q := 9) (v := 3) dX5_delaysOf_8 rfl (by decide) ?_
  refine x_icmp_ne (q := 12) (t := 16) dX5_delaysOf_9 rfl (by decide) (fun h9 => ?_) (fun h9 => ?_)
  · refine x_iload_n (q := 17) dX5_delaysOf_16 rfl rfl ?_
    refine x_iconst (q := 18) (v := 4) dX5_delaysOf_17 rfl (by decide) ?_
    refine x_icmp_ne (q := 21) (t := 25) dX5_delaysOf_18 rfl (by decide) (fun h18 => ?_) (fun h18 => ?_)
    · refine x_iconst (q := 26) (v := 0) dX5_delaysOf_25 rfl (by decide) ?_
      refine x_ireturn dX5_delaysOf_26 rfl rfl ?_
      exact ⟨by simp_all [dly], rfl⟩
    refine x_iconst (q := 22) (v := 2) dX5_delaysOf_21 rfl (by decide) ?_
    refine x_goto (q := 26) dX5_delaysOf_22 (by decide) ?_
    refine x_ireturn dX5_delaysOf_26 rfl rfl ?_
    exact ⟨by simp_all [dly], rfl⟩
  refine x_iconst (q := 13) (v := 1) dX5_delaysOf_12 rfl (by decide) ?_
  refine x_goto (q := 26) dX5_delaysOf_13 (by decide) ?_
  refine x_ireturn dX5_delaysOf_26 rfl rfl ?_
  exact ⟨by simp_all [dly], rfl⟩
theorem dX5_tideNow_0 : decode cX5_tideNow 0 = .ok (.aload_n 0, 1) := by decide +kernel
theorem dX5_tideNow_1 : decode cX5_tideNow 1 = .ok (.getfield 9, 3) := by decide +kernel
theorem dX5_tideNow_4 : decode cX5_tideNow 4 = .ok (.bipush 6, 2) := by decide +kernel
theorem dX5_tideNow_6 : decode cX5_tideNow 6 = .ok (.aload_n 0, 1) := by decide +kernel
theorem dX5_tideNow_7 : decode cX5_tideNow 7 = .ok (.getfield 9, 3) := by decide +kernel
theorem dX5_tideNow_10 : decode cX5_tideNow 10 = .ok (.iconst 0, 1) := by decide +kernel
theorem dX5_tideNow_11 : decode cX5_tideNow 11 = .ok (.iaload, 1) := by decide +kernel
theorem dX5_tideNow_12 : decode cX5_tideNow 12 = .ok (.aload_n 0, 1) := by decide +kernel
theorem dX5_tideNow_13 : decode cX5_tideNow 13 = .ok (.getfield 9, 3) := by decide +kernel
theorem dX5_tideNow_16 : decode cX5_tideNow 16 = .ok (.iconst 4, 1) := by decide +kernel
theorem dX5_tideNow_17 : decode cX5_tideNow 17 = .ok (.iaload, 1) := by decide +kernel
theorem dX5_tideNow_18 : decode cX5_tideNow 18 = .ok (.iadd, 1) := by decide +kernel
theorem dX5_tideNow_19 : decode cX5_tideNow 19 = .ok (.bipush 6, 2) := by decide +kernel
theorem dX5_tideNow_21 : decode cX5_tideNow 21 = .ok (.irem, 1) := by decide +kernel
theorem dX5_tideNow_22 : decode cX5_tideNow 22 = .ok (.iadd, 1) := by decide +kernel
theorem dX5_tideNow_23 : decode cX5_tideNow 23 = .ok (.iaload, 1) := by decide +kernel
theorem dX5_tideNow_24 : decode cX5_tideNow 24 = .ok (.aload_n 0, 1) := by decide +kernel
theorem dX5_tideNow_25 : decode cX5_tideNow 25 = .ok (.getfield 9, 3) := by decide +kernel
theorem dX5_tideNow_28 : decode cX5_tideNow 28 = .ok (.iconst 5, 1) := by decide +kernel
theorem dX5_tideNow_29 : decode cX5_tideNow 29 = .ok (.iaload, 1) := by decide +kernel
theorem dX5_tideNow_30 : decode cX5_tideNow 30 = .ok (.iadd, 1) := by decide +kernel
theorem dX5_tideNow_31 : decode cX5_tideNow 31 = .ok (.ireturn, 1) := by decide +kernel
set_option maxRecDepth 20000 in
set_option maxHeartbeats 4000000 in
theorem c_X5_tideNow {K : Cx} {s : Nat → Int32} {m : TM} (ht : TD s) : CT yX5_tideNow cX5_tideNow 1 (some .int) 0 0 K [.ref 49] (sr m 50 s) (some (.int (tdF s))) (sr m 50 s) := by
  refine ct_ofd (n := 0) (by decide +kernel) rfl rfl ?_
  show XX RX5 cX5_tideNow 1 (some .int) 0 0 K 0 [some (.ref 49)] [] (sr m 50 s) (fun r1 m1 => r1 = (some (.int (tdF s))) ∧ m1 = sr m 50 s)
  refine x_aload_n (q := 1) dX5_tideNow_0 rfl rfl ?_
  refine x_getR (q := 4) dX5_tideNow_1 rfl fl_X5_9 (or5_s) ?_
  refine x_bipush (q := 6) (v := 6) dX5_tideNow_4 rfl (by decide) ?_
  refine x_aload_n (q := 7) dX5_tideNow_6 rfl rfl ?_
  refine x_getR (q := 10) dX5_tideNow_7 rfl fl_X5_9 (or5_s) ?_
  refine x_iconst (q := 11) (v := 0) dX5_tideNow_10 rfl (by decide) ?_
  refine x_ialdr (q := 12) dX5_tideNow_11 rfl (ar_50) (ix_nI (k := 0) (by decide) (by decide)) (Nat.zero_add _) ?_
  refine x_aload_n (q := 13) dX5_tideNow_12 rfl rfl ?_
  refine x_getR (q := 16) dX5_tideNow_13 rfl fl_X5_9 (or5_s) ?_
  refine x_iconst (q := 17) (v := 4) dX5_tideNow_16 rfl (by decide) ?_
  refine x_ialdr (q := 18) dX5_tideNow_17 rfl (ar_50) (ix_nI (k := 4) (by decide) (by decide)) (Nat.zero_add _) ?_
  refine x_iadd (q := 19) dX5_tideNow_18 rfl ?_
  refine x_bipush (q := 21) (v := 6) dX5_tideNow_19 rfl (by decide) ?_
  refine x_irem (q := 22) dX5_tideNow_21 rfl (by decide) ?_
  refine x_iadd (q := 23) dX5_tideNow_22 rfl ?_
  refine x_ialdr (q := 24) dX5_tideNow_23 rfl (ar_50) (ix_td ht) (Nat.zero_add _) ?_
  refine x_aload_n (q := 25) dX5_tideNow_24 rfl rfl ?_
  refine x_getR (q := 28) dX5_tideNow_25 rfl fl_X5_9 (or5_s) ?_
  refine x_iconst (q := 29) (v := 5) dX5_tideNow_28 rfl (by decide) ?_
  refine x_ialdr (q := 30) dX5_tideNow_29 rfl (ar_50) (ix_nI (k := 5) (by decide) (by decide)) (Nat.zero_add _) ?_
  refine x_iadd (q := 31) dX5_tideNow_30 rfl ?_
  refine x_ireturn dX5_tideNow_31 rfl rfl ?_
  exact ⟨rfl, rfl⟩
theorem dX5_meetsTide_0 : decode cX5_meetsTide 0 = .ok (.aload_n 0, 1) := by decide +kernel
theorem dX5_meetsTide_1 : decode cX5_meetsTide 1 = .ok (.iload_n 1, 1) := by decide +kernel
theorem dX5_meetsTide_2 : decode cX5_meetsTide 2 = .ok (.iconst 5, 1) := by decide +kernel
theorem dX5_meetsTide_3 : decode cX5_meetsTide 3 = .ok (.invokevirtual 52, 3) := by decide +kernel
theorem dX5_meetsTide_6 : decode cX5_meetsTide 6 = .ok (.iconst 1, 1) := by decide +kernel
theorem dX5_meetsTide_7 : decode cX5_meetsTide 7 = .ok (.if_icmp .ne 4, 3) := by decide +kernel
theorem dX5_meetsTide_10 : decode cX5_meetsTide 10 = .ok (.return_, 1) := by decide +kernel
theorem dX5_meetsTide_11 : decode cX5_meetsTide 11 = .ok (.aload_n 0, 1) := by decide +kernel
theorem dX5_meetsTide_12 : decode cX5_meetsTide 12 = .ok (.iload_n 1, 1) := by decide +kernel
theorem dX5_meetsTide_13 : decode cX5_meetsTide 13 = .ok (.iload_n 2, 1) := by decide +kernel
theorem dX5_meetsTide_14 : decode cX5_meetsTide 14 = .ok (.invokevirtual 56, 3) := by decide +kernel
theorem dX5_meetsTide_17 : decode cX5_meetsTide 17 = .ok (.ifCond .eq 60, 3) := by decide +kernel
theorem dX5_meetsTide_20 : decode cX5_meetsTide 20 = .ok (.aload_n 0, 1) := by decide +kernel
theorem dX5_meetsTide_21 : decode cX5_meetsTide 21 = .ok (.iload_n 1, 1) := by decide +kernel
theorem dX5_meetsTide_22 : decode cX5_meetsTide 22 = .ok (.iconst 4, 1) := by decide +kernel
theorem dX5_meetsTide_23 : decode cX5_meetsTide 23 = .ok (.iconst 1, 1) := by decide +kernel
theorem dX5_meetsTide_24 : decode cX5_meetsTide 24 = .ok (.invokevirtual 60, 3) := by decide +kernel
theorem dX5_meetsTide_27 : decode cX5_meetsTide 27 = .ok (.aload_n 0, 1) := by decide +kernel
theorem dX5_meetsTide_28 : decode cX5_meetsTide 28 = .ok (.getfield 9, 3) := by decide +kernel
theorem dX5_meetsTide_31 : decode cX5_meetsTide 31 = .ok (.iconst 3, 1) := by decide +kernel
theorem dX5_meetsTide_32 : decode cX5_meetsTide 32 = .ok (.ldc 64, 2) := by decide +kernel
theorem dX5_meetsTide_34 : decode cX5_meetsTide 34 = .ok (.aload_n 0, 1) := by decide +kernel
theorem dX5_meetsTide_35 : decode cX5_meetsTide 35 = .ok (.getfield 9, 3) := by decide +kernel
theorem dX5_meetsTide_38 : decode cX5_meetsTide 38 = .ok (.iconst 3, 1) := by decide +kernel
theorem dX5_meetsTide_39 : decode cX5_meetsTide 39 = .ok (.iaload, 1) := by decide +kernel
theorem dX5_meetsTide_40 : decode cX5_meetsTide 40 = .ok (.aload_n 0, 1) := by decide +kernel
theorem dX5_meetsTide_41 : decode cX5_meetsTide 41 = .ok (.iload_n 1, 1) := by decide +kernel
theorem dX5_meetsTide_42 : decode cX5_meetsTide 42 = .ok (.invokevirtual 65, 3) := by decide +kernel
theorem dX5_meetsTide_45 : decode cX5_meetsTide 45 = .ok (.iadd, 1) := by decide +kernel
theorem dX5_meetsTide_46 : decode cX5_meetsTide 46 = .ok (.invokestatic 69, 3) := by decide +kernel
theorem dX5_meetsTide_49 : decode cX5_meetsTide 49 = .ok (.iastore, 1) := by decide +kernel
theorem dX5_meetsTide_50 : decode cX5_meetsTide 50 = .ok (.aload_n 0, 1) := by decide +kernel
theorem dX5_meetsTide_51 : decode cX5_meetsTide 51 = .ok (.getfield 9, 3) := by decide +kernel
theorem dX5_meetsTide_54 : decode cX5_meetsTide 54 = .ok (.iconst 4, 1) := by decide +kernel
theorem dX5_meetsTide_55 : decode cX5_meetsTide 55 = .ok (.sipush 9999, 3) := by decide +kernel
theorem dX5_meetsTide_58 : decode cX5_meetsTide 58 = .ok (.aload_n 0, 1) := by decide +kernel
theorem dX5_meetsTide_59 : decode cX5_meetsTide 59 = .ok (.getfield 9, 3) := by decide +kernel
theorem dX5_meetsTide_62 : decode cX5_meetsTide 62 = .ok (.iconst 4, 1) := by decide +kernel
theorem dX5_meetsTide_63 : decode cX5_meetsTide 63 = .ok (.iaload, 1) := by decide +kernel
theorem dX5_meetsTide_64 : decode cX5_meetsTide 64 = .ok (.aload_n 0, 1) := by decide +kernel
theorem dX5_meetsTide_65 : decode cX5_meetsTide 65 = .ok (.iload_n 1, 1) := by decide +kernel
theorem dX5_meetsTide_66 : decode cX5_meetsTide 66 = .ok (.invokevirtual 72, 3) := by decide +kernel
theorem dX5_meetsTide_69 : decode cX5_meetsTide 69 = .ok (.iadd, 1) := by decide +kernel
theorem dX5_meetsTide_70 : decode cX5_meetsTide 70 = .ok (.invokestatic 69, 3) := by decide +kernel
theorem dX5_meetsTide_73 : decode cX5_meetsTide 73 = .ok (.iastore, 1) := by decide +kernel
theorem dX5_meetsTide_74 : decode cX5_meetsTide 74 = .ok (.goto 64, 3) := by decide +kernel
theorem dX5_meetsTide_77 : decode cX5_meetsTide 77 = .ok (.iload_n 2, 1) := by decide +kernel
theorem dX5_meetsTide_78 : decode cX5_meetsTide 78 = .ok (.ifCond .le 60, 3) := by decide +kernel
theorem dX5_meetsTide_81 : decode cX5_meetsTide 81 = .ok (.iload_n 2, 1) := by decide +kernel
theorem dX5_meetsTide_82 : decode cX5_meetsTide 82 = .ok (.aload_n 0, 1) := by decide +kernel
theorem dX5_meetsTide_83 : decode cX5_meetsTide 83 = .ok (.iload_n 1, 1) := by decide +kernel
theorem dX5_meetsTide_84 : decode cX5_meetsTide 84 = .ok (.iconst 1, 1) := by decide +kernel
theorem dX5_meetsTide_85 : decode cX5_meetsTide 85 = .ok (.invokevirtual 52, 3) := by decide +kernel
theorem dX5_meetsTide_88 : decode cX5_meetsTide 88 = .ok (.iconst 3, 1) := by decide +kernel
theorem dX5_meetsTide_89 : decode cX5_meetsTide 89 = .ok (.isub, 1) := by decide +kernel
theorem dX5_meetsTide_90 : decode cX5_meetsTide 90 = .ok (.if_icmp .lt 48, 3) := by decide +kernel
theorem dX5_meetsTide_93 : decode cX5_meetsTide 93 = .ok (.aload_n 0, 1) := by decide +kernel
theorem dX5_meetsTide_94 : decode cX5_meetsTide 94 = .ok (.iload_n 1, 1) := by decide +kernel
theorem dX5_meetsTide_95 : decode cX5_meetsTide 95 = .ok (.bipush 6, 2) := by decide +kernel
theorem dX5_meetsTide_97 : decode cX5_meetsTide 97 = .ok (.sipush 9999, 3) := by decide +kernel
theorem dX5_meetsTide_100 : decode cX5_meetsTide 100 = .ok (.aload_n 0, 1) := by decide +kernel
theorem dX5_meetsTide_101 : decode cX5_meetsTide 101 = .ok (.iload_n 1, 1) := by decide +kernel
theorem dX5_meetsTide_102 : decode cX5_meetsTide 102 = .ok (.bipush 6, 2) := by decide +kernel
theorem dX5_meetsTide_104 : decode cX5_meetsTide 104 = .ok (.invokevirtual 52, 3) := by decide +kernel
theorem dX5_meetsTide_107 : decode cX5_meetsTide 107 = .ok (.iconst 1, 1) := by decide +kernel
theorem dX5_meetsTide_108 : decode cX5_meetsTide 108 = .ok (.iadd, 1) := by decide +kernel
theorem dX5_meetsTide_109 : decode cX5_meetsTide 109 = .ok (.invokestatic 69, 3) := by decide +kernel
theorem dX5_meetsTide_112 : decode cX5_meetsTide 112 = .ok (.invokevirtual 60, 3) := by decide +kernel
theorem dX5_meetsTide_115 : decode cX5_meetsTide 115 = .ok (.aload_n 0, 1) := by decide +kernel
theorem dX5_meetsTide_116 : decode cX5_meetsTide 116 = .ok (.iload_n 1, 1) := by decide +kernel
theorem dX5_meetsTide_117 : decode cX5_meetsTide 117 = .ok (.iconst 1, 1) := by decide +kernel
theorem dX5_meetsTide_118 : decode cX5_meetsTide 118 = .ok (.bipush 20, 2) := by decide +kernel
theorem dX5_meetsTide_120 : decode cX5_meetsTide 120 = .ok (.aload_n 0, 1) := by decide +kernel
theorem dX5_meetsTide_121 : decode cX5_meetsTide 121 = .ok (.iload_n 1, 1) := by decide +kernel
theorem dX5_meetsTide_122 : decode cX5_meetsTide 122 = .ok (.iconst 1, 1) := by decide +kernel
theorem dX5_meetsTide_123 : decode cX5_meetsTide 123 = .ok (.invokevirtual 52, 3) := by decide +kernel
theorem dX5_meetsTide_126 : decode cX5_meetsTide 126 = .ok (.aload_n 0, 1) := by decide +kernel
theorem dX5_meetsTide_127 : decode cX5_meetsTide 127 = .ok (.iload_n 1, 1) := by decide +kernel
theorem dX5_meetsTide_128 : decode cX5_meetsTide 128 = .ok (.invokevirtual 75, 3) := by decide +kernel
theorem dX5_meetsTide_131 : decode cX5_meetsTide 131 = .ok (.iadd, 1) := by decide +kernel
theorem dX5_meetsTide_132 : decode cX5_meetsTide 132 = .ok (.invokestatic 69, 3) := by decide +kernel
theorem dX5_meetsTide_135 : decode cX5_meetsTide 135 = .ok (.invokevirtual 60, 3) := by decide +kernel
theorem dX5_meetsTide_138 : decode cX5_meetsTide 138 = .ok (.return_, 1) := by decide +kernel
set_option maxRecDepth 20000 in
set_option maxHeartbeats 4000000 in
theorem c_X5_meetsTide {K : Cx} {k : Nat} {t : Int32} {s : Nat → Int32} {m : TM} (hk : k < 8) (hkd : ∃ c, c ≤ 6 ∧ s (12 + 7 * k + 0) = nI c) : CT yX5_meetsTide cX5_meetsTide 3 none 2 47 K [.ref 49, .int (nI k), .int t] (sr m 50 s) none (sr m 50 (if s (12 + 7 * k + 5) = 1 then s else meF s k t)) := by
  refine ct_ofd (n := 0) (by decide +kernel) rfl rfl ?_
  show XX RX5 cX5_meetsTide 3 none 2 47 K 0 [some (.ref 49), some (.int (nI k)), some (.int t)] [] (sr m 50 s) (fun r1 m1 => r1 = none ∧ m1 = sr m 50 (if s (12 + 7 * k + 5) = 1 then s else meF s k t))
  refine x_aload_n (q := 1) dX5_meetsTide_0 rfl rfl ?_
  refine x_iload_n (q := 2) dX5_meetsTide_1 rfl rfl ?_
  refine x_iconst (q := 3) (v := 5) dX5_meetsTide_2 rfl (by decide) ?_
  refine x_callV2v (q := 6) dX5_meetsTide_3 rfl ml_X5_52 mv_X5_get rv5 rfl (c_X5_getr (f := 5) hk (by decide)) (Nat.le_of_ble_eq_true rfl) ⟨by decide, by decide⟩ ?_
  refine x_iconst (q := 7) (v := 1) dX5_meetsTide_6 rfl (by decide) ?_
  refine x_icmp_ne (q := 10) (t := 11) dX5_meetsTide_7 rfl (by decide) (fun h7 => ?_) (fun h7 => ?_)
  · refine x_aload_n (q := 12) dX5_meetsTide_11 rfl rfl ?_
    refine x_iload_n (q := 13) dX5_meetsTide_12 rfl rfl ?_
    refine x_iload_n (q := 14) dX5_meetsTide_13 rfl rfl ?_
    refine x_callV2v (q := 17) dX5_meetsTide_14 rfl ml_X5_56 mv_X5_isSigned rv5 rfl (c_X5_isSigned hk) (Nat.le_of_ble_eq_true rfl) ⟨by decide, by decide⟩ ?_
    refine x_ifB_eq (q := 20) (t := 77) dX5_meetsTide_17 rfl (by decide) (fun h17 => ?_) (fun h17 => ?_)
    · refine x_iload_n (q := 78) dX5_meetsTide_77 rfl rfl ?_
      refine x_if_le (q := 81) (t := 138) dX5_meetsTide_78 rfl (by decide) (fun h78 => ?_) (fun h78 => ?_)
      · refine x_return dX5_meetsTide_138 rfl ?_
        refine ⟨rfl, ?_⟩
        rw [if_neg h7, meF, if_neg (by rw [h17]; exact Bool.false_ne_true)]
        rw [if_neg (by simp [tch, h78])]
      refine x_iload_n (q := 82) dX5_meetsTide_81 rfl rfl ?_
      refine x_aload_n (q := 83) dX5_meetsTide_82 rfl rfl ?_
      refine x_iload_n (q := 84) dX5_meetsTide_83 rfl rfl ?_
      refine x_iconst (q := 85) (v := 1) dX5_meetsTide_84 rfl (by decide) ?_
      refine x_callV2v (q := 88) dX5_meetsTide_85 rfl ml_X5_52 mv_X5_get rv5 rfl (c_X5_getr (f := 1) hk (by decide)) (Nat.le_of_ble_eq_true rfl) ⟨by decide, by decide⟩ ?_
      refine x_iconst (q := 89) (v := 3) dX5_meetsTide_88 rfl (by decide) ?_
      refine x_isub (q := 90) dX5_meetsTide_89 rfl ?_
      refine x_icmp_lt (q := 93) (t := 138) dX5_meetsTide_90 rfl (by decide) (fun h90 => ?_) (fun h90 => ?_)
      · refine x_return dX5_meetsTide_138 rfl ?_
        refine ⟨rfl, ?_⟩
        rw [if_neg h7, meF, if_neg (by rw [h17]; exact Bool.false_ne_true)]
        rw [if_neg (by simp [tch, h90])]
      refine x_aload_n (q := 94) dX5_meetsTide_93 rfl rfl ?_
      refine x_iload_n (q := 95) dX5_meetsTide_94 rfl rfl ?_
      refine x_bipush (q := 97) (v := 6) dX5_meetsTide_95 rfl (by decide) ?_
      refine x_sipush (q := 100) (v := 9999) dX5_meetsTide_97 rfl (by decide) ?_
      refine x_aload_n (q := 101) dX5_meetsTide_100 rfl rfl ?_
      refine x_iload_n (q := 102) dX5_meetsTide_101 rfl rfl ?_
      refine x_bipush (q := 104) (v := 6) dX5_meetsTide_102 rfl (by decide) ?_
      refine x_callV2v (q := 107) dX5_meetsTide_104 rfl ml_X5_52 mv_X5_get rv5 rfl (c_X5_getr (f := 6) hk (by decide)) (Nat.le_of_ble_eq_true rfl) ⟨by decide, by decide⟩ ?_
      refine x_iconst (q := 108) (v := 1) dX5_meetsTide_107 rfl (by decide) ?_
      refine x_iadd (q := 109) dX5_meetsTide_108 rfl ?_
      refine x_callS2v (q := 112) dX5_meetsTide_109 rfl ml_X5_69 ms_X5_less c_X5_less (Nat.le_of_ble_eq_true rfl) ⟨by decide, by decide⟩ ?_
      refine x_callV3n (q := 115) dX5_meetsTide_112 rfl ml_X5_60 mv_X5_puts rv5 rfl (c_X5_putsr (f := 6) hk (by decide)) (Nat.le_of_ble_eq_true rfl) ⟨by decide, by decide⟩ ?_
      refine x_aload_n (q := 116) dX5_meetsTide_115 rfl rfl ?_
      refine x_iload_n (q := 117) dX5_meetsTide_116 rfl rfl ?_
      refine x_iconst (q := 118) (v := 1) dX5_meetsTide_117 rfl (by decide) ?_
      refine x_bipush (q := 120) (v := 20) dX5_meetsTide_118 rfl (by decide) ?_
      refine x_aload_n (q := 121) dX5_meetsTide_120 rfl rfl ?_
      refine x_iload_n (q := 122) dX5_meetsTide_121 rfl rfl ?_
      refine x_iconst (q := 123) (v := 1) dX5_meetsTide_122 rfl (by decide) ?_
      refine x_callV2v (q := 126) dX5_meetsTide_123 rfl ml_X5_52 mv_X5_get rv5 rfl (c_X5_getr (f := 1) hk (by decide)) (Nat.le_of_ble_eq_true rfl) ⟨by decide, by decide⟩ ?_
      refine x_aload_n (q := 127) dX5_meetsTide_126 rfl rfl ?_
      refine x_iload_n (q := 128) dX5_meetsTide_127 rfl rfl ?_
      refine x_callV1v (q := 131) dX5_meetsTide_128 rfl ml_X5_75 mv_X5_movesOf rv5 rfl (c_X5_movesOf hk) (Nat.le_of_ble_eq_true rfl) ⟨by decide, by decide⟩ ?_
      refine x_iadd (q := 132) dX5_meetsTide_131 rfl ?_
      refine x_callS2v (q := 135) dX5_meetsTide_132 rfl ml_X5_69 ms_X5_less c_X5_less (Nat.le_of_ble_eq_true rfl) ⟨by decide, by decide⟩ ?_
      refine x_callV3n (q := 138) dX5_meetsTide_135 rfl ml_X5_60 mv_X5_puts rv5 rfl (c_X5_putsr (f := 1) hk (by decide)) (Nat.le_of_ble_eq_true rfl) ⟨by decide, by decide⟩ ?_
      refine x_return dX5_meetsTide_138 rfl ?_
      refine ⟨rfl, ?_⟩
      rw [if_neg h7, meF, if_neg (by rw [h17]; exact Bool.false_ne_true)]
      rw [if_pos (by simp [tch, h78, h90])]
      obtain ⟨c, hc, ec⟩ := hkd
      have e1 : upd s (12 + 7 * k + 6) (minI (s (12 + 7 * k + 6) + 1) 9999) (12 + 7 * k + 1) = s (12 + 7 * k + 1) := upd_ne (by omega)
      have e2 : upd s (12 + 7 * k + 6) (minI (s (12 + 7 * k + 6) + 1) 9999) (12 + 7 * k + 0) = s (12 + 7 * k + 0) := upd_ne (by omega)
      rw [e1, e2, ec, mv_eq hc, ← ec, trn]
    refine x_aload_n (q := 21) dX5_meetsTide_20 rfl rfl ?_
    refine x_iload_n (q := 22) dX5_meetsTide_21 rfl rfl ?_
    refine x_iconst (q := 23) (v := 4) dX5_meetsTide_22 rfl (by decide) ?_
    refine x_iconst (q := 24) (v := 1) dX5_meetsTide_23 rfl (by decide) ?_
    refine x_callV3n (q := 27) dX5_meetsTide_24 rfl ml_X5_60 mv_X5_puts rv5 rfl (c_X5_putsr (f := 4) hk (by decide)) (Nat.le_of_ble_eq_true rfl) ⟨by decide, by decide⟩ ?_
    refine x_aload_n (q := 28) dX5_meetsTide_27 rfl rfl ?_
    refine x_getR (q := 31) dX5_meetsTide_28 rfl fl_X5_9 (or5_s) ?_
    refine x_iconst (q := 32) (v := 3) dX5_meetsTide_31 rfl (by decide) ?_
    refine x_ldc (q := 34) dX5_meetsTide_32 rfl kc_X5_64 ?_
    refine x_aload_n (q := 35) dX5_meetsTide_34 rfl rfl ?_
    refine x_getR (q := 38) dX5_meetsTide_35 rfl fl_X5_9 (or5_s) ?_
    refine x_iconst (q := 39) (v := 3) dX5_meetsTide_38 rfl (by decide) ?_
    refine x_ialdr (q := 40) dX5_meetsTide_39 rfl (ar_50) (ix_nI (k := 3) (by decide) (by decide)) (Nat.zero_add _) ?_
    refine x_aload_n (q := 41) dX5_meetsTide_40 rfl rfl ?_
    refine x_iload_n (q := 42) dX5_meetsTide_41 rfl rfl ?_
    refine x_callV1v (q := 45) dX5_meetsTide_42 rfl ml_X5_65 mv_X5_paysOf rv5 rfl (c_X5_paysOf hk) (Nat.le_of_ble_eq_true rfl) ⟨by decide, by decide⟩ ?_
    refine x_iadd (q := 46) dX5_meetsTide_45 rfl ?_
    refine x_callS2v (q := 49) dX5_meetsTide_46 rfl ml_X5_69 ms_X5_less c_X5_less (Nat.le_of_ble_eq_true rfl) ⟨by decide, by decide⟩ ?_
    refine x_iastr (q := 50) dX5_meetsTide_49 rfl (ar_50) (ix_nI (k := 3) (by decide) (by decide)) (Nat.zero_add _)  ?_
    refine x_aload_n (q := 51) dX5_meetsTide_50 rfl rfl ?_
    refine x_getR (q := 54) dX5_meetsTide_51 rfl fl_X5_9 (or5_s) ?_
    refine x_iconst (q := 55) (v := 4) dX5_meetsTide_54 rfl (by decide) ?_
    refine x_sipush (q := 58) (v := 9999) dX5_meetsTide_55 rfl (by decide) ?_
    refine x_aload_n (q := 59) dX5_meetsTide_58 rfl rfl ?_
    refine x_getR (q := 62) dX5_meetsTide_59 rfl fl_X5_9 (or5_s) ?_
    refine x_iconst (q := 63) (v := 4) dX5_meetsTide_62 rfl (by decide) ?_
    refine x_ialdr (q := 64) dX5_meetsTide_63 rfl (ar_50) (ix_nI (k := 4) (by decide) (by decide)) (Nat.zero_add _) ?_
    refine x_aload_n (q := 65) dX5_meetsTide_64 rfl rfl ?_
    refine x_iload_n (q := 66) dX5_meetsTide_65 rfl rfl ?_
    refine x_callV1v (q := 69) dX5_meetsTide_66 rfl ml_X5_72 mv_X5_delaysOf rv5 rfl (c_X5_delaysOf hk) (Nat.le_of_ble_eq_true rfl) ⟨by decide, by decide⟩ ?_
    refine x_iadd (q := 70) dX5_meetsTide_69 rfl ?_
    refine x_callS2v (q := 73) dX5_meetsTide_70 rfl ml_X5_69 ms_X5_less c_X5_less (Nat.le_of_ble_eq_true rfl) ⟨by decide, by decide⟩ ?_
    refine x_iastr (q := 74) dX5_meetsTide_73 rfl (ar_50) (ix_nI (k := 4) (by decide) (by decide)) (Nat.zero_add _)  ?_
    refine x_goto (q := 138) dX5_meetsTide_74 (by decide) ?_
    refine x_return dX5_meetsTide_138 rfl ?_
    refine ⟨rfl, ?_⟩
    have e1 : upd s (12 + 7 * k + 4) 1 3 = s 3 := upd_ne (by omega)
    have e2 : upd s (12 + 7 * k + 4) 1 (12 + 7 * k + 0) = s (12 + 7 * k + 0) := upd_ne (by omega)
    have e3 : upd s (12 + 7 * k + 4) 1 (12 + 7 * k + 2) = s (12 + 7 * k + 2) := upd_ne (by omega)
    rw [if_neg h7, meF, if_pos h17, e1, e2, e3]
    rw [upd_ne (i := 3) (j := 4) (by decide), upd_ne (i := 12 + 7 * k + 4) (j := 4) (by omega), upd_ne (i := 3) (j := 12 + 7 * k + 0) (by omega), e2]
  refine x_return dX5_meetsTide_10 rfl ?_
  refine ⟨rfl, ?_⟩
  rw [if_pos h7]
theorem dX5_waitsOn_0 : decode cX5_waitsOn 0 = .ok (.aload_n 0, 1) := by decide +kernel
theorem dX5_waitsOn_1 : decode cX5_waitsOn 1 = .ok (.iload_n 1, 1) := by decide +kernel
theorem dX5_waitsOn_2 : decode cX5_waitsOn 2 = .ok (.iconst 3, 1) := by decide +kernel
theorem dX5_waitsOn_3 : decode cX5_waitsOn 3 = .ok (.sipush 9999, 3) := by decide +kernel
theorem dX5_waitsOn_6 : decode cX5_waitsOn 6 = .ok (.aload_n 0, 1) := by decide +kernel
theorem dX5_waitsOn_7 : decode cX5_waitsOn 7 = .ok (.iload_n 1, 1) := by decide +kernel
theorem dX5_waitsOn_8 : decode cX5_waitsOn 8 = .ok (.iconst 3, 1) := by decide +kernel
theorem dX5_waitsOn_9 : decode cX5_waitsOn 9 = .ok (.invokevirtual 52, 3) := by decide +kernel
theorem dX5_waitsOn_12 : decode cX5_waitsOn 12 = .ok (.iconst 1, 1) := by decide +kernel
theorem dX5_waitsOn_13 : decode cX5_waitsOn 13 = .ok (.iadd, 1) := by decide +kernel
theorem dX5_waitsOn_14 : decode cX5_waitsOn 14 = .ok (.invokestatic 69, 3) := by decide +kernel
theorem dX5_waitsOn_17 : decode cX5_waitsOn 17 = .ok (.invokevirtual 60, 3) := by decide +kernel
theorem dX5_waitsOn_20 : decode cX5_waitsOn 20 = .ok (.aload_n 0, 1) := by decide +kernel
theorem dX5_waitsOn_21 : decode cX5_waitsOn 21 = .ok (.iload_n 1, 1) := by decide +kernel
theorem dX5_waitsOn_22 : decode cX5_waitsOn 22 = .ok (.iconst 4, 1) := by decide +kernel
theorem dX5_waitsOn_23 : decode cX5_waitsOn 23 = .ok (.aload_n 0, 1) := by decide +kernel
theorem dX5_waitsOn_24 : decode cX5_waitsOn 24 = .ok (.iload_n 1, 1) := by decide +kernel
theorem dX5_waitsOn_25 : decode cX5_waitsOn 25 = .ok (.iconst 3, 1) := by decide +kernel
theorem dX5_waitsOn_26 : decode cX5_waitsOn 26 = .ok (.invokevirtual 52, 3) := by decide +kernel
theorem dX5_waitsOn_29 : decode cX5_waitsOn 29 = .ok (.aload_n 0, 1) := by decide +kernel
theorem dX5_waitsOn_30 : decode cX5_waitsOn 30 = .ok (.iload_n 1, 1) := by decide +kernel
theorem dX5_waitsOn_31 : decode cX5_waitsOn 31 = .ok (.invokevirtual 78, 3) := by decide +kernel
theorem dX5_waitsOn_34 : decode cX5_waitsOn 34 = .ok (.if_icmp .le 7, 3) := by decide +kernel
theorem dX5_waitsOn_37 : decode cX5_waitsOn 37 = .ok (.iconst 2, 1) := by decide +kernel
theorem dX5_waitsOn_38 : decode cX5_waitsOn 38 = .ok (.goto 4, 3) := by decide +kernel
theorem dX5_waitsOn_41 : decode cX5_waitsOn 41 = .ok (.iconst 0, 1) := by decide +kernel
theorem dX5_waitsOn_42 : decode cX5_waitsOn 42 = .ok (.invokevirtual 60, 3) := by decide +kernel
theorem dX5_waitsOn_45 : decode cX5_waitsOn 45 = .ok (.return_, 1) := by decide +kernel
set_option maxRecDepth 20000 in
set_option maxHeartbeats 4000000 in
theorem c_X5_waitsOn {K : Cx} {k : Nat} {s : Nat → Int32} {m : TM} (hk : k < 8) (hf : s (12 + 7 * k + 4) = 0) : CT yX5_waitsOn cX5_waitsOn 2 none 2 43 K [.ref 49, .int (nI k)] (sr m 50 s) none (sr m 50 (wat s k)) := by
  refine ct_ofd (n := 0) (by decide +kernel) rfl rfl ?_
  show XX RX5 cX5_waitsOn 2 none 2 43 K 0 [some (.ref 49), some (.int (nI k))] [] (sr m 50 s) (fun r1 m1 => r1 = none ∧ m1 = sr m 50 (wat s k))
  refine x_aload_n (q := 1) dX5_waitsOn_0 rfl rfl ?_
  refine x_iload_n (q := 2) dX5_waitsOn_1 rfl rfl ?_
  refine x_iconst (q := 3) (v := 3) dX5_waitsOn_2 rfl (by decide) ?_
  refine x_sipush (q := 6) (v := 9999) dX5_waitsOn_3 rfl (by decide) ?_
  refine x_aload_n (q := 7) dX5_waitsOn_6 rfl rfl ?_
  refine x_iload_n (q := 8) dX5_waitsOn_7 rfl rfl ?_
  refine x_iconst (q := 9) (v := 3) dX5_waitsOn_8 rfl (by decide) ?_
  refine x_callV2v (q := 12) dX5_waitsOn_9 rfl ml_X5_52 mv_X5_get rv5 rfl (c_X5_getr (f := 3) hk (by decide)) (Nat.le_of_ble_eq_true rfl) ⟨by decide, by decide⟩ ?_
  refine x_iconst (q := 13) (v := 1) dX5_waitsOn_12 rfl (by decide) ?_
  refine x_iadd (q := 14) dX5_waitsOn_13 rfl ?_
  refine x_callS2v (q := 17) dX5_waitsOn_14 rfl ml_X5_69 ms_X5_less c_X5_less (Nat.le_of_ble_eq_true rfl) ⟨by decide, by decide⟩ ?_
  refine x_callV3n (q := 20) dX5_waitsOn_17 rfl ml_X5_60 mv_X5_puts rv5 rfl (c_X5_putsr (f := 3) hk (by decide)) (Nat.le_of_ble_eq_true rfl) ⟨by decide, by decide⟩ ?_
  refine x_aload_n (q := 21) dX5_waitsOn_20 rfl rfl ?_
  refine x_iload_n (q := 22) dX5_waitsOn_21 rfl rfl ?_
  refine x_iconst (q := 23) (v := 4) dX5_waitsOn_22 rfl (by decide) ?_
  refine x_aload_n (q := 24) dX5_waitsOn_23 rfl rfl ?_
  refine x_iload_n (q := 25) dX5_waitsOn_24 rfl rfl ?_
  refine x_iconst (q := 26) (v := 3) dX5_waitsOn_25 rfl (by decide) ?_
  refine x_callV2v (q := 29) dX5_waitsOn_26 rfl ml_X5_52 mv_X5_get rv5 rfl (c_X5_getr (f := 3) hk (by decide)) (Nat.le_of_ble_eq_true rfl) ⟨by decide, by decide⟩ ?_
  refine x_aload_n (q := 30) dX5_waitsOn_29 rfl rfl ?_
  refine x_iload_n (q := 31) dX5_waitsOn_30 rfl rfl ?_
  refine x_callV1v (q := 34) dX5_waitsOn_31 rfl ml_X5_78 mv_X5_lastsOf rv5 rfl (c_X5_lastsOf hk) (Nat.le_of_ble_eq_true rfl) ⟨by decide, by decide⟩ ?_
  refine x_icmp_le (q := 37) (t := 41) dX5_waitsOn_34 rfl (by decide) (fun h34 => ?_) (fun h34 => ?_)
  · refine x_iconst (q := 42) (v := 0) dX5_waitsOn_41 rfl (by decide) ?_
    refine x_callV3n (q := 45) dX5_waitsOn_42 rfl ml_X5_60 mv_X5_puts rv5 rfl (c_X5_putsr (f := 4) hk (by decide)) (Nat.le_of_ble_eq_true rfl) ⟨by decide, by decide⟩ ?_
    refine x_return dX5_waitsOn_45 rfl ?_
    refine ⟨rfl, ?_⟩
    have e1 : upd s (12 + 7 * k + 3) (minI (s (12 + 7 * k + 3) + 1) 9999) (12 + 7 * k + 0) = s (12 + 7 * k + 0) := upd_ne (by omega)
    rw [upd_self, e1] at h34
    rw [wat, if_neg (Int32.not_lt.mpr h34), upd_same]
    rw [upd_ne (by omega), hf]
  refine x_iconst (q := 38) (v := 2) dX5_waitsOn_37 rfl (by decide) ?_
  refine x_goto (q := 42) dX5_waitsOn_38 (by decide) ?_
  refine x_callV3n (q := 45) dX5_waitsOn_42 rfl ml_X5_60 mv_X5_puts rv5 rfl (c_X5_putsr (f := 4) hk (by decide)) (Nat.le_of_ble_eq_true rfl) ⟨by decide, by decide⟩ ?_
  refine x_return dX5_waitsOn_45 rfl ?_
  refine ⟨rfl, ?_⟩
  have e1 : upd s (12 + 7 * k + 3) (minI (s (12 + 7 * k + 3) + 1) 9999) (12 + 7 * k + 0) = s (12 + 7 * k + 0) := upd_ne (by omega)
  rw [upd_self, e1] at h34
  rw [wat, if_pos (Int32.not_le.mp h34)]
theorem dX5_day_0 : decode cX5_day 0 = .ok (.aload_n 0, 1) := by decide +kernel
theorem dX5_day_1 : decode cX5_day 1 = .ok (.invokevirtual 81, 3) := by decide +kernel
theorem dX5_day_4 : decode cX5_day 4 = .ok (.istore_n 1, 1) := by decide +kernel
theorem dX5_day_5 : decode cX5_day 5 = .ok (.iconst 0, 1) := by decide +kernel
theorem dX5_day_6 : decode cX5_day 6 = .ok (.istore_n 2, 1) := by decide +kernel
theorem dX5_day_7 : decode cX5_day 7 = .ok (.iload_n 2, 1) := by decide +kernel
theorem dX5_day_8 : decode cX5_day 8 = .ok (.aload_n 0, 1) := by decide +kernel
theorem dX5_day_9 : decode cX5_day 9 = .ok (.getfield 9, 3) := by decide +kernel
theorem dX5_day_12 : decode cX5_day 12 = .ok (.iconst 1, 1) := by decide +kernel
theorem dX5_day_13 : decode cX5_day 13 = .ok (.iaload, 1) := by decide +kernel
theorem dX5_day_14 : decode cX5_day 14 = .ok (.if_icmp .ge 24, 3) := by decide +kernel
theorem dX5_day_17 : decode cX5_day 17 = .ok (.aload_n 0, 1) := by decide +kernel
theorem dX5_day_18 : decode cX5_day 18 = .ok (.iload_n 2, 1) := by decide +kernel
theorem dX5_day_19 : decode cX5_day 19 = .ok (.iconst 4, 1) := by decide +kernel
theorem dX5_day_20 : decode cX5_day 20 = .ok (.invokevirtual 52, 3) := by decide +kernel
theorem dX5_day_23 : decode cX5_day 23 = .ok (.ifCond .ne 9, 3) := by decide +kernel
theorem dX5_day_26 : decode cX5_day 26 = .ok (.aload_n 0, 1) := by decide +kernel
theorem dX5_day_27 : decode cX5_day 27 = .ok (.iload_n 2, 1) := by decide +kernel
theorem dX5_day_28 : decode cX5_day 28 = .ok (.iload_n 1, 1) := by decide +kernel
theorem dX5_day_29 : decode cX5_day 29 = .ok (.invokevirtual 85, 3) := by decide +kernel
theorem dX5_day_32 : decode cX5_day 32 = .ok (.iinc 2 1, 3) := by decide +kernel
theorem dX5_day_35 : decode cX5_day 35 = .ok (.goto (-28), 3) := by decide +kernel
theorem dX5_day_38 : decode cX5_day 38 = .ok (.iconst 0, 1) := by decide +kernel
theorem dX5_day_39 : decode cX5_day 39 = .ok (.istore_n 2, 1) := by decide +kernel
theorem dX5_day_40 : decode cX5_day 40 = .ok (.iload_n 2, 1) := by decide +kernel
theorem dX5_day_41 : decode cX5_day 41 = .ok (.aload_n 0, 1) := by decide +kernel
theorem dX5_day_42 : decode cX5_day 42 = .ok (.getfield 9, 3) := by decide +kernel
theorem dX5_day_45 : decode cX5_day 45 = .ok (.iconst 1, 1) := by decide +kernel
theorem dX5_day_46 : decode cX5_day 46 = .ok (.iaload, 1) := by decide +kernel
theorem dX5_day_47 : decode cX5_day 47 = .ok (.if_icmp .ge 23, 3) := by decide +kernel
theorem dX5_day_50 : decode cX5_day 50 = .ok (.aload_n 0, 1) := by decide +kernel
theorem dX5_day_51 : decode cX5_day 51 = .ok (.iload_n 2, 1) := by decide +kernel
theorem dX5_day_52 : decode cX5_day 52 = .ok (.iconst 4, 1) := by decide +kernel
theorem dX5_day_53 : decode cX5_day 53 = .ok (.invokevirtual 52, 3) := by decide +kernel
theorem dX5_day_56 : decode cX5_day 56 = .ok (.ifCond .ne 8, 3) := by decide +kernel
theorem dX5_day_59 : decode cX5_day 59 = .ok (.aload_n 0, 1) := by decide +kernel
theorem dX5_day_60 : decode cX5_day 60 = .ok (.iload_n 2, 1) := by decide +kernel
theorem dX5_day_61 : decode cX5_day 61 = .ok (.invokevirtual 89, 3) := by decide +kernel
theorem dX5_day_64 : decode cX5_day 64 = .ok (.iinc 2 1, 3) := by decide +kernel
theorem dX5_day_67 : decode cX5_day 67 = .ok (.goto (-27), 3) := by decide +kernel
theorem dX5_day_70 : decode cX5_day 70 = .ok (.aload_n 0, 1) := by decide +kernel
theorem dX5_day_71 : decode cX5_day 71 = .ok (.getfield 9, 3) := by decide +kernel
theorem dX5_day_74 : decode cX5_day 74 = .ok (.iconst 0, 1) := by decide +kernel
theorem dX5_day_75 : decode cX5_day 75 = .ok (.ldc 64, 2) := by decide +kernel
theorem dX5_day_77 : decode cX5_day 77 = .ok (.aload_n 0, 1) := by decide +kernel
theorem dX5_day_78 : decode cX5_day 78 = .ok (.getfield 9, 3) := by decide +kernel
theorem dX5_day_81 : decode cX5_day 81 = .ok (.iconst 0, 1) := by decide +kernel
theorem dX5_day_82 : decode cX5_day 82 = .ok (.iaload, 1) := by decide +kernel
theorem dX5_day_83 : decode cX5_day 83 = .ok (.iconst 1, 1) := by decide +kernel
theorem dX5_day_84 : decode cX5_day 84 = .ok (.iadd, 1) := by decide +kernel
theorem dX5_day_85 : decode cX5_day 85 = .ok (.invokestatic 69, 3) := by decide +kernel
theorem dX5_day_88 : decode cX5_day 88 = .ok (.iastore, 1) := by decide +kernel
theorem dX5_day_89 : decode cX5_day 89 = .ok (.return_, 1) := by decide +kernel
set_option maxRecDepth 20000 in
set_option maxHeartbeats 4000000 in
theorem l_X5_day2 {K : Cx} {n8 : Nat} {t : Int32} {s : Nat → Int32} {m : TM} (hI : Iv n8 s) : ∀ (n : Nat) (j : Nat), n8 - j < n → j ≤ n8 → XX RX5 cX5_day 3 none 3 69 K 40 [some (.ref 49), some (.int t), some (.int (nI j))] [] (sr m 50 (mL2 (mL1 s t n8) j)) (fun r1 m1 => r1 = none ∧ m1 = sr m 50 (upd (mL2 (mL1 s t n8) n8) 0 (minI (mL2 (mL1 s t n8) n8 0 + 1) 99999))) := by
  intro n
  induction n with
  | zero => intro j hlt; exact absurd hlt (Nat.not_lt_zero _)
  | succ n ih =>
    intro j hlt hj
    have h8 := hI.1
    have hnj : mL2 (mL1 s t n8) j 1 = nI n8 := by rw [mL2_lo (by decide), mL1_lo (by decide) (by decide) (by decide), hI.2.1]
    refine x_iload_n (q := 41) dX5_day_40 rfl rfl ?_
    refine x_aload_n (q := 42) dX5_day_41 rfl rfl ?_
    refine x_getR (q := 45) dX5_day_42 rfl fl_X5_9 (or5_s) ?_
    refine x_iconst (q := 46) (v := 1) dX5_day_45 rfl (by decide) ?_
    refine x_ialdr (q := 47) dX5_day_46 rfl (ar_50) (ix_nI (k := 1) (by decide) (by decide)) (Nat.zero_add _) ?_
    refine x_icmp_ge (q := 50) (t := 70) dX5_day_47 rfl (by decide) (fun h47 => ?_) (fun h47 => ?_)
    · have e : j = n8 := Nat.le_antisymm hj (lp_stop hnj (by omega) (by omega) h47)
      subst e
      refine x_aload_n (q := 71) dX5_day_70 rfl rfl ?_
      refine x_getR (q := 74) dX5_day_71 rfl fl_X5_9 (or5_s) ?_
      refine x_iconst (q := 75) (v := 0) dX5_day_74 rfl (by decide) ?_
      refine x_ldc (q := 77) dX5_day_75 rfl kc_X5_64 ?_
      refine x_aload_n (q := 78) dX5_day_77 rfl rfl ?_
      refine x_getR (q := 81) dX5_day_78 rfl fl_X5_9 (or5_s) ?_
      refine x_iconst (q := 82) (v := 0) dX5_day_81 rfl (by decide) ?_
      refine x_ialdr (q := 83) dX5_day_82 rfl (ar_50) (ix_nI (k := 0) (by decide) (by decide)) (Nat.zero_add _) ?_
      refine x_iconst (q := 84) (v := 1) dX5_day_83 rfl (by decide) ?_
      refine x_iadd (q := 85) dX5_day_84 rfl ?_
      refine x_callS2v (q := 88) dX5_day_85 rfl ml_X5_69 ms_X5_less c_X5_less (Nat.le_of_ble_eq_true rfl) ⟨by decide, by decide⟩ ?_
      refine x_iastr (q := 89) dX5_day_88 rfl (ar_50) (ix_nI (k := 0) (by decide) (by decide)) (Nat.zero_add _)  ?_
      refine x_return dX5_day_89 rfl ?_
      exact ⟨rfl, rfl⟩
    have hjn : j < n8 := lp_go hnj (by omega) (by omega) h47
    have hk : j < 8 := by omega
    refine x_aload_n (q := 51) dX5_day_50 rfl rfl ?_
    refine x_iload_n (q := 52) dX5_day_51 rfl rfl ?_
    refine x_iconst (q := 53) (v := 4) dX5_day_52 rfl (by decide) ?_
    refine x_callV2v (q := 56) dX5_day_53 rfl ml_X5_52 mv_X5_get rv5 rfl (c_X5_getr (f := 4) hk (by decide)) (Nat.le_of_ble_eq_true rfl) ⟨by decide, by decide⟩ ?_
    refine x_if_ne (q := 59) (t := 64) dX5_day_56 rfl (by decide) (fun h56 => ?_) (fun h56 => ?_)
    · refine x_iinc (q := 67) (v := nI (j + 1)) dX5_day_64 rfl rfl (jnI_s j) (by decide) rfl rfl ?_
      refine x_goto (q := 40) dX5_day_67 (by decide) ?_
      have key := ih (j + 1) (by omega) (by omega)
      rw [mL2, wt1, if_neg h56] at key
      exact key
    refine x_aload_n (q := 60) dX5_day_59 rfl rfl ?_
    refine x_iload_n (q := 61) dX5_day_60 rfl rfl ?_
    refine x_callV1n (q := 64) dX5_day_61 rfl ml_X5_89 mv_X5_waitsOn rv5 rfl (c_X5_waitsOn hk h56) (Nat.le_of_ble_eq_true rfl) ⟨by decide, by decide⟩ ?_
    refine x_iinc (q := 67) (v := nI (j + 1)) dX5_day_64 rfl rfl (jnI_s j) (by decide) rfl rfl ?_
    refine x_goto (q := 40) dX5_day_67 (by decide) ?_
    have key := ih (j + 1) (by omega) (by omega)
    rw [mL2, wt1, if_pos h56] at key
    exact key
set_option maxRecDepth 20000 in
set_option maxHeartbeats 4000000 in
theorem l_X5_day1 {K : Cx} {n8 : Nat} {t : Int32} {s : Nat → Int32} {m : TM} (hI : Iv n8 s) : ∀ (n : Nat) (j : Nat), n8 - j < n → j ≤ n8 → XX RX5 cX5_day 3 none 3 69 K 7 [some (.ref 49), some (.int t), some (.int (nI j))] [] (sr m 50 (mL1 s t j)) (fun r1 m1 => r1 = none ∧ m1 = sr m 50 (upd (mL2 (mL1 s t n8) n8) 0 (minI (mL2 (mL1 s t n8) n8 0 + 1) 99999))) := by
  intro n
  induction n with
  | zero => intro j hlt; exact absurd hlt (Nat.not_lt_zero _)
  | succ n ih =>
    intro j hlt hj
    have h8 := hI.1
    have hnj : mL1 s t j 1 = nI n8 := by rw [mL1_lo (by decide) (by decide) (by decide), hI.2.1]
    refine x_iload_n (q := 8) dX5_day_7 rfl rfl ?_
    refine x_aload_n (q := 9) dX5_day_8 rfl rfl ?_
    refine x_getR (q := 12) dX5_day_9 rfl fl_X5_9 (or5_s) ?_
    refine x_iconst (q := 13) (v := 1) dX5_day_12 rfl (by decide) ?_
    refine x_ialdr (q := 14) dX5_day_13 rfl (ar_50) (ix_nI (k := 1) (by decide) (by decide)) (Nat.zero_add _) ?_
    refine x_icmp_ge (q := 17) (t := 38) dX5_day_14 rfl (by decide) (fun h14 => ?_) (fun h14 => ?_)
    · have e : j = n8 := Nat.le_antisymm hj (lp_stop hnj (by omega) (by omega) h14)
      subst e
      refine x_iconst (q := 39) (v := 0) dX5_day_38 rfl (by decide) ?_
      refine x_istore_n (q := 40) dX5_day_39 rfl (by decide) rfl rfl ?_
      exact l_X5_day2 hI (n := 0 + (j + 1)) 0 (by omega) (by omega)
    have hjn : j < n8 := lp_go hnj (by omega) (by omega) h14
    have hk : j < 8 := by omega
    have hp := hI.2.2.2.2.1 j hjn
    have hp5 : mL1 s t j (12 + 7 * j + 5) = 0 ∨ mL1 s t j (12 + 7 * j + 5) = 1 := by rw [(mL1_all j).1 _ (by omega)]; exact hp.1
    have hp0 : ∃ c, c ≤ 6 ∧ mL1 s t j (12 + 7 * j + 0) = nI c := by rw [(mL1_all j).1 _ (by omega)]; exact hp.2
    refine x_aload_n (q := 18) dX5_day_17 rfl rfl ?_
    refine x_iload_n (q := 19) dX5_day_18 rfl rfl ?_
    refine x_iconst (q := 20) (v := 4) dX5_day_19 rfl (by decide) ?_
    refine x_callV2v (q := 23) dX5_day_20 rfl ml_X5_52 mv_X5_get rv5 rfl (c_X5_getr (f := 4) hk (by decide)) (Nat.le_of_ble_eq_true rfl) ⟨by decide, by decide⟩ ?_
    refine x_if_ne (q := 26) (t := 32) dX5_day_23 rfl (by decide) (fun h23 => ?_) (fun h23 => ?_)
    · refine x_iinc (q := 35) (v := nI (j + 1)) dX5_day_32 rfl rfl (jnI_s j) (by decide) rfl rfl ?_
      refine x_goto (q := 7) dX5_day_35 (by decide) ?_
      have key := ih (j + 1) (by omega) (by omega)
      rw [mL1, mtC, if_neg h23] at key
      exact key
    refine x_aload_n (q := 27) dX5_day_26 rfl rfl ?_
    refine x_iload_n (q := 28) dX5_day_27 rfl rfl ?_
    refine x_iload_n (q := 29) dX5_day_28 rfl rfl ?_
    refine x_callV2n (q := 32) dX5_day_29 rfl ml_X5_85 mv_X5_meetsTide rv5 rfl (c_X5_meetsTide hk hp0) (Nat.le_of_ble_eq_true rfl) ⟨by decide, by decide⟩ ?_
    refine x_iinc (q := 35) (v := nI (j + 1)) dX5_day_32 rfl rfl (jnI_s j) (by decide) rfl rfl ?_
    refine x_goto (q := 7) dX5_day_35 (by decide) ?_
    have key := ih (j + 1) (by omega) (by omega)
    rw [mL1, mtC, if_pos h23] at key
    rcases hp5 with q | q
    · rw [if_pos q] at key
      rw [if_neg (by rw [q]; decide)]
      exact key
    · rw [if_neg (by rw [q]; decide)] at key
      rw [if_pos q]
      exact key
set_option maxRecDepth 20000 in
set_option maxHeartbeats 4000000 in
theorem c_X5_day {K : Cx} {n8 : Nat} {s : Nat → Int32} {m : TM} (hI : Iv n8 s) : CT yX5_day cX5_day 3 none 3 69 K [.ref 49] (sr m 50 s) none (sr m 50 (dyC s n8)) := by
  refine ct_ofd (n := 2) (by decide +kernel) rfl rfl ?_
  show XX RX5 cX5_day 3 none 3 69 K 0 [some (.ref 49), none, none] [] (sr m 50 s) (fun r1 m1 => r1 = none ∧ m1 = sr m 50 (dyC s n8))
  refine x_aload_n (q := 1) dX5_day_0 rfl rfl ?_
  refine x_callV0v (q := 4) dX5_day_1 rfl ml_X5_81 mv_X5_tideNow rv5 rfl (c_X5_tideNow hI.td) (Nat.le_of_ble_eq_true rfl) ⟨by decide, by decide⟩ ?_
  refine x_istore_n (q := 5) dX5_day_4 rfl (by decide) rfl rfl ?_
  refine x_iconst (q := 6) (v := 0) dX5_day_5 rfl (by decide) ?_
  refine x_istore_n (q := 7) dX5_day_6 rfl (by decide) rfl rfl ?_
  have h := l_X5_day1 (K := K) (m := m) (t := tdF s) hI (n8 + 1) 0 (by omega) (by omega)
  rw [mL_dyL] at h
  exact h
theorem dX5_goes_0 : decode cX5_goes 0 = .ok (.iconst 0, 1) := by decide +kernel
theorem dX5_goes_1 : decode cX5_goes 1 = .ok (.istore_n 2, 1) := by decide +kernel
theorem dX5_goes_2 : decode cX5_goes 2 = .ok (.iload_n 2, 1) := by decide +kernel
theorem dX5_goes_3 : decode cX5_goes 3 = .ok (.iload_n 1, 1) := by decide +kernel
theorem dX5_goes_4 : decode cX5_goes 4 = .ok (.if_icmp .ge 13, 3) := by decide +kernel
theorem dX5_goes_7 : decode cX5_goes 7 = .ok (.aload_n 0, 1) := by decide +kernel
theorem dX5_goes_8 : decode cX5_goes 8 = .ok (.invokevirtual 93, 3) := by decide +kernel
theorem dX5_goes_11 : decode cX5_goes 11 = .ok (.iinc 2 1, 3) := by decide +kernel
theorem dX5_goes_14 : decode cX5_goes 14 = .ok (.goto (-12), 3) := by decide +kernel
theorem dX5_goes_17 : decode cX5_goes 17 = .ok (.return_, 1) := by decide +kernel
set_option maxRecDepth 20000 in
set_option maxHeartbeats 4000000 in
theorem l_X5_goes {K : Cx} {n8 c : Nat} {m : TM} (hc : c ≤ 1000) : ∀ (n : Nat) (j : Nat) (s : Nat → Int32), c - j < n → j ≤ c → Iv n8 s → XX RX5 cX5_goes 3 none 4 91 K 2 [some (.ref 49), some (.int (nI c)), some (.int (nI j))] [] (sr m 50 s) (fun r1 m1 => r1 = none ∧ m1 = sr m 50 (dysC n8 (c - j) s)) := by
  intro n
  induction n with
  | zero => intro j s hlt; exact absurd hlt (Nat.not_lt_zero _)
  | succ n ih =>
    intro j s hlt hj hI
    refine x_iload_n (q := 3) dX5_goes_2 rfl rfl ?_
    refine x_iload_n (q := 4) dX5_goes_3 rfl rfl ?_
    refine x_icmp_ge (q := 7) (t := 17) dX5_goes_4 rfl (by decide) (fun h4 => ?_) (fun h4 => ?_)
    · refine x_return dX5_goes_17 rfl ?_
      have e : j = c := Nat.le_antisymm hj (lp_stop rfl (by omega) (by omega) h4)
      subst e
      exact ⟨rfl, by rw [Nat.sub_self]; rfl⟩
    have hjn : j < c := lp_go rfl (by omega) (by omega) h4
    refine x_aload_n (q := 8) dX5_goes_7 rfl rfl ?_
    refine x_callV0n (q := 11) dX5_goes_8 rfl ml_X5_93 mv_X5_day rv5 rfl (c_X5_day hI) (Nat.le_of_ble_eq_true rfl) ⟨by decide, by decide⟩ ?_
    refine x_iinc (q := 14) (v := nI (j + 1)) dX5_goes_11 rfl rfl (jnI_s j) (by decide) rfl rfl ?_
    refine x_goto (q := 2) dX5_goes_14 (by decide) ?_
    have e : c - j = (c - (j + 1)) + 1 := by omega
    rw [e]
    exact ih (j + 1) (dyC s n8) (by omega) (by omega) hI.day
set_option maxRecDepth 20000 in
set_option maxHeartbeats 4000000 in
theorem c_X5_goes {K : Cx} {n8 c : Nat} {s : Nat → Int32} {m : TM} (hc : c ≤ 1000) (hI : Iv n8 s) : CT yX5_goes cX5_goes 3 none 4 91 K [.ref 49, .int (nI c)] (sr m 50 s) none (sr m 50 (dysC n8 c s)) := by
  refine ct_ofd (n := 1) (by decide +kernel) rfl rfl ?_
  show XX RX5 cX5_goes 3 none 4 91 K 0 [some (.ref 49), some (.int (nI c)), none] [] (sr m 50 s) (fun r1 m1 => r1 = none ∧ m1 = sr m 50 (dysC n8 c s))
  refine x_iconst (q := 1) (v := 0) dX5_goes_0 rfl (by decide) ?_
  refine x_istore_n (q := 2) dX5_goes_1 rfl (by decide) rfl rfl ?_
  exact l_X5_goes hc (c + 1) 0 s (by omega) (by omega) hI
theorem dX5_those_0 : decode cX5_those 0 = .ok (.iconst 0, 1) := by decide +kernel
theorem dX5_those_1 : decode cX5_those 1 = .ok (.istore_n 2, 1) := by decide +kernel
theorem dX5_those_2 : decode cX5_those 2 = .ok (.iconst 0, 1) := by decide +kernel
theorem dX5_those_3 : decode cX5_those 3 = .ok (.istore_n 3, 1) := by decide +kernel
theorem dX5_those_4 : decode cX5_those 4 = .ok (.iload_n 3, 1) := by decide +kernel
theorem dX5_those_5 : decode cX5_those 5 = .ok (.aload_n 0, 1) := by decide +kernel
theorem dX5_those_6 : decode cX5_those 6 = .ok (.getfield 9, 3) := by decide +kernel
theorem dX5_those_9 : decode cX5_those 9 = .ok (.iconst 1, 1) := by decide +kernel
theorem dX5_those_10 : decode cX5_those 10 = .ok (.iaload, 1) := by decide +kernel
theorem dX5_those_11 : decode cX5_those 11 = .ok (.if_icmp .ge 29, 3) := by decide +kernel
theorem dX5_those_14 : decode cX5_those 14 = .ok (.iload_n 2, 1) := by decide +kernel
theorem dX5_those_15 : decode cX5_those 15 = .ok (.aload_n 0, 1) := by decide +kernel
theorem dX5_those_16 : decode cX5_those 16 = .ok (.iload_n 3, 1) := by decide +kernel
theorem dX5_those_17 : decode cX5_those 17 = .ok (.iconst 4, 1) := by decide +kernel
theorem dX5_those_18 : decode cX5_those 18 = .ok (.invokevirtual 52, 3) := by decide +kernel
theorem dX5_those_21 : decode cX5_those 21 = .ok (.iload_n 1, 1) := by decide +kernel
theorem dX5_those_22 : decode cX5_those 22 = .ok (.if_icmp .ne 9, 3) := by decide +kernel
theorem dX5_those_25 : decode cX5_those 25 = .ok (.iconst 1, 1) := by decide +kernel
theorem dX5_those_26 : decode cX5_those 26 = .ok (.iload_n 3, 1) := by decide +kernel
theorem dX5_those_27 : decode cX5_those 27 = .ok (.ishl, 1) := by decide +kernel
theorem dX5_those_28 : decode cX5_those 28 = .ok (.goto 4, 3) := by decide +kernel
theorem dX5_those_31 : decode cX5_those 31 = .ok (.iconst 0, 1) := by decide +kernel
theorem dX5_those_32 : decode cX5_those 32 = .ok (.ior, 1) := by decide +kernel
theorem dX5_those_33 : decode cX5_those 33 = .ok (.istore_n 2, 1) := by decide +kernel
theorem dX5_those_34 : decode cX5_those 34 = .ok (.iinc 3 1, 3) := by decide +kernel
theorem dX5_those_37 : decode cX5_those 37 = .ok (.goto (-33), 3) := by decide +kernel
theorem dX5_those_40 : decode cX5_those 40 = .ok (.iload_n 2, 1) := by decide +kernel
theorem dX5_those_41 : decode cX5_those 41 = .ok (.ireturn, 1) := by decide +kernel
set_option maxRecDepth 20000 in
set_option maxHeartbeats 4000000 in
theorem l_X5_those {K : Cx} {n8 : Nat} {x : Int32} {s : Nat → Int32} {m : TM} (hn : s 1 = nI n8) (h8 : n8 ≤ 8) : ∀ (n : Nat) (j : Nat), n8 - j < n → j ≤ n8 → XX RX5 cX5_those 4 (some .int) 1 22 K 4 [some (.ref 49), some (.int x), some (.int (thF s x j)), some (.int (nI j))] [] (sr m 50 s) (fun r1 m1 => r1 = (some (.int (thF s x n8))) ∧ m1 = sr m 50 s) := by
  intro n
  induction n with
  | zero => intro j hlt; exact absurd hlt (Nat.not_lt_zero _)
  | succ n ih =>
    intro j hlt hj
    refine x_iload_n (q := 5) dX5_those_4 rfl rfl ?_
    refine x_aload_n (q := 6) dX5_those_5 rfl rfl ?_
    refine x_getR (q := 9) dX5_those_6 rfl fl_X5_9 (or5_s) ?_
    refine x_iconst (q := 10) (v := 1) dX5_those_9 rfl (by decide) ?_
    refine x_ialdr (q := 11) dX5_those_10 rfl (ar_50) (ix_nI (k := 1) (by decide) (by decide)) (Nat.zero_add _) ?_
    refine x_icmp_ge (q := 14) (t := 40) dX5_those_11 rfl (by decide) (fun h11 => ?_) (fun h11 => ?_)
    · refine x_iload_n (q := 41) dX5_those_40 rfl rfl ?_
      refine x_ireturn dX5_those_41 rfl rfl ?_
      have e : j = n8 := Nat.le_antisymm hj (lp_stop hn (by omega) (by omega) h11)
      subst e
      exact ⟨rfl, rfl⟩
    have hjn : j < n8 := lp_go hn (by omega) (by omega) h11
    have hk : j < 8 := by omega
    refine x_iload_n (q := 15) dX5_those_14 rfl rfl ?_
    refine x_aload_n (q := 16) dX5_those_15 rfl rfl ?_
    refine x_iload_n (q := 17) dX5_those_16 rfl rfl ?_
    refine x_iconst (q := 18) (v := 4) dX5_those_17 rfl (by decide) ?_
    refine x_callV2v (q := 21) dX5_those_18 rfl ml_X5_52 mv_X5_get rv5 rfl (c_X5_getr (f := 4) hk (by decide)) (Nat.le_of_ble_eq_true rfl) ⟨by decide, by decide⟩ ?_
    refine x_iload_n (q := 22) dX5_those_21 rfl rfl ?_
    refine x_icmp_ne (q := 25) (t := 31) dX5_those_22 rfl (by decide) (fun h22 => ?_) (fun h22 => ?_)
    · refine x_iconst (q := 32) (v := 0) dX5_those_31 rfl (by decide) ?_
      refine x_ior (q := 33) dX5_those_32 rfl ?_
      refine x_istore_n (q := 34) dX5_those_33 rfl (by decide) rfl rfl ?_
      refine x_iinc (q := 37) (v := nI (j + 1)) dX5_those_34 rfl rfl (jnI_s j) (by decide) rfl rfl ?_
      refine x_goto (q := 4) dX5_those_37 (by decide) ?_
      have key := ih (j + 1) (by omega) (by omega)
      simp only [thF, h22, if_true, if_false] at key
      rw [or0]
      exact key
    refine x_iconst (q := 26) (v := 1) dX5_those_25 rfl (by decide) ?_
    refine x_iload_n (q := 27) dX5_those_26 rfl rfl ?_
    refine x_ishl (q := 28) dX5_those_27 rfl ?_
    refine x_goto (q := 32) dX5_those_28 (by decide) ?_
    refine x_ior (q := 33) dX5_those_32 rfl ?_
    refine x_istore_n (q := 34) dX5_those_33 rfl (by decide) rfl rfl ?_
    refine x_iinc (q := 37) (v := nI (j + 1)) dX5_those_34 rfl rfl (jnI_s j) (by decide) rfl rfl ?_
    refine x_goto (q := 4) dX5_those_37 (by decide) ?_
    have key := ih (j + 1) (by omega) (by omega)
    simp only [thF, h22, if_true, if_false] at key
    exact key
set_option maxRecDepth 20000 in
set_option maxHeartbeats 4000000 in
theorem c_X5_those {K : Cx} {n8 : Nat} {x : Int32} {s : Nat → Int32} {m : TM} (hn : s 1 = nI n8) (h8 : n8 ≤ 8) : CT yX5_those cX5_those 4 (some .int) 1 22 K [.ref 49, .int x] (sr m 50 s) (some (.int (thF s x n8))) (sr m 50 s) := by
  refine ct_ofd (n := 2) (by decide +kernel) rfl rfl ?_
  show XX RX5 cX5_those 4 (some .int) 1 22 K 0 [some (.ref 49), some (.int x), none, none] [] (sr m 50 s) (fun r1 m1 => r1 = (some (.int (thF s x n8))) ∧ m1 = sr m 50 s)
  refine x_iconst (q := 1) (v := 0) dX5_those_0 rfl (by decide) ?_
  refine x_istore_n (q := 2) dX5_those_1 rfl (by decide) rfl rfl ?_
  refine x_iconst (q := 3) (v := 0) dX5_those_2 rfl (by decide) ?_
  refine x_istore_n (q := 4) dX5_those_3 rfl (by decide) rfl rfl ?_
  exact l_X5_those hn h8 (n8 + 1) 0 (by omega) (by omega)
theorem dX5_weightNow_0 : decode cX5_weightNow 0 = .ok (.iconst 0, 1) := by decide +kernel
theorem dX5_weightNow_1 : decode cX5_weightNow 1 = .ok (.istore_n 1, 1) := by decide +kernel
theorem dX5_weightNow_2 : decode cX5_weightNow 2 = .ok (.iconst 0, 1) := by decide +kernel
theorem dX5_weightNow_3 : decode cX5_weightNow 3 = .ok (.istore_n 2, 1) := by decide +kernel
theorem dX5_weightNow_4 : decode cX5_weightNow 4 = .ok (.iload_n 2, 1) := by decide +kernel
theorem dX5_weightNow_5 : decode cX5_weightNow 5 = .ok (.aload_n 0, 1) := by decide +kernel
theorem dX5_weightNow_6 : decode cX5_weightNow 6 = .ok (.getfield 9, 3) := by decide +kernel
theorem dX5_weightNow_9 : decode cX5_weightNow 9 = .ok (.iconst 1, 1) := by decide +kernel
theorem dX5_weightNow_10 : decode cX5_weightNow 10 = .ok (.iaload, 1) := by decide +kernel
theorem dX5_weightNow_11 : decode cX5_weightNow 11 = .ok (.if_icmp .ge 31, 3) := by decide +kernel
theorem dX5_weightNow_14 : decode cX5_weightNow 14 = .ok (.iload_n 1, 1) := by decide +kernel
theorem dX5_weightNow_15 : decode cX5_weightNow 15 = .ok (.aload_n 0, 1) := by decide +kernel
theorem dX5_weightNow_16 : decode cX5_weightNow 16 = .ok (.iload_n 2, 1) := by decide +kernel
theorem dX5_weightNow_17 : decode cX5_weightNow 17 = .ok (.iconst 4, 1) := by decide +kernel
theorem dX5_weightNow_18 : decode cX5_weightNow 18 = .ok (.invokevirtual 52, 3) := by decide +kernel
theorem dX5_weightNow_21 : decode cX5_weightNow 21 = .ok (.ifCond .ne 12, 3) := by decide +kernel
theorem dX5_weightNow_24 : decode cX5_weightNow 24 = .ok (.aload_n 0, 1) := by decide +kernel
theorem dX5_weightNow_25 : decode cX5_weightNow 25 = .ok (.iload_n 2, 1) := by decide +kernel
theorem dX5_weightNow_26 : decode cX5_weightNow 26 = .ok (.iconst 2, 1) := by decide +kernel
theorem dX5_weightNow_27 : decode cX5_weightNow 27 = .ok (.invokevirtual 52, 3) := by decide +kernel
theorem dX5_weightNow_30 : decode cX5_weightNow 30 = .ok (.goto 4, 3) := by decide +kernel
theorem dX5_weightNow_33 : decode cX5_weightNow 33 = .ok (.iconst 0, 1) := by decide +kernel
theorem dX5_weightNow_34 : decode cX5_weightNow 34 = .ok (.iadd, 1) := by decide +kernel
theorem dX5_weightNow_35 : decode cX5_weightNow 35 = .ok (.istore_n 1, 1) := by decide +kernel
theorem dX5_weightNow_36 : decode cX5_weightNow 36 = .ok (.iinc 2 1, 3) := by decide +kernel
theorem dX5_weightNow_39 : decode cX5_weightNow 39 = .ok (.goto (-35), 3) := by decide +kernel
theorem dX5_weightNow_42 : decode cX5_weightNow 42 = .ok (.iload_n 1, 1) := by decide +kernel
theorem dX5_weightNow_43 : decode cX5_weightNow 43 = .ok (.ireturn, 1) := by decide +kernel
set_option maxRecDepth 20000 in
set_option maxHeartbeats 4000000 in
theorem l_X5_weightNow {K : Cx} {n8 : Nat} {s : Nat → Int32} {m : TM} (hn : s 1 = nI n8) (h8 : n8 ≤ 8) : ∀ (n : Nat) (j : Nat), n8 - j < n → j ≤ n8 → XX RX5 cX5_weightNow 3 (some .int) 1 22 K 4 [some (.ref 49), some (.int (weF s j)), some (.int (nI j))] [] (sr m 50 s) (fun r1 m1 => r1 = (some (.int (weF s n8))) ∧ m1 = sr m 50 s) := by
  intro n
  induction n with
  | zero => intro j hlt; exact absurd hlt (Nat.not_lt_zero _)
  | succ n ih =>
    intro j hlt hj
    refine x_iload_n (q := 5) dX5_weightNow_4 rfl rfl ?_
    refine x_aload_n (q := 6) dX5_weightNow_5 rfl rfl ?_
    refine x_getR (q := 9) dX5_weightNow_6 rfl fl_X5_9 (or5_s) ?_
    refine x_iconst (q := 10) (v := 1) dX5_weightNow_9 rfl (by decide) ?_
    refine x_ialdr (q := 11) dX5_weightNow_10 rfl (ar_50) (ix_nI (k := 1) (by decide) (by decide)) (Nat.zero_add _) ?_
    refine x_icmp_ge (q := 14) (t := 42) dX5_weightNow_11 rfl (by decide) (fun h11 => ?_) (fun h11 => ?_)
    · refine x_iload_n (q := 43) dX5_weightNow_42 rfl rfl ?_
      refine x_ireturn dX5_weightNow_43 rfl rfl ?_
      have e : j = n8 := Nat.le_antisymm hj (lp_stop hn (by omega) (by omega) h11)
      subst e
      exact ⟨rfl, rfl⟩
    have hjn : j < n8 := lp_go hn (by omega) (by omega) h11
    have hk : j < 8 := by omega
    refine x_iload_n (q := 15) dX5_weightNow_14 rfl rfl ?_
    refine x_aload_n (q := 16) dX5_weightNow_15 rfl rfl ?_
    refine x_iload_n (q := 17) dX5_weightNow_16 rfl rfl ?_
    refine x_iconst (q := 18) (v := 4) dX5_weightNow_17 rfl (by decide) ?_
    refine x_callV2v (q := 21) dX5_weightNow_18 rfl ml_X5_52 mv_X5_get rv5 rfl (c_X5_getr (f := 4) hk (by decide)) (Nat.le_of_ble_eq_true rfl) ⟨by decide, by decide⟩ ?_
    refine x_if_ne (q := 24) (t := 33) dX5_weightNow_21 rfl (by decide) (fun h21 => ?_) (fun h21 => ?_)
    · refine x_iconst (q := 34) (v := 0) dX5_weightNow_33 rfl (by decide) ?_
      refine x_iadd (q := 35) dX5_weightNow_34 rfl ?_
      refine x_istore_n (q := 36) dX5_weightNow_35 rfl (by decide) rfl rfl ?_
      refine x_iinc (q := 39) (v := nI (j + 1)) dX5_weightNow_36 rfl rfl (jnI_s j) (by decide) rfl rfl ?_
      refine x_goto (q := 4) dX5_weightNow_39 (by decide) ?_
      have key := ih (j + 1) (by omega) (by omega)
      simp only [weF, h21, if_true, if_false] at key
      rw [add0]
      exact key
    refine x_aload_n (q := 25) dX5_weightNow_24 rfl rfl ?_
    refine x_iload_n (q := 26) dX5_weightNow_25 rfl rfl ?_
    refine x_iconst (q := 27) (v := 2) dX5_weightNow_26 rfl (by decide) ?_
    refine x_callV2v (q := 30) dX5_weightNow_27 rfl ml_X5_52 mv_X5_get rv5 rfl (c_X5_getr (f := 2) hk (by decide)) (Nat.le_of_ble_eq_true rfl) ⟨by decide, by decide⟩ ?_
    refine x_goto (q := 34) dX5_weightNow_30 (by decide) ?_
    refine x_iadd (q := 35) dX5_weightNow_34 rfl ?_
    refine x_istore_n (q := 36) dX5_weightNow_35 rfl (by decide) rfl rfl ?_
    refine x_iinc (q := 39) (v := nI (j + 1)) dX5_weightNow_36 rfl rfl (jnI_s j) (by decide) rfl rfl ?_
    refine x_goto (q := 4) dX5_weightNow_39 (by decide) ?_
    have key := ih (j + 1) (by omega) (by omega)
    simp only [weF, h21, if_true, if_false] at key
    exact key
set_option maxRecDepth 20000 in
set_option maxHeartbeats 4000000 in
theorem c_X5_weightNow {K : Cx} {n8 : Nat} {s : Nat → Int32} {m : TM} (hn : s 1 = nI n8) (h8 : n8 ≤ 8) : CT yX5_weightNow cX5_weightNow 3 (some .int) 1 22 K [.ref 49] (sr m 50 s) (some (.int (weF s n8))) (sr m 50 s) := by
  refine ct_ofd (n := 2) (by decide +kernel) rfl rfl ?_
  show XX RX5 cX5_weightNow 3 (some .int) 1 22 K 0 [some (.ref 49), none, none] [] (sr m 50 s) (fun r1 m1 => r1 = (some (.int (weF s n8))) ∧ m1 = sr m 50 s)
  refine x_iconst (q := 1) (v := 0) dX5_weightNow_0 rfl (by decide) ?_
  refine x_istore_n (q := 2) dX5_weightNow_1 rfl (by decide) rfl rfl ?_
  refine x_iconst (q := 3) (v := 0) dX5_weightNow_2 rfl (by decide) ?_
  refine x_istore_n (q := 4) dX5_weightNow_3 rfl (by decide) rfl rfl ?_
  exact l_X5_weightNow hn h8 (n8 + 1) 0 (by omega) (by omega)
theorem dX5_mostOf_0 : decode cX5_mostOf 0 = .ok (.iload_n 0, 1) := by decide +kernel
theorem dX5_mostOf_1 : decode cX5_mostOf 1 = .ok (.tableswitch 52 0 5 #[39, 42, 45, 52, 48, 50], 39) := by decide +kernel
theorem dX5_mostOf_40 : decode cX5_mostOf 40 = .ok (.bipush 6, 2) := by decide +kernel
theorem dX5_mostOf_42 : decode cX5_mostOf 42 = .ok (.ireturn, 1) := by decide +kernel
theorem dX5_mostOf_43 : decode cX5_mostOf 43 = .ok (.bipush 20, 2) := by decide +kernel
theorem dX5_mostOf_45 : decode cX5_mostOf 45 = .ok (.ireturn, 1) := by decide +kernel
theorem dX5_mostOf_46 : decode cX5_mostOf 46 = .ok (.bipush 99, 2) := by decide +kernel
theorem dX5_mostOf_48 : decode cX5_mostOf 48 = .ok (.ireturn, 1) := by decide +kernel
theorem dX5_mostOf_49 : decode cX5_mostOf 49 = .ok (.iconst 2, 1) := by decide +kernel
theorem dX5_mostOf_50 : decode cX5_mostOf 50 = .ok (.ireturn, 1) := by decide +kernel
theorem dX5_mostOf_51 : decode cX5_mostOf 51 = .ok (.iconst 1, 1) := by decide +kernel
theorem dX5_mostOf_52 : decode cX5_mostOf 52 = .ok (.ireturn, 1) := by decide +kernel
theorem dX5_mostOf_53 : decode cX5_mostOf 53 = .ok (.sipush 9999, 3) := by decide +kernel
theorem dX5_mostOf_56 : decode cX5_mostOf 56 = .ok (.ireturn, 1) := by decide +kernel
set_option maxRecDepth 20000 in
set_option maxHeartbeats 4000000 in
theorem c_X5_mostOf {K : Cx} {x : Int32} {m : TM} : CT yX5_mostOf cX5_mostOf 1 (some .int) 0 0 K [.int x] (m) (some (.int (mst x))) (m) := by
  refine ct_ofd (n := 0) (by decide +kernel) rfl rfl ?_
  show XX RX5 cX5_mostOf 1 (some .int) 0 0 K 0 [some (.int x)] [] (m) (fun r1 m1 => r1 = (some (.int (mst x))) ∧ m1 = m)
  refine x_iload_n (q := 1) dX5_mostOf_0 rfl rfl ?_
  by_cases h1_0 : x = 0
  · refine x_tswC (q := 40) (k := 0) dX5_mostOf_1 h1_0 (by decide) (by decide) rfl (by decide) ?_
    refine x_bipush (q := 42) (v := 6) dX5_mostOf_40 rfl (by decide) ?_
    refine x_ireturn dX5_mostOf_42 rfl rfl ?_
    exact ⟨by simp [mst, *], rfl⟩
  by_cases h1_1 : x = 1
  · refine x_tswC (q := 43) (k := 1) dX5_mostOf_1 h1_1 (by decide) (by decide) rfl (by decide) ?_
    refine x_bipush (q := 45) (v := 20) dX5_mostOf_43 rfl (by decide) ?_
    refine x_ireturn dX5_mostOf_45 rfl rfl ?_
    exact ⟨by simp [mst, *], rfl⟩
  by_cases h1_2 : x = 2
  · refine x_tswC (q := 46) (k := 2) dX5_mostOf_1 h1_2 (by decide) (by decide) rfl (by decide) ?_
    refine x_bipush (q := 48) (v := 99) dX5_mostOf_46 rfl (by decide) ?_
    refine x_ireturn dX5_mostOf_48 rfl rfl ?_
    exact ⟨by simp [mst, *], rfl⟩
  by_cases h1_3 : x = 3
  · refine x_tswC (q := 53) (k := 3) dX5_mostOf_1 h1_3 (by decide) (by decide) rfl (by decide) ?_
    refine x_sipush (q := 56) (v := 9999) dX5_mostOf_53 rfl (by decide) ?_
    refine x_ireturn dX5_mostOf_56 rfl rfl ?_
    exact ⟨by simp [mst, *], rfl⟩
  by_cases h1_4 : x = 4
  · refine x_tswC (q := 49) (k := 4) dX5_mostOf_1 h1_4 (by decide) (by decide) rfl (by decide) ?_
    refine x_iconst (q := 50) (v := 2) dX5_mostOf_49 rfl (by decide) ?_
    refine x_ireturn dX5_mostOf_50 rfl rfl ?_
    exact ⟨by simp [mst, *], rfl⟩
  by_cases h1_5 : x = 5
  · refine x_tswC (q := 51) (k := 5) dX5_mostOf_1 h1_5 (by decide) (by decide) rfl (by decide) ?_
    refine x_iconst (q := 52) (v := 1) dX5_mostOf_51 rfl (by decide) ?_
    refine x_ireturn dX5_mostOf_52 rfl rfl ?_
    exact ⟨by simp [mst, *], rfl⟩
  refine x_tswD (q := 53) dX5_mostOf_1 (by have n0 := lv_neT h1_0 (a := 0) (by decide); have n1 := lv_neT h1_1 (a := 1) (by decide); have n2 := lv_neT h1_2 (a := 2) (by decide); have n3 := lv_neT h1_3 (a := 3) (by decide); have n4 := lv_neT h1_4 (a := 4) (by decide); have n5 := lv_neT h1_5 (a := 5) (by decide); omega) (by decide) ?_
  refine x_sipush (q := 56) (v := 9999) dX5_mostOf_53 rfl (by decide) ?_
  refine x_ireturn dX5_mostOf_56 rfl rfl ?_
  exact ⟨by simp [mst, *], rfl⟩
theorem dX5_draw_0 : decode cX5_draw 0 = .ok (.aload_n 0, 1) := by decide +kernel
theorem dX5_draw_1 : decode cX5_draw 1 = .ok (.getfield 9, 3) := by decide +kernel
theorem dX5_draw_4 : decode cX5_draw 4 = .ok (.iconst 2, 1) := by decide +kernel
theorem dX5_draw_5 : decode cX5_draw 5 = .ok (.aload_n 0, 1) := by decide +kernel
theorem dX5_draw_6 : decode cX5_draw 6 = .ok (.getfield 9, 3) := by decide +kernel
theorem dX5_draw_9 : decode cX5_draw 9 = .ok (.iconst 2, 1) := by decide +kernel
theorem dX5_draw_10 : decode cX5_draw 10 = .ok (.iaload, 1) := by decide +kernel
theorem dX5_draw_11 : decode cX5_draw 11 = .ok (.ldc 171, 2) := by decide +kernel
theorem dX5_draw_13 : decode cX5_draw 13 = .ok (.imul, 1) := by decide +kernel
theorem dX5_draw_14 : decode cX5_draw 14 = .ok (.sipush 12345, 3) := by decide +kernel
theorem dX5_draw_17 : decode cX5_draw 17 = .ok (.iadd, 1) := by decide +kernel
theorem dX5_draw_18 : decode cX5_draw 18 = .ok (.iastore, 1) := by decide +kernel
theorem dX5_draw_19 : decode cX5_draw 19 = .ok (.aload_n 0, 1) := by decide +kernel
theorem dX5_draw_20 : decode cX5_draw 20 = .ok (.getfield 9, 3) := by decide +kernel
theorem dX5_draw_23 : decode cX5_draw 23 = .ok (.iconst 2, 1) := by decide +kernel
theorem dX5_draw_24 : decode cX5_draw 24 = .ok (.iaload, 1) := by decide +kernel
theorem dX5_draw_25 : decode cX5_draw 25 = .ok (.bipush 8, 2) := by decide +kernel
theorem dX5_draw_27 : decode cX5_draw 27 = .ok (.iushr, 1) := by decide +kernel
theorem dX5_draw_28 : decode cX5_draw 28 = .ok (.ireturn, 1) := by decide +kernel
set_option maxRecDepth 20000 in
set_option maxHeartbeats 4000000 in
theorem c_X5_draw {K : Cx} {s : Nat → Int32} {m : TM} : CT yX5_draw cX5_draw 1 (some .int) 0 0 K [.ref 49] (sr m 50 s) (some (.int (dr (s 2)))) (sr m 50 (upd s 2 (nz (s 2)))) := by
  refine ct_ofd (n := 0) (by decide +kernel) rfl rfl ?_
  show XX RX5 cX5_draw 1 (some .int) 0 0 K 0 [some (.ref 49)] [] (sr m 50 s) (fun r1 m1 => r1 = (some (.int (dr (s 2)))) ∧ m1 = sr m 50 (upd s 2 (nz (s 2))))
  refine x_aload_n (q := 1) dX5_draw_0 rfl rfl ?_
  refine x_getR (q := 4) dX5_draw_1 rfl fl_X5_9 (or5_s) ?_
  refine x_iconst (q := 5) (v := 2) dX5_draw_4 rfl (by decide) ?_
  refine x_aload_n (q := 6) dX5_draw_5 rfl rfl ?_
  refine x_getR (q := 9) dX5_draw_6 rfl fl_X5_9 (or5_s) ?_
  refine x_iconst (q := 10) (v := 2) dX5_draw_9 rfl (by decide) ?_
  refine x_ialdr (q := 11) dX5_draw_10 rfl (ar_50) (ix_nI (k := 2) (by decide) (by decide)) (Nat.zero_add _) ?_
  refine x_ldc (q := 13) dX5_draw_11 rfl kc_X5_171 ?_
  refine x_imul (q := 14) dX5_draw_13 rfl ?_
  refine x_sipush (q := 17) (v := 12345) dX5_draw_14 rfl (by decide) ?_
  refine x_iadd (q := 18) dX5_draw_17 rfl ?_
  refine x_iastr (q := 19) dX5_draw_18 rfl (ar_50) (ix_nI (k := 2) (by decide) (by decide)) (Nat.zero_add _)  ?_
  refine x_aload_n (q := 20) dX5_draw_19 rfl rfl ?_
  refine x_getR (q := 23) dX5_draw_20 rfl fl_X5_9 (or5_s) ?_
  refine x_iconst (q := 24) (v := 2) dX5_draw_23 rfl (by decide) ?_
  refine x_ialdr (q := 25) dX5_draw_24 rfl (ar_50) (ix_nI (k := 2) (by decide) (by decide)) (Nat.zero_add _) ?_
  refine x_bipush (q := 27) (v := 8) dX5_draw_25 rfl (by decide) ?_
  refine x_iushr (q := 28) dX5_draw_27 rfl ?_
  refine x_ireturn dX5_draw_28 rfl rfl ?_
  exact ⟨by rw [upd_self]; rfl, rfl⟩
theorem dX5_above_0 : decode cX5_above 0 = .ok (.iload_n 0, 1) := by decide +kernel
theorem dX5_above_1 : decode cX5_above 1 = .ok (.iconst 3, 1) := by decide +kernel
theorem dX5_above_2 : decode cX5_above 2 = .ok (.if_icmp .ne 7, 3) := by decide +kernel
theorem dX5_above_5 : decode cX5_above 5 = .ok (.iconst 2, 1) := by decide +kernel
theorem dX5_above_6 : decode cX5_above 6 = .ok (.goto 23, 3) := by decide +kernel
theorem dX5_above_9 : decode cX5_above 9 = .ok (.iload_n 0, 1) := by decide +kernel
theorem dX5_above_10 : decode cX5_above 10 = .ok (.iconst 4, 1) := by decide +kernel
theorem dX5_above_11 : decode cX5_above 11 = .ok (.if_icmp .ne 7, 3) := by decide +kernel
theorem dX5_above_14 : decode cX5_above 14 = .ok (.iconst 3, 1) := by decide +kernel
theorem dX5_above_15 : decode cX5_above 15 = .ok (.goto 14, 3) := by decide +kernel
theorem dX5_above_18 : decode cX5_above 18 = .ok (.iload_n 0, 1) := by decide +kernel
theorem dX5_above_19 : decode cX5_above 19 = .ok (.bipush 6, 2) := by decide +kernel
theorem dX5_above_21 : decode cX5_above 21 = .ok (.if_icmp .ne 7, 3) := by decide +kernel
theorem dX5_above_24 : decode cX5_above 24 = .ok (.iconst 1, 1) := by decide +kernel
theorem dX5_above_25 : decode cX5_above 25 = .ok (.goto 4, 3) := by decide +kernel
theorem dX5_above_28 : decode cX5_above 28 = .ok (.iconst 0, 1) := by decide +kernel
theorem dX5_above_29 : decode cX5_above 29 = .ok (.ireturn, 1) := by decide +kernel
set_option maxRecDepth 20000 in
set_option maxHeartbeats 4000000 in
theorem c_X5_above {K : Cx} {x : Int32} {m : TM} : CT yX5_above cX5_above 1 (some .int) 0 0 K [.int x] (m) (some (.int (if x = 3 then 2 else if x = 4 then 3 else if x = 6 then 1 else 0))) (m) := by
  refine ct_ofd (n := 0) (by decide +kernel) rfl rfl ?_
  show XX RX5 cX5_above 1 (some .int) 0 0 K 0 [some (.int x)] [] (m) (fun r1 m1 => r1 = (some (.int (if x = 3 then 2 else if x = 4 then 3 else if x = 6 then 1 else 0))) ∧ m1 = m)
  refine x_iload_n (q := 1) dX5_above_0 rfl rfl ?_
  refine x_iconst (q := 2) (v := 3) dX5_above_1 rfl (by decide) ?_
  refine x_icmp_ne (q := 5) (t := 9) dX5_above_2 rfl (by decide) (fun h2 => ?_) (fun h2 => ?_)
  · refine x_iload_n (q := 10) dX5_above_9 rfl rfl ?_
    refine x_iconst (q := 11) (v := 4) dX5_above_10 rfl (by decide) ?_
    refine x_icmp_ne (q := 14) (t := 18) dX5_above_11 rfl (by decide) (fun h11 => ?_) (fun h11 => ?_)
    · refine x_iload_n (q := 19) dX5_above_18 rfl rfl ?_
      refine x_bipush (q := 21) (v := 6) dX5_above_19 rfl (by decide) ?_
      refine x_icmp_ne (q := 24) (t := 28) dX5_above_21 rfl (by decide) (fun h21 => ?_) (fun h21 => ?_)
      · refine x_iconst (q := 29) (v := 0) dX5_above_28 rfl (by decide) ?_
        refine x_ireturn dX5_above_29 rfl rfl ?_
        exact ⟨by simp [*], rfl⟩
      refine x_iconst (q := 25) (v := 1) dX5_above_24 rfl (by decide) ?_
      refine x_goto (q := 29) dX5_above_25 (by decide) ?_
      refine x_ireturn dX5_above_29 rfl rfl ?_
      exact ⟨by simp [*], rfl⟩
    refine x_iconst (q := 15) (v := 3) dX5_above_14 rfl (by decide) ?_
    refine x_goto (q := 29) dX5_above_15 (by decide) ?_
    refine x_ireturn dX5_above_29 rfl rfl ?_
    exact ⟨by simp [*], rfl⟩
  refine x_iconst (q := 6) (v := 2) dX5_above_5 rfl (by decide) ?_
  refine x_goto (q := 29) dX5_above_6 (by decide) ?_
  refine x_ireturn dX5_above_29 rfl rfl ?_
  exact ⟨by simp [*], rfl⟩
