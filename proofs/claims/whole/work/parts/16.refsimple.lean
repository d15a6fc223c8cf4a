/-! the reference's calls, the simple ones -/
theorem in_t {v l h : Int32} (q : inI v l h = true) : outI v l h = false := by rw [inI_out] at q; simpa using q
theorem in_f {v l h : Int32} (q : inI v l h = false) : outI v l h = true := by rw [inI_out] at q; simpa using q
theorem ix_off {i : Int32} {j k n : Nat} (off : Nat) (h : IX i j k) (hn : off + k ≤ n) (hb : n < 2147483648) : IX (nI off + i) (off + j) n := by
  have e : i = nI j := by rw [← h.2.1]; exact jnI_of h.1
  have := h.2.2
  rw [e, nI_add]
  exact ix_nI (by omega) hb
theorem c_X5_nox {K : Cx} {x : Int32} {w : Nat} {m : TM} (hw : w < 7) (hx : -1000001 - nI w = x) : CT yX5_no cX5_no 2 (some .int) 0 0 K [.ref 49, .int (nI w)] m (some (.int x)) (fnm m w) := by
  subst hx
  exact c_X5_no hw
theorem tld_get {s : Nat → Int32} {k : Nat} : ∀ c, c < 7 → tld s k (nI c) = s (12 + 7 * k + c)
  | 0, _ => rfl
  | 1, _ => rfl
  | 2, _ => rfl
  | 3, _ => rfl
  | 4, _ => rfl
  | 5, _ => rfl
  | 6, _ => rfl
  | c + 7, h => absurd h (by omega)
theorem ptF_get {s : Nat → Int32} {k : Nat} {v : Int32} : ∀ c, c < 7 → ptF s k (nI c) v = upd s (12 + 7 * k + c) v
  | 0, _ => rfl
  | 1, _ => rfl
  | 2, _ => rfl
  | 3, _ => rfl
  | 4, _ => rfl
  | 5, _ => rfl
  | 6, _ => rfl
  | c + 7, h => absurd h (by omega)
def zL (s : Nat → Int32) (k : Nat) : Nat → Nat → Int32
  | 0 => s
  | j + 1 => upd (zL s k j) (12 + 7 * k + j) 0
theorem zL_new {s : Nat → Int32} {k : Nat} {x : Int32} : upd (upd (zL s k 7) (12 + 7 * k + 0) x) (12 + 7 * k + 2) 10 = newF s k x := by
  funext i
  unfold newF
  simp only [zL]
  unfold upd
  repeat' split
  all_goals first | rfl | omega
theorem zL_1 {s : Nat → Int32} {k : Nat} : ∀ j, zL s k j 1 = s 1
  | 0 => rfl
  | j + 1 => by rw [zL, upd_ne (by omega), zL_1 j]
theorem newF_1 {s : Nat → Int32} {k : Nat} {x : Int32} : newF s k x 1 = s 1 := by
  unfold newF
  rw [upd_ne (by omega), upd_ne (by omega), upd_ne (by omega), upd_ne (by omega), upd_ne (by omega), upd_ne (by omega), upd_ne (by omega)]
theorem sh1 {j : Nat} (h : j < 8) : (1 : Int32) <<< (nI j &&& 31) = nI (2 ^ j) := by
  have key : ∀ j, j < 8 → (1 : Int32) <<< (nI j &&& 31) = nI (2 ^ j) := by decide
  exact key j h
/-- a set of parcels is a small number -/
theorem thF_nI {s : Nat → Int32} {x : Int32} : ∀ j, j ≤ 8 → ∃ y, y < 2 ^ j ∧ thF s x j = nI y
  | 0, _ => ⟨0, by decide, rfl⟩
  | j + 1, hj => by
    obtain ⟨y, hy, e⟩ := thF_nI (s := s) (x := x) j (by omega)
    unfold thF
    split
    · refine ⟨y ||| 2 ^ j, ?_, by rw [e, sh1 (by omega), fa_or]⟩
      exact Nat.or_lt_two_pow (by rw [Nat.pow_succ]; omega) (Nat.pow_lt_pow_right (by decide) (by omega))
    · exact ⟨y, by rw [Nat.pow_succ]; omega, e⟩
def ab (c : Nat) : Nat := if c = 3 then 2 else if c = 4 then 3 else if c = 6 then 1 else 0
theorem ab_1 : ∀ c, c < 7 → (if nI c = 3 then (2 : Int32) else if nI c = 4 then 3 else if nI c = 6 then 1 else 0) = nI (ab c) := by decide +kernel
theorem ab_2 : ∀ c, c < 7 → c ≠ 0 → ab c < c := by decide +kernel
theorem ab_3 : ∀ c, c < 7 → ∀ d, d < 7 → c ≠ d → c ≠ 0 → anc 7 (nI c) (nI d) = anc 7 (nI (ab c)) (nI d) := by decide +kernel
theorem anc_self : ∀ c, c < 7 → anc 7 (nI c) (nI c) = true := by decide +kernel
theorem anc_0 : ∀ d, d < 7 → d ≠ 0 → anc 7 0 (nI d) = false := by decide +kernel
theorem p_X5_isSigned {K : Cx} {m : TM} {k : Nat} {t : Int32} (hk : k < 8) : CT yX5_isSigned cX5_isSigned 6 (some .boolean) 1 22 K [.ref 49, .int (nI k), .int t] m (some (.int (bI (sg (m.1 50 (12 + 7 * k + 0)) (m.1 50 (12 + 7 * k + 1)) (m.1 50 (12 + 7 * k + 2)) (m.1 50 (12 + 7 * k + 6)) (m.1 50 0) t)))) (m) := by
  have h := c_X5_isSigned (K := K) (m := m) (s := m.1 50) (t := t) hk
  rw [sr_self] at h
  exact h
theorem p_X5_movesOf {K : Cx} {m : TM} {k : Nat} (hk : k < 8) : CT yX5_movesOf cX5_movesOf 3 (some .int) 1 22 K [.ref 49, .int (nI k)] m (some (.int (mvM (m.1 50 (12 + 7 * k + 0))))) (m) := by
  have h := c_X5_movesOf (K := K) (m := m) (s := m.1 50) hk
  rw [sr_self] at h
  exact h
theorem p_X5_lastsOf {K : Cx} {m : TM} {k : Nat} (hk : k < 8) : CT yX5_lastsOf cX5_lastsOf 2 (some .int) 1 22 K [.ref 49, .int (nI k)] m (some (.int (las (m.1 50 (12 + 7 * k + 0))))) (m) := by
  have h := c_X5_lastsOf (K := K) (m := m) (s := m.1 50) hk
  rw [sr_self] at h
  exact h
theorem p_X5_paysOf {K : Cx} {m : TM} {k : Nat} (hk : k < 8) : CT yX5_paysOf cX5_paysOf 3 (some .int) 1 22 K [.ref 49, .int (nI k)] m (some (.int (pys (m.1 50 (12 + 7 * k + 0)) (m.1 50 (12 + 7 * k + 2))))) (m) := by
  have h := c_X5_paysOf (K := K) (m := m) (s := m.1 50) hk
  rw [sr_self] at h
  exact h
theorem p_X5_delaysOf {K : Cx} {m : TM} {k : Nat} (hk : k < 8) : CT yX5_delaysOf cX5_delaysOf 3 (some .int) 1 22 K [.ref 49, .int (nI k)] m (some (.int (dly (m.1 50 (12 + 7 * k + 0))))) (m) := by
  have h := c_X5_delaysOf (K := K) (m := m) (s := m.1 50) hk
  rw [sr_self] at h
  exact h
theorem p_X5_tideNow {K : Cx} {m : TM} (ht : TD (m.1 50)) : CT yX5_tideNow cX5_tideNow 1 (some .int) 0 0 K [.ref 49] m (some (.int (tdF (m.1 50)))) (m) := by
  have h := c_X5_tideNow (K := K) (m := m) (s := m.1 50) ht
  rw [sr_self] at h
  exact h
theorem p_X5_day {K : Cx} {m : TM} {n8 : Nat} (hI : Iv n8 (m.1 50)) : CT yX5_day cX5_day 3 none 3 69 K [.ref 49] m none (sr m 50 (dyC (m.1 50) n8)) := by
  have h := c_X5_day (K := K) (m := m) (s := m.1 50) hI
  rw [sr_self] at h
  exact h
theorem p_X5_goes {K : Cx} {m : TM} {n8 c : Nat} (hc : c ≤ 1000) (hI : Iv n8 (m.1 50)) : CT yX5_goes cX5_goes 3 none 4 91 K [.ref 49, .int (nI c)] m none (sr m 50 (dysC n8 c (m.1 50))) := by
  have h := c_X5_goes (K := K) (m := m) (s := m.1 50) hc hI
  rw [sr_self] at h
  exact h
theorem p_X5_those {K : Cx} {m : TM} {n8 : Nat} {x : Int32} (hn : m.1 50 1 = nI n8) (h8 : n8 ≤ 8) : CT yX5_those cX5_those 4 (some .int) 1 22 K [.ref 49, .int x] m (some (.int (thF (m.1 50) x n8))) (m) := by
  have h := c_X5_those (K := K) (m := m) (s := m.1 50) (x := x) hn h8
  rw [sr_self] at h
  exact h
theorem p_X5_weightNow {K : Cx} {m : TM} {n8 : Nat} (hn : m.1 50 1 = nI n8) (h8 : n8 ≤ 8) : CT yX5_weightNow cX5_weightNow 3 (some .int) 1 22 K [.ref 49] m (some (.int (weF (m.1 50) n8))) (m) := by
  have h := c_X5_weightNow (K := K) (m := m) (s := m.1 50) hn h8
  rw [sr_self] at h
  exact h
theorem p_X5_draw {K : Cx} {m : TM}  : CT yX5_draw cX5_draw 1 (some .int) 0 0 K [.ref 49] m (some (.int (dr (m.1 50 2)))) (sr m 50 (upd (m.1 50) 2 (nz (m.1 50 2)))) := by
  have h := c_X5_draw (K := K) (m := m) (s := m.1 50) 
  rw [sr_self] at h
  exact h
theorem dX5_tide_0 : decode cX5_tide 0 = .ok (.iload_n 1, 1) := by decide +kernel
theorem dX5_tide_1 : decode cX5_tide 1 = .ok (.invokestatic 96, 3) := by decide +kernel
theorem dX5_tide_4 : decode cX5_tide 4 = .ok (.ifCond .eq 10, 3) := by decide +kernel
theorem dX5_tide_7 : decode cX5_tide 7 = .ok (.iload_n 2, 1) := by decide +kernel
theorem dX5_tide_8 : decode cX5_tide 8 = .ok (.invokestatic 100, 3) := by decide +kernel
theorem dX5_tide_11 : decode cX5_tide 11 = .ok (.ifCond .ne 9, 3) := by decide +kernel
theorem dX5_tide_14 : decode cX5_tide 14 = .ok (.aload_n 0, 1) := by decide +kernel
theorem dX5_tide_15 : decode cX5_tide 15 = .ok (.iconst 0, 1) := by decide +kernel
theorem dX5_tide_16 : decode cX5_tide 16 = .ok (.invokevirtual 103, 3) := by decide +kernel
theorem dX5_tide_19 : decode cX5_tide 19 = .ok (.ireturn, 1) := by decide +kernel
theorem dX5_tide_20 : decode cX5_tide 20 = .ok (.aload_n 0, 1) := by decide +kernel
theorem dX5_tide_21 : decode cX5_tide 21 = .ok (.getfield 9, 3) := by decide +kernel
theorem dX5_tide_24 : decode cX5_tide 24 = .ok (.bipush 6, 2) := by decide +kernel
theorem dX5_tide_26 : decode cX5_tide 26 = .ok (.iload_n 1, 1) := by decide +kernel
theorem dX5_tide_27 : decode cX5_tide 27 = .ok (.iadd, 1) := by decide +kernel
theorem dX5_tide_28 : decode cX5_tide 28 = .ok (.iaload, 1) := by decide +kernel
theorem dX5_tide_29 : decode cX5_tide 29 = .ok (.istore_n 3, 1) := by decide +kernel
theorem dX5_tide_30 : decode cX5_tide 30 = .ok (.aload_n 0, 1) := by decide +kernel
theorem dX5_tide_31 : decode cX5_tide 31 = .ok (.getfield 9, 3) := by decide +kernel
theorem dX5_tide_34 : decode cX5_tide 34 = .ok (.bipush 6, 2) := by decide +kernel
theorem dX5_tide_36 : decode cX5_tide 36 = .ok (.iload_n 1, 1) := by decide +kernel
theorem dX5_tide_37 : decode cX5_tide 37 = .ok (.iadd, 1) := by decide +kernel
theorem dX5_tide_38 : decode cX5_tide 38 = .ok (.iload_n 2, 1) := by decide +kernel
theorem dX5_tide_39 : decode cX5_tide 39 = .ok (.iastore, 1) := by decide +kernel
theorem dX5_tide_40 : decode cX5_tide 40 = .ok (.iload_n 3, 1) := by decide +kernel
theorem dX5_tide_41 : decode cX5_tide 41 = .ok (.ireturn, 1) := by decide +kernel
set_option maxRecDepth 20000 in
set_option maxHeartbeats 4000000 in
theorem c_X5_tide {K : Cx} {i v : Int32} {m : TM} : CT yX5_tide cX5_tide 4 (some .int) 2 42 K [.ref 49, .int i, .int v] (m) (some (.int ((if (outI i 0 5 || outI v 0 20) = true then (-1000001) else m.1 50 (6 + cl i))))) ((if (outI i 0 5 || outI v 0 20) = true then fnm m 0 else sr m 50 (upd (m.1 50) (6 + cl i) v))) := by
  refine ct_ofd (n := 1) (by decide +kernel) rfl rfl ?_
  show XX RX5 cX5_tide 4 (some .int) 2 42 K 0 [some (.ref 49), some (.int i), some (.int v), none] [] (m) (fun r1 m1 => r1 = (some (.int ((if (outI i 0 5 || outI v 0 20) = true then (-1000001) else m.1 50 (6 + cl i))))) ∧ m1 = (if (outI i 0 5 || outI v 0 20) = true then fnm m 0 else sr m 50 (upd (m.1 50) (6 + cl i) v)))
  refine x_iload_n (q := 1) dX5_tide_0 rfl rfl ?_
  refine x_callS1v (q := 4) dX5_tide_1 rfl ml_X5_96 ms_X5_isTurn c_X5_isTurn (Nat.le_of_ble_eq_true rfl) ⟨by decide, by decide⟩ ?_
  refine x_ifB_eq (q := 7) (t := 14) dX5_tide_4 rfl (by decide) (fun h4 => ?_) (fun h4 => ?_)
  · replace h4 := in_f h4
    refine x_aload_n (q := 15) dX5_tide_14 rfl rfl ?_
    refine x_iconst (q := 16) (v := 0) dX5_tide_15 rfl (by decide) ?_
    refine x_callV1v (q := 19) dX5_tide_16 rfl ml_X5_103 mv_X5_no rv5 rfl (c_X5_nox (w := 0) (x := -1000001) (by decide) (by decide)) (Nat.le_of_ble_eq_true rfl) ⟨by decide, by decide⟩ ?_
    refine x_ireturn dX5_tide_19 rfl rfl ?_
    exact ⟨by simp [h4, st1_eq], by simp [h4, st1_eq]⟩
  replace h4 := in_t h4
  refine x_iload_n (q := 8) dX5_tide_7 rfl rfl ?_
  refine x_callS1v (q := 11) dX5_tide_8 rfl ml_X5_100 ms_X5_isLine c_X5_isLine (Nat.le_of_ble_eq_true rfl) ⟨by decide, by decide⟩ ?_
  refine x_ifB_ne (q := 14) (t := 20) dX5_tide_11 rfl (by decide) (fun h11 => ?_) (fun h11 => ?_)
  · replace h11 := in_t h11
    refine x_aload_n (q := 21) dX5_tide_20 rfl rfl ?_
    refine x_getR (q := 24) dX5_tide_21 rfl fl_X5_9 (or5_s) ?_
    refine x_bipush (q := 26) (v := 6) dX5_tide_24 rfl (by decide) ?_
    refine x_iload_n (q := 27) dX5_tide_26 rfl rfl ?_
    refine x_iadd (q := 28) dX5_tide_27 rfl ?_
    refine x_iald (q := 29) dX5_tide_28 rfl (ar_50) (ix_off 6 (ix_out h4 (n := 6) (by decide)) (by decide) (by decide)) (Nat.zero_add _) ?_
    refine x_istore_n (q := 30) dX5_tide_29 rfl (by decide) rfl rfl ?_
    refine x_aload_n (q := 31) dX5_tide_30 rfl rfl ?_
    refine x_getR (q := 34) dX5_tide_31 rfl fl_X5_9 (or5_s) ?_
    refine x_bipush (q := 36) (v := 6) dX5_tide_34 rfl (by decide) ?_
    refine x_iload_n (q := 37) dX5_tide_36 rfl rfl ?_
    refine x_iadd (q := 38) dX5_tide_37 rfl ?_
    refine x_iload_n (q := 39) dX5_tide_38 rfl rfl ?_
    refine x_iast (q := 40) dX5_tide_39 rfl (ar_50) (ix_off 6 (ix_out h4 (n := 6) (by decide)) (by decide) (by decide)) (Nat.zero_add _) rfl ?_
    refine x_iload_n (q := 41) dX5_tide_40 rfl rfl ?_
    refine x_ireturn dX5_tide_41 rfl rfl ?_
    exact ⟨by simp [h4, h11, st1_eq], by simp [h4, h11, st1_eq]⟩
  replace h11 := in_f h11
  refine x_aload_n (q := 15) dX5_tide_14 rfl rfl ?_
  refine x_iconst (q := 16) (v := 0) dX5_tide_15 rfl (by decide) ?_
  refine x_callV1v (q := 19) dX5_tide_16 rfl ml_X5_103 mv_X5_no rv5 rfl (c_X5_nox (w := 0) (x := -1000001) (by decide) (by decide)) (Nat.le_of_ble_eq_true rfl) ⟨by decide, by decide⟩ ?_
  refine x_ireturn dX5_tide_19 rfl rfl ?_
  exact ⟨by simp [h4, h11, st1_eq], by simp [h4, h11, st1_eq]⟩
theorem dX5_listed_0 : decode cX5_listed 0 = .ok (.iload_n 1, 1) := by decide +kernel
theorem dX5_listed_1 : decode cX5_listed 1 = .ok (.invokestatic 96, 3) := by decide +kernel
theorem dX5_listed_4 : decode cX5_listed 4 = .ok (.ifCond .eq 15, 3) := by decide +kernel
theorem dX5_listed_7 : decode cX5_listed 7 = .ok (.aload_n 0, 1) := by decide +kernel
theorem dX5_listed_8 : decode cX5_listed 8 = .ok (.getfield 9, 3) := by decide +kernel
theorem dX5_listed_11 : decode cX5_listed 11 = .ok (.bipush 6, 2) := by decide +kernel
theorem dX5_listed_13 : decode cX5_listed 13 = .ok (.iload_n 1, 1) := by decide +kernel
theorem dX5_listed_14 : decode cX5_listed 14 = .ok (.iadd, 1) := by decide +kernel
theorem dX5_listed_15 : decode cX5_listed 15 = .ok (.iaload, 1) := by decide +kernel
theorem dX5_listed_16 : decode cX5_listed 16 = .ok (.goto 8, 3) := by decide +kernel
theorem dX5_listed_19 : decode cX5_listed 19 = .ok (.aload_n 0, 1) := by decide +kernel
theorem dX5_listed_20 : decode cX5_listed 20 = .ok (.iconst 0, 1) := by decide +kernel
theorem dX5_listed_21 : decode cX5_listed 21 = .ok (.invokevirtual 103, 3) := by decide +kernel
theorem dX5_listed_24 : decode cX5_listed 24 = .ok (.ireturn, 1) := by decide +kernel
set_option maxRecDepth 20000 in
set_option maxHeartbeats 4000000 in
theorem c_X5_listed {K : Cx} {i : Int32} {m : TM} : CT yX5_listed cX5_listed 2 (some .int) 2 42 K [.ref 49, .int i] (m) (some (.int ((if (outI i 0 5) = true then (-1000001) else m.1 50 (6 + cl i))))) ((if (outI i 0 5) = true then fnm m 0 else m)) := by
  refine ct_ofd (n := 0) (by decide +kernel) rfl rfl ?_
  show XX RX5 cX5_listed 2 (some .int) 2 42 K 0 [some (.ref 49), some (.int i)] [] (m) (fun r1 m1 => r1 = (some (.int ((if (outI i 0 5) = true then (-1000001) else m.1 50 (6 + cl i))))) ∧ m1 = (if (outI i 0 5) = true then fnm m 0 else m))
  refine x_iload_n (q := 1) dX5_listed_0 rfl rfl ?_
  refine x_callS1v (q := 4) dX5_listed_1 rfl ml_X5_96 ms_X5_isTurn c_X5_isTurn (Nat.le_of_ble_eq_true rfl) ⟨by decide, by decide⟩ ?_
  refine x_ifB_eq (q := 7) (t := 19) dX5_listed_4 rfl (by decide) (fun h4 => ?_) (fun h4 => ?_)
  · replace h4 := in_f h4
    refine x_aload_n (q := 20) dX5_listed_19 rfl rfl ?_
    refine x_iconst (q := 21) (v := 0) dX5_listed_20 rfl (by decide) ?_
    refine x_callV1v (q := 24) dX5_listed_21 rfl ml_X5_103 mv_X5_no rv5 rfl (c_X5_nox (w := 0) (x := -1000001) (by decide) (by decide)) (Nat.le_of_ble_eq_true rfl) ⟨by decide, by decide⟩ ?_
    refine x_ireturn dX5_listed_24 rfl rfl ?_
    exact ⟨by simp [h4], by simp [h4]⟩
  replace h4 := in_t h4
  refine x_aload_n (q := 8) dX5_listed_7 rfl rfl ?_
  refine x_getR (q := 11) dX5_listed_8 rfl fl_X5_9 (or5_s) ?_
  refine x_bipush (q := 13) (v := 6) dX5_listed_11 rfl (by decide) ?_
  refine x_iload_n (q := 14) dX5_listed_13 rfl rfl ?_
  refine x_iadd (q := 15) dX5_listed_14 rfl ?_
  refine x_iald (q := 16) dX5_listed_15 rfl (ar_50) (ix_off 6 (ix_out h4 (n := 6) (by decide)) (by decide) (by decide)) (Nat.zero_add _) ?_
  refine x_goto (q := 24) dX5_listed_16 (by decide) ?_
  refine x_ireturn dX5_listed_24 rfl rfl ?_
  exact ⟨by simp [h4], by simp [h4]⟩
theorem out01 {x : Int32} (h : outI x 0 1 = false) (h0 : ¬ x = 0) : x = 1 := by
  have hk := (ix_out h (n := 2) (by decide))
  have e := jnI_of hk.1
  have h2 : cl x < 2 := hk.2.2
  unfold cl at h2
  have h3 : x.toNatClampNeg ≠ 0 := fun q => h0 (by rw [e, q]; rfl)
  rw [e, show x.toNatClampNeg = 1 by omega]
  rfl
theorem out01t {x : Int32} (h : outI x 0 1 = true) : ¬ x = 0 ∧ ¬ x = 1 := by
  constructor <;> (intro q; rw [q] at h; revert h; decide)
theorem dX5_set_0 : decode cX5_set 0 = .ok (.iload_n 1, 1) := by decide +kernel
theorem dX5_set_1 : decode cX5_set 1 = .ok (.iconst 0, 1) := by decide +kernel
theorem dX5_set_2 : decode cX5_set 2 = .ok (.iconst 1, 1) := by decide +kernel
theorem dX5_set_3 : decode cX5_set 3 = .ok (.invokestatic 48, 3) := by decide +kernel
theorem dX5_set_6 : decode cX5_set 6 = .ok (.ifCond .eq 23, 3) := by decide +kernel
theorem dX5_set_9 : decode cX5_set 9 = .ok (.iload_n 2, 1) := by decide +kernel
theorem dX5_set_10 : decode cX5_set 10 = .ok (.iconst 0, 1) := by decide +kernel
theorem dX5_set_11 : decode cX5_set 11 = .ok (.iload_n 1, 1) := by decide +kernel
theorem dX5_set_12 : decode cX5_set 12 = .ok (.ifCond .ne 9, 3) := by decide +kernel
theorem dX5_set_15 : decode cX5_set 15 = .ok (.sipush 9999, 3) := by decide +kernel
theorem dX5_set_18 : decode cX5_set 18 = .ok (.goto 5, 3) := by decide +kernel
theorem dX5_set_21 : decode cX5_set 21 = .ok (.bipush 9, 2) := by decide +kernel
theorem dX5_set_23 : decode cX5_set 23 = .ok (.invokestatic 48, 3) := by decide +kernel
theorem dX5_set_26 : decode cX5_set 26 = .ok (.ifCond .ne 9, 3) := by decide +kernel
theorem dX5_set_29 : decode cX5_set 29 = .ok (.aload_n 0, 1) := by decide +kernel
theorem dX5_set_30 : decode cX5_set 30 = .ok (.iconst 0, 1) := by decide +kernel
theorem dX5_set_31 : decode cX5_set 31 = .ok (.invokevirtual 103, 3) := by decide +kernel
theorem dX5_set_34 : decode cX5_set 34 = .ok (.ireturn, 1) := by decide +kernel
theorem dX5_set_35 : decode cX5_set 35 = .ok (.aload_n 0, 1) := by decide +kernel
theorem dX5_set_36 : decode cX5_set 36 = .ok (.getfield 9, 3) := by decide +kernel
theorem dX5_set_39 : decode cX5_set 39 = .ok (.iconst 4, 1) := by decide +kernel
theorem dX5_set_40 : decode cX5_set 40 = .ok (.iload_n 1, 1) := by decide +kernel
theorem dX5_set_41 : decode cX5_set 41 = .ok (.iadd, 1) := by decide +kernel
theorem dX5_set_42 : decode cX5_set 42 = .ok (.iaload, 1) := by decide +kernel
theorem dX5_set_43 : decode cX5_set 43 = .ok (.istore_n 3, 1) := by decide +kernel
theorem dX5_set_44 : decode cX5_set 44 = .ok (.aload_n 0, 1) := by decide +kernel
theorem dX5_set_45 : decode cX5_set 45 = .ok (.getfield 9, 3) := by decide +kernel
theorem dX5_set_48 : decode cX5_set 48 = .ok (.iconst 4, 1) := by decide +kernel
theorem dX5_set_49 : decode cX5_set 49 = .ok (.iload_n 1, 1) := by decide +kernel
theorem dX5_set_50 : decode cX5_set 50 = .ok (.iadd, 1) := by decide +kernel
theorem dX5_set_51 : decode cX5_set 51 = .ok (.iload_n 2, 1) := by decide +kernel
theorem dX5_set_52 : decode cX5_set 52 = .ok (.iastore, 1) := by decide +kernel
theorem dX5_set_53 : decode cX5_set 53 = .ok (.iload_n 3, 1) := by decide +kernel
theorem dX5_set_54 : decode cX5_set 54 = .ok (.ireturn, 1) := by decide +kernel
set_option maxRecDepth 20000 in
set_option maxHeartbeats 4000000 in
theorem c_X5_set {K : Cx} {x v : Int32} {m : TM} : CT yX5_set cX5_set 4 (some .int) 1 22 K [.ref 49, .int x, .int v] (m) (some (.int ((if ((decide (x = 0) && !outI v 0 9999)) = true then m.1 50 4 else (if ((decide (x = 1) && !outI v 0 9)) = true then m.1 50 5 else (-1000001)))))) ((if ((decide (x = 0) && !outI v 0 9999)) = true then sr m 50 (upd (m.1 50) 4 v) else (if ((decide (x = 1) && !outI v 0 9)) = true then sr m 50 (upd (m.1 50) 5 v) else fnm m 0))) := by
  refine ct_ofd (n := 1) (by decide +kernel) rfl rfl ?_
  show XX RX5 cX5_set 4 (some .int) 1 22 K 0 [some (.ref 49), some (.int x), some (.int v), none] [] (m) (fun r1 m1 => r1 = (some (.int ((if ((decide (x = 0) && !outI v 0 9999)) = true then m.1 50 4 else (if ((decide (x = 1) && !outI v 0 9)) = true then m.1 50 5 else (-1000001)))))) ∧ m1 = (if ((decide (x = 0) && !outI v 0 9999)) = true then sr m 50 (upd (m.1 50) 4 v) else (if ((decide (x = 1) && !outI v 0 9)) = true then sr m 50 (upd (m.1 50) 5 v) else fnm m 0)))
  refine x_iload_n (q := 1) dX5_set_0 rfl rfl ?_
  refine x_iconst (q := 2) (v := 0) dX5_set_1 rfl (by decide) ?_
  refine x_iconst (q := 3) (v := 1) dX5_set_2 rfl (by decide) ?_
  refine x_callS3v (q := 6) dX5_set_3 rfl ml_X5_48 ms_X5_in1 c_X5_in1 (Nat.le_of_ble_eq_true rfl) ⟨by decide, by decide⟩ ?_
  refine x_ifB_eq (q := 9) (t := 29) dX5_set_6 rfl (by decide) (fun h6 => ?_) (fun h6 => ?_)
  · replace h6 := in_f h6
    refine x_aload_n (q := 30) dX5_set_29 rfl rfl ?_
    refine x_iconst (q := 31) (v := 0) dX5_set_30 rfl (by decide) ?_
    refine x_callV1v (q := 34) dX5_set_31 rfl ml_X5_103 mv_X5_no rv5 rfl (c_X5_nox (w := 0) (x := -1000001) (by decide) (by decide)) (Nat.le_of_ble_eq_true rfl) ⟨by decide, by decide⟩ ?_
    refine x_ireturn dX5_set_34 rfl rfl ?_
    exact ⟨by simp [(out01t h6).1, (out01t h6).2], by simp [(out01t h6).1, (out01t h6).2]⟩
  replace h6 := in_t h6
  refine x_iload_n (q := 10) dX5_set_9 rfl rfl ?_
  refine x_iconst (q := 11) (v := 0) dX5_set_10 rfl (by decide) ?_
  refine x_iload_n (q := 12) dX5_set_11 rfl rfl ?_
  refine x_if_ne (q := 15) (t := 21) dX5_set_12 rfl (by decide) (fun h12 => ?_) (fun h12 => ?_)
  · refine x_bipush (q := 23) (v := 9) dX5_set_21 rfl (by decide) ?_
    refine x_callS3v (q := 26) dX5_set_23 rfl ml_X5_48 ms_X5_in1 c_X5_in1 (Nat.le_of_ble_eq_true rfl) ⟨by decide, by decide⟩ ?_
    refine x_ifB_ne (q := 29) (t := 35) dX5_set_26 rfl (by decide) (fun h26 => ?_) (fun h26 => ?_)
    · replace h26 := in_t h26
      refine x_aload_n (q := 36) dX5_set_35 rfl rfl ?_
      refine x_getR (q := 39) dX5_set_36 rfl fl_X5_9 (or5_s) ?_
      refine x_iconst (q := 40) (v := 4) dX5_set_39 rfl (by decide) ?_
      refine x_iload_n (q := 41) dX5_set_40 rfl rfl ?_
      refine x_iadd (q := 42) dX5_set_41 rfl ?_
      refine x_iald (q := 43) dX5_set_42 rfl (ar_50) (ix_off 4 (ix_out h6 (n := 2) (by decide)) (by decide) (by decide)) (Nat.zero_add _) ?_
      refine x_istore_n (q := 44) dX5_set_43 rfl (by decide) rfl rfl ?_
      refine x_aload_n (q := 45) dX5_set_44 rfl rfl ?_
      refine x_getR (q := 48) dX5_set_45 rfl fl_X5_9 (or5_s) ?_
      refine x_iconst (q := 49) (v := 4) dX5_set_48 rfl (by decide) ?_
      refine x_iload_n (q := 50) dX5_set_49 rfl rfl ?_
      refine x_iadd (q := 51) dX5_set_50 rfl ?_
      refine x_iload_n (q := 52) dX5_set_51 rfl rfl ?_
      refine x_iast (q := 53) dX5_set_52 rfl (ar_50) (ix_off 4 (ix_out h6 (n := 2) (by decide)) (by decide) (by decide)) (Nat.zero_add _) rfl ?_
      refine x_iload_n (q := 54) dX5_set_53 rfl rfl ?_
      refine x_ireturn dX5_set_54 rfl rfl ?_
      have e1 := out01 h6 h12
      subst e1
      exact ⟨by simp [h26, cl], by simp [h26, st1_eq, cl]⟩
    replace h26 := in_f h26
    refine x_aload_n (q := 30) dX5_set_29 rfl rfl ?_
    refine x_iconst (q := 31) (v := 0) dX5_set_30 rfl (by decide) ?_
    refine x_callV1v (q := 34) dX5_set_31 rfl ml_X5_103 mv_X5_no rv5 rfl (c_X5_nox (w := 0) (x := -1000001) (by decide) (by decide)) (Nat.le_of_ble_eq_true rfl) ⟨by decide, by decide⟩ ?_
    refine x_ireturn dX5_set_34 rfl rfl ?_
    have e1 := out01 h6 h12
    subst e1
    exact ⟨by simp [h26, cl], by simp [h26, st1_eq, cl]⟩
  refine x_sipush (q := 18) (v := 9999) dX5_set_15 rfl (by decide) ?_
  refine x_goto (q := 23) dX5_set_18 (by decide) ?_
  refine x_callS3v (q := 26) dX5_set_23 rfl ml_X5_48 ms_X5_in1 c_X5_in1 (Nat.le_of_ble_eq_true rfl) ⟨by decide, by decide⟩ ?_
  refine x_ifB_ne (q := 29) (t := 35) dX5_set_26 rfl (by decide) (fun h26 => ?_) (fun h26 => ?_)
  · replace h26 := in_t h26
    refine x_aload_n (q := 36) dX5_set_35 rfl rfl ?_
    refine x_getR (q := 39) dX5_set_36 rfl fl_X5_9 (or5_s) ?_
    refine x_iconst (q := 40) (v := 4) dX5_set_39 rfl (by decide) ?_
    refine x_iload_n (q := 41) dX5_set_40 rfl rfl ?_
    refine x_iadd (q := 42) dX5_set_41 rfl ?_
    refine x_iald (q := 43) dX5_set_42 rfl (ar_50) (ix_off 4 (ix_out h6 (n := 2) (by decide)) (by decide) (by decide)) (Nat.zero_add _) ?_
    refine x_istore_n (q := 44) dX5_set_43 rfl (by decide) rfl rfl ?_
    refine x_aload_n (q := 45) dX5_set_44 rfl rfl ?_
    refine x_getR (q := 48) dX5_set_45 rfl fl_X5_9 (or5_s) ?_
    refine x_iconst (q := 49) (v := 4) dX5_set_48 rfl (by decide) ?_
    refine x_iload_n (q := 50) dX5_set_49 rfl rfl ?_
    refine x_iadd (q := 51) dX5_set_50 rfl ?_
    refine x_iload_n (q := 52) dX5_set_51 rfl rfl ?_
    refine x_iast (q := 53) dX5_set_52 rfl (ar_50) (ix_off 4 (ix_out h6 (n := 2) (by decide)) (by decide) (by decide)) (Nat.zero_add _) rfl ?_
    refine x_iload_n (q := 54) dX5_set_53 rfl rfl ?_
    refine x_ireturn dX5_set_54 rfl rfl ?_
    subst h12
    exact ⟨by simp [h26, cl], by simp [h26, st1_eq, cl]⟩
  replace h26 := in_f h26
  refine x_aload_n (q := 30) dX5_set_29 rfl rfl ?_
  refine x_iconst (q := 31) (v := 0) dX5_set_30 rfl (by decide) ?_
  refine x_callV1v (q := 34) dX5_set_31 rfl ml_X5_103 mv_X5_no rv5 rfl (c_X5_nox (w := 0) (x := -1000001) (by decide) (by decide)) (Nat.le_of_ble_eq_true rfl) ⟨by decide, by decide⟩ ?_
  refine x_ireturn dX5_set_34 rfl rfl ?_
  subst h12
  exact ⟨by simp [h26, cl], by simp [h26, st1_eq, cl]⟩
theorem dX5_adds_0 : decode cX5_adds 0 = .ok (.aload_n 0, 1) := by decide +kernel
theorem dX5_adds_1 : decode cX5_adds 1 = .ok (.getfield 9, 3) := by decide +kernel
theorem dX5_adds_4 : decode cX5_adds 4 = .ok (.iconst 1, 1) := by decide +kernel
theorem dX5_adds_5 : decode cX5_adds 5 = .ok (.iaload, 1) := by decide +kernel
theorem dX5_adds_6 : decode cX5_adds 6 = .ok (.istore_n 2, 1) := by decide +kernel
theorem dX5_adds_7 : decode cX5_adds 7 = .ok (.iconst 0, 1) := by decide +kernel
theorem dX5_adds_8 : decode cX5_adds 8 = .ok (.istore_n 3, 1) := by decide +kernel
theorem dX5_adds_9 : decode cX5_adds 9 = .ok (.iload_n 3, 1) := by decide +kernel
theorem dX5_adds_10 : decode cX5_adds 10 = .ok (.bipush 7, 2) := by decide +kernel
theorem dX5_adds_12 : decode cX5_adds 12 = .ok (.if_icmp .ge 16, 3) := by decide +kernel
theorem dX5_adds_15 : decode cX5_adds 15 = .ok (.aload_n 0, 1) := by decide +kernel
theorem dX5_adds_16 : decode cX5_adds 16 = .ok (.iload_n 2, 1) := by decide +kernel
theorem dX5_adds_17 : decode cX5_adds 17 = .ok (.iload_n 3, 1) := by decide +kernel
theorem dX5_adds_18 : decode cX5_adds 18 = .ok (.iconst 0, 1) := by decide +kernel
theorem dX5_adds_19 : decode cX5_adds 19 = .ok (.invokevirtual 60, 3) := by decide +kernel
theorem dX5_adds_22 : decode cX5_adds 22 = .ok (.iinc 3 1, 3) := by decide +kernel
theorem dX5_adds_25 : decode cX5_adds 25 = .ok (.goto (-16), 3) := by decide +kernel
theorem dX5_adds_28 : decode cX5_adds 28 = .ok (.aload_n 0, 1) := by decide +kernel
theorem dX5_adds_29 : decode cX5_adds 29 = .ok (.iload_n 2, 1) := by decide +kernel
theorem dX5_adds_30 : decode cX5_adds 30 = .ok (.iconst 0, 1) := by decide +kernel
theorem dX5_adds_31 : decode cX5_adds 31 = .ok (.iload_n 1, 1) := by decide +kernel
theorem dX5_adds_32 : decode cX5_adds 32 = .ok (.invokevirtual 60, 3) := by decide +kernel
theorem dX5_adds_35 : decode cX5_adds 35 = .ok (.aload_n 0, 1) := by decide +kernel
theorem dX5_adds_36 : decode cX5_adds 36 = .ok (.iload_n 2, 1) := by decide +kernel
theorem dX5_adds_37 : decode cX5_adds 37 = .ok (.iconst 2, 1) := by decide +kernel
theorem dX5_adds_38 : decode cX5_adds 38 = .ok (.bipush 10, 2) := by decide +kernel
theorem dX5_adds_40 : decode cX5_adds 40 = .ok (.invokevirtual 60, 3) := by decide +kernel
theorem dX5_adds_43 : decode cX5_adds 43 = .ok (.aload_n 0, 1) := by decide +kernel
theorem dX5_adds_44 : decode cX5_adds 44 = .ok (.getfield 9, 3) := by decide +kernel
theorem dX5_adds_47 : decode cX5_adds 47 = .ok (.iconst 1, 1) := by decide +kernel
theorem dX5_adds_48 : decode cX5_adds 48 = .ok (.dup2, 1) := by decide +kernel
theorem dX5_adds_49 : decode cX5_adds 49 = .ok (.iaload, 1) := by decide +kernel
theorem dX5_adds_50 : decode cX5_adds 50 = .ok (.iconst 1, 1) := by decide +kernel
theorem dX5_adds_51 : decode cX5_adds 51 = .ok (.iadd, 1) := by decide +kernel
theorem dX5_adds_52 : decode cX5_adds 52 = .ok (.iastore, 1) := by decide +kernel
theorem dX5_adds_53 : decode cX5_adds 53 = .ok (.return_, 1) := by decide +kernel
set_option maxRecDepth 20000 in
set_option maxHeartbeats 4000000 in
theorem l_X5_adds {K : Cx} {n8 : Nat} {x : Int32} {s : Nat → Int32} {m : TM} (hn : s 1 = nI n8) (h8 : n8 < 8) : ∀ (n : Nat) (j : Nat), 7 - j < n → j ≤ 7 → XX RX5 cX5_adds 4 none 1 23 K 9 [some (.ref 49), some (.int x), some (.int (nI n8)), some (.int (nI j))] [] (sr m 50 (zL s n8 j)) (fun r1 m1 => r1 = none ∧ m1 = sr m 50 (upd (newF s n8 x) 1 (nI (n8 + 1)))) := by
  intro n
  induction n with
  | zero => intro j hlt; exact absurd hlt (Nat.not_lt_zero _)
  | succ n ih =>
    intro j hlt hj
    refine x_iload_n (q := 10) dX5_adds_9 rfl rfl ?_
    refine x_bipush (q := 12) (v := 7) dX5_adds_10 rfl (by decide) ?_
    refine x_icmp_ge (q := 15) (t := 28) dX5_adds_12 rfl (by decide) (fun h12 => ?_) (fun h12 => ?_)
    · have e : j = 7 := Nat.le_antisymm hj (lp_stop (n := 7) rfl (by omega) (by omega) h12)
      subst e
      refine x_aload_n (q := 29) dX5_adds_28 rfl rfl ?_
      refine x_iload_n (q := 30) dX5_adds_29 rfl rfl ?_
      refine x_iconst (q := 31) (v := 0) dX5_adds_30 rfl (by decide) ?_
      refine x_iload_n (q := 32) dX5_adds_31 rfl rfl ?_
      refine x_callV3n (q := 35) dX5_adds_32 rfl ml_X5_60 mv_X5_puts rv5 rfl (c_X5_putsr (f := 0) h8 (by decide)) (Nat.le_of_ble_eq_true rfl) ⟨by decide, by decide⟩ ?_
      refine x_aload_n (q := 36) dX5_adds_35 rfl rfl ?_
      refine x_iload_n (q := 37) dX5_adds_36 rfl rfl ?_
      refine x_iconst (q := 38) (v := 2) dX5_adds_37 rfl (by decide) ?_
      refine x_bipush (q := 40) (v := 10) dX5_adds_38 rfl (by decide) ?_
      refine x_callV3n (q := 43) dX5_adds_40 rfl ml_X5_60 mv_X5_puts rv5 rfl (c_X5_putsr (f := 2) h8 (by decide)) (Nat.le_of_ble_eq_true rfl) ⟨by decide, by decide⟩ ?_
      refine x_aload_n (q := 44) dX5_adds_43 rfl rfl ?_
      refine x_getR (q := 47) dX5_adds_44 rfl fl_X5_9 (or5_s) ?_
      refine x_iconst (q := 48) (v := 1) dX5_adds_47 rfl (by decide) ?_
      refine x_dup2 (q := 49) dX5_adds_48 rfl rfl rfl ?_
      refine x_ialdr (q := 50) dX5_adds_49 rfl (ar_50) (ix_nI (k := 1) (by decide) (by decide)) (Nat.zero_add _) ?_
      refine x_iconst (q := 51) (v := 1) dX5_adds_50 rfl (by decide) ?_
      refine x_iadd (q := 52) dX5_adds_51 rfl ?_
      refine x_iastr (q := 53) dX5_adds_52 rfl (ar_50) (ix_nI (k := 1) (by decide) (by decide)) (Nat.zero_add _)  ?_
      refine x_return dX5_adds_53 rfl ?_
      exact ⟨rfl, by rw [zL_new, newF_1, hn, nI_1]⟩
    have hjn : j < 7 := lp_go (n := 7) rfl (by omega) (by omega) h12
    refine x_aload_n (q := 16) dX5_adds_15 rfl rfl ?_
    refine x_iload_n (q := 17) dX5_adds_16 rfl rfl ?_
    refine x_iload_n (q := 18) dX5_adds_17 rfl rfl ?_
    refine x_iconst (q := 19) (v := 0) dX5_adds_18 rfl (by decide) ?_
    refine x_callV3n (q := 22) dX5_adds_19 rfl ml_X5_60 mv_X5_puts rv5 rfl (c_X5_putsr h8 hjn) (Nat.le_of_ble_eq_true rfl) ⟨by decide, by decide⟩ ?_
    refine x_iinc (q := 25) (v := nI (j + 1)) dX5_adds_22 rfl rfl (jnI_s j) (by decide) rfl rfl ?_
    refine x_goto (q := 9) dX5_adds_25 (by decide) ?_
    exact ih (j + 1) (by omega) (by omega)
set_option maxRecDepth 20000 in
set_option maxHeartbeats 4000000 in
theorem c_X5_adds {K : Cx} {n8 : Nat} {x : Int32} {s : Nat → Int32} {m : TM} (hn : s 1 = nI n8) (h8 : n8 < 8) : CT yX5_adds cX5_adds 4 none 1 23 K [.ref 49, .int x] (sr m 50 s) none (sr m 50 (upd (newF s n8 x) 1 (nI (n8 + 1)))) := by
  refine ct_ofd (n := 2) (by decide +kernel) rfl rfl ?_
  show XX RX5 cX5_adds 4 none 1 23 K 0 [some (.ref 49), some (.int x), none, none] [] (sr m 50 s) (fun r1 m1 => r1 = none ∧ m1 = sr m 50 (upd (newF s n8 x) 1 (nI (n8 + 1))))
  refine x_aload_n (q := 1) dX5_adds_0 rfl rfl ?_
  refine x_getR (q := 4) dX5_adds_1 rfl fl_X5_9 (or5_s) ?_
  refine x_iconst (q := 5) (v := 1) dX5_adds_4 rfl (by decide) ?_
  refine x_ialdr (q := 6) dX5_adds_5 rfl (ar_50) (ix_nI (k := 1) (by decide) (by decide)) (Nat.zero_add _) ?_
  refine x_istore_n (q := 7) dX5_adds_6 rfl (by decide) rfl rfl ?_
  refine x_iconst (q := 8) (v := 0) dX5_adds_7 rfl (by decide) ?_
  refine x_istore_n (q := 9) dX5_adds_8 rfl (by decide) rfl rfl ?_
  rw [hn]
  exact l_X5_adds hn h8 8 0 (by omega) (by omega)
theorem p_X5_adds {K : Cx} {m : TM} {n8 : Nat} {x : Int32} (hn : m.1 50 1 = nI n8) (h8 : n8 < 8) : CT yX5_adds cX5_adds 4 none 1 23 K [.ref 49, .int x] m none (sr m 50 (upd (newF (m.1 50) n8 x) 1 (nI (n8 + 1)))) := by
  have h := c_X5_adds (K := K) (m := m) (s := m.1 50) (x := x) hn h8
  rw [sr_self] at h
  exact h
theorem dX5_parcel_0 : decode cX5_parcel 0 = .ok (.iload_n 1, 1) := by decide +kernel
theorem dX5_parcel_1 : decode cX5_parcel 1 = .ok (.iconst 0, 1) := by decide +kernel
theorem dX5_parcel_2 : decode cX5_parcel 2 = .ok (.bipush 6, 2) := by decide +kernel
theorem dX5_parcel_4 : decode cX5_parcel 4 = .ok (.invokestatic 48, 3) := by decide +kernel
theorem dX5_parcel_7 : decode cX5_parcel 7 = .ok (.ifCond .eq 10, 3) := by decide +kernel
theorem dX5_parcel_10 : decode cX5_parcel 10 = .ok (.iload_n 2, 1) := by decide +kernel
theorem dX5_parcel_11 : decode cX5_parcel 11 = .ok (.invokestatic 100, 3) := by decide +kernel
theorem dX5_parcel_14 : decode cX5_parcel 14 = .ok (.ifCond .ne 9, 3) := by decide +kernel
theorem dX5_parcel_17 : decode cX5_parcel 17 = .ok (.aload_n 0, 1) := by decide +kernel
theorem dX5_parcel_18 : decode cX5_parcel 18 = .ok (.iconst 0, 1) := by decide +kernel
theorem dX5_parcel_19 : decode cX5_parcel 19 = .ok (.invokevirtual 103, 3) := by decide +kernel
theorem dX5_parcel_22 : decode cX5_parcel 22 = .ok (.ireturn, 1) := by decide +kernel
theorem dX5_parcel_23 : decode cX5_parcel 23 = .ok (.aload_n 0, 1) := by decide +kernel
theorem dX5_parcel_24 : decode cX5_parcel 24 = .ok (.getfield 9, 3) := by decide +kernel
theorem dX5_parcel_27 : decode cX5_parcel 27 = .ok (.iconst 1, 1) := by decide +kernel
theorem dX5_parcel_28 : decode cX5_parcel 28 = .ok (.iaload, 1) := by decide +kernel
theorem dX5_parcel_29 : decode cX5_parcel 29 = .ok (.bipush 8, 2) := by decide +kernel
theorem dX5_parcel_31 : decode cX5_parcel 31 = .ok (.if_icmp .ne 9, 3) := by decide +kernel
theorem dX5_parcel_34 : decode cX5_parcel 34 = .ok (.aload_n 0, 1) := by decide +kernel
theorem dX5_parcel_35 : decode cX5_parcel 35 = .ok (.iconst 1, 1) := by decide +kernel
theorem dX5_parcel_36 : decode cX5_parcel 36 = .ok (.invokevirtual 103, 3) := by decide +kernel
theorem dX5_parcel_39 : decode cX5_parcel 39 = .ok (.ireturn, 1) := by decide +kernel
theorem dX5_parcel_40 : decode cX5_parcel 40 = .ok (.aload_n 0, 1) := by decide +kernel
theorem dX5_parcel_41 : decode cX5_parcel 41 = .ok (.iload_n 1, 1) := by decide +kernel
theorem dX5_parcel_42 : decode cX5_parcel 42 = .ok (.invokevirtual 106, 3) := by decide +kernel
theorem dX5_parcel_45 : decode cX5_parcel 45 = .ok (.aload_n 0, 1) := by decide +kernel
theorem dX5_parcel_46 : decode cX5_parcel 46 = .ok (.aload_n 0, 1) := by decide +kernel
theorem dX5_parcel_47 : decode cX5_parcel 47 = .ok (.getfield 9, 3) := by decide +kernel
theorem dX5_parcel_50 : decode cX5_parcel 50 = .ok (.iconst 1, 1) := by decide +kernel
theorem dX5_parcel_51 : decode cX5_parcel 51 = .ok (.iaload, 1) := by decide +kernel
theorem dX5_parcel_52 : decode cX5_parcel 52 = .ok (.iconst 1, 1) := by decide +kernel
theorem dX5_parcel_53 : decode cX5_parcel 53 = .ok (.isub, 1) := by decide +kernel
theorem dX5_parcel_54 : decode cX5_parcel 54 = .ok (.iconst 1, 1) := by decide +kernel
theorem dX5_parcel_55 : decode cX5_parcel 55 = .ok (.iload_n 2, 1) := by decide +kernel
theorem dX5_parcel_56 : decode cX5_parcel 56 = .ok (.invokevirtual 60, 3) := by decide +kernel
theorem dX5_parcel_59 : decode cX5_parcel 59 = .ok (.aload_n 0, 1) := by decide +kernel
theorem dX5_parcel_60 : decode cX5_parcel 60 = .ok (.getfield 9, 3) := by decide +kernel
theorem dX5_parcel_63 : decode cX5_parcel 63 = .ok (.iconst 1, 1) := by decide +kernel
theorem dX5_parcel_64 : decode cX5_parcel 64 = .ok (.iaload, 1) := by decide +kernel
theorem dX5_parcel_65 : decode cX5_parcel 65 = .ok (.iconst 1, 1) := by decide +kernel
theorem dX5_parcel_66 : decode cX5_parcel 66 = .ok (.isub, 1) := by decide +kernel
theorem dX5_parcel_67 : decode cX5_parcel 67 = .ok (.ireturn, 1) := by decide +kernel
set_option maxRecDepth 20000 in
set_option maxHeartbeats 4000000 in
theorem c_X5_parcel {K : Cx} {x v : Int32} {n8 : Nat} {m : TM} (hn : m.1 50 1 = nI n8) (h8 : n8 < 8) : CT yX5_parcel cX5_parcel 3 (some .int) 2 46 K [.ref 49, .int x, .int v] (m) (some (.int ((if (outI x 0 6 || outI v 0 20) = true then (-1000001) else nI n8)))) ((if (outI x 0 6 || outI v 0 20) = true then fnm m 0 else sr m 50 (upd (upd (newF (m.1 50) n8 x) 1 (nI (n8 + 1))) (12 + 7 * n8 + 1) v))) := by
  refine ct_ofd (n := 0) (by decide +kernel) rfl rfl ?_
  show XX RX5 cX5_parcel 3 (some .int) 2 46 K 0 [some (.ref 49), some (.int x), some (.int v)] [] (m) (fun r1 m1 => r1 = (some (.int ((if (outI x 0 6 || outI v 0 20) = true then (-1000001) else nI n8)))) ∧ m1 = (if (outI x 0 6 || outI v 0 20) = true then fnm m 0 else sr m 50 (upd (upd (newF (m.1 50) n8 x) 1 (nI (n8 + 1))) (12 + 7 * n8 + 1) v)))
  refine x_iload_n (q := 1) dX5_parcel_0 rfl rfl ?_
  refine x_iconst (q := 2) (v := 0) dX5_parcel_1 rfl (by decide) ?_
  refine x_bipush (q := 4) (v := 6) dX5_parcel_2 rfl (by decide) ?_
  refine x_callS3v (q := 7) dX5_parcel_4 rfl ml_X5_48 ms_X5_in1 c_X5_in1 (Nat.le_of_ble_eq_true rfl) ⟨by decide, by decide⟩ ?_
  refine x_ifB_eq (q := 10) (t := 17) dX5_parcel_7 rfl (by decide) (fun h7 => ?_) (fun h7 => ?_)
  · replace h7 := in_f h7
    refine x_aload_n (q := 18) dX5_parcel_17 rfl rfl ?_
    refine x_iconst (q := 19) (v := 0) dX5_parcel_18 rfl (by decide) ?_
    refine x_callV1v (q := 22) dX5_parcel_19 rfl ml_X5_103 mv_X5_no rv5 rfl (c_X5_nox (w := 0) (x := -1000001) (by decide) (by decide)) (Nat.le_of_ble_eq_true rfl) ⟨by decide, by decide⟩ ?_
    refine x_ireturn dX5_parcel_22 rfl rfl ?_
    exact ⟨by simp [h7], by simp [h7]⟩
  replace h7 := in_t h7
  refine x_iload_n (q := 11) dX5_parcel_10 rfl rfl ?_
  refine x_callS1v (q := 14) dX5_parcel_11 rfl ml_X5_100 ms_X5_isLine c_X5_isLine (Nat.le_of_ble_eq_true rfl) ⟨by decide, by decide⟩ ?_
  refine x_ifB_ne (q := 17) (t := 23) dX5_parcel_14 rfl (by decide) (fun h14 => ?_) (fun h14 => ?_)
  · replace h14 := in_t h14
    refine x_aload_n (q := 24) dX5_parcel_23 rfl rfl ?_
    refine x_getR (q := 27) dX5_parcel_24 rfl fl_X5_9 (or5_s) ?_
    refine x_iconst (q := 28) (v := 1) dX5_parcel_27 rfl (by decide) ?_
    refine x_iald (q := 29) dX5_parcel_28 rfl (ar_50) (ix_nI (k := 1) (by decide) (by decide)) (Nat.zero_add _) ?_
    refine x_bipush (q := 31) (v := 8) dX5_parcel_29 rfl (by decide) ?_
    refine x_icmp_ne (q := 34) (t := 40) dX5_parcel_31 rfl (by decide) (fun h31 => ?_) (fun h31 => ?_)
    · refine x_aload_n (q := 41) dX5_parcel_40 rfl rfl ?_
      refine x_iload_n (q := 42) dX5_parcel_41 rfl rfl ?_
      refine x_callV1n (q := 45) dX5_parcel_42 rfl ml_X5_106 mv_X5_adds rv5 rfl (p_X5_adds hn h8) (Nat.le_of_ble_eq_true rfl) ⟨by decide, by decide⟩ ?_
      refine x_aload_n (q := 46) dX5_parcel_45 rfl rfl ?_
      refine x_aload_n (q := 47) dX5_parcel_46 rfl rfl ?_
      refine x_getR (q := 50) dX5_parcel_47 rfl fl_X5_9 (or5_s) ?_
      refine x_iconst (q := 51) (v := 1) dX5_parcel_50 rfl (by decide) ?_
      refine x_iald (q := 52) dX5_parcel_51 rfl (ar_50) (ix_nI (k := 1) (by decide) (by decide)) (Nat.zero_add _) ?_
      refine x_iconst (q := 53) (v := 1) dX5_parcel_52 rfl (by decide) ?_
      refine x_isub (q := 54) dX5_parcel_53 rfl ?_
      refine x_iconst (q := 55) (v := 1) dX5_parcel_54 rfl (by decide) ?_
      refine x_iload_n (q := 56) dX5_parcel_55 rfl rfl ?_
      refine x_callV3n (q := 59) dX5_parcel_56 rfl ml_X5_60 mv_X5_puts rv5 rfl (by rw [sr_at, upd_self, nI_pred]; exact c_X5_putsr (f := 1) h8 (by decide)) (Nat.le_of_ble_eq_true rfl) ⟨by decide, by decide⟩ ?_
      refine x_aload_n (q := 60) dX5_parcel_59 rfl rfl ?_
      refine x_getR (q := 63) dX5_parcel_60 rfl fl_X5_9 (or5_s) ?_
      refine x_iconst (q := 64) (v := 1) dX5_parcel_63 rfl (by decide) ?_
      refine x_iald (q := 65) dX5_parcel_64 rfl (ar_50) (ix_nI (k := 1) (by decide) (by decide)) (Nat.zero_add _) ?_
      refine x_iconst (q := 66) (v := 1) dX5_parcel_65 rfl (by decide) ?_
      refine x_isub (q := 67) dX5_parcel_66 rfl ?_
      refine x_ireturn dX5_parcel_67 rfl rfl ?_
      refine ⟨?_, ?_⟩
      · rw [sr_at, upd_ne (by omega), upd_self, nI_pred]
        simp [h7, h14]
      · simp [h7, h14]
    exact absurd (hn ▸ h31) (fun q => absurd ((jnI_inj (b := 8) (by omega) (by omega)).mp q) (by omega))
  replace h14 := in_f h14
  refine x_aload_n (q := 18) dX5_parcel_17 rfl rfl ?_
  refine x_iconst (q := 19) (v := 0) dX5_parcel_18 rfl (by decide) ?_
  refine x_callV1v (q := 22) dX5_parcel_19 rfl ml_X5_103 mv_X5_no rv5 rfl (c_X5_nox (w := 0) (x := -1000001) (by decide) (by decide)) (Nat.le_of_ble_eq_true rfl) ⟨by decide, by decide⟩ ?_
  refine x_ireturn dX5_parcel_22 rfl rfl ?_
  exact ⟨by simp [h7, h14], by simp [h7, h14]⟩
set_option maxRecDepth 20000 in
set_option maxHeartbeats 4000000 in
theorem c_X5_parcelN {K : Cx} {x v : Int32} {m : TM} (hn : m.1 50 1 = nI 8) : CT yX5_parcel cX5_parcel 3 (some .int) 2 46 K [.ref 49, .int x, .int v] (m) (some (.int ((if (outI x 0 6 || outI v 0 20) = true then (-1000001) else -1000002)))) ((if (outI x 0 6 || outI v 0 20) = true then fnm m 0 else fnm m 1)) := by
  refine ct_ofd (n := 0) (by decide +kernel) rfl rfl ?_
  show XX RX5 cX5_parcel 3 (some .int) 2 46 K 0 [some (.ref 49), some (.int x), some (.int v)] [] (m) (fun r1 m1 => r1 = (some (.int ((if (outI x 0 6 || outI v 0 20) = true then (-1000001) else -1000002)))) ∧ m1 = (if (outI x 0 6 || outI v 0 20) = true then fnm m 0 else fnm m 1))
  refine x_iload_n (q := 1) dX5_parcel_0 rfl rfl ?_
  refine x_iconst (q := 2) (v := 0) dX5_parcel_1 rfl (by decide) ?_
  refine x_bipush (q := 4) (v := 6) dX5_parcel_2 rfl (by decide) ?_
  refine x_callS3v (q := 7) dX5_parcel_4 rfl ml_X5_48 ms_X5_in1 c_X5_in1 (Nat.le_of_ble_eq_true rfl) ⟨by decide, by decide⟩ ?_
  refine x_ifB_eq (q := 10) (t := 17) dX5_parcel_7 rfl (by decide) (fun h7 => ?_) (fun h7 => ?_)
  · replace h7 := in_f h7
    refine x_aload_n (q := 18) dX5_parcel_17 rfl rfl ?_
    refine x_iconst (q := 19) (v := 0) dX5_parcel_18 rfl (by decide) ?_
    refine x_callV1v (q := 22) dX5_parcel_19 rfl ml_X5_103 mv_X5_no rv5 rfl (c_X5_nox (w := 0) (x := -1000001) (by decide) (by decide)) (Nat.le_of_ble_eq_true rfl) ⟨by decide, by decide⟩ ?_
    refine x_ireturn dX5_parcel_22 rfl rfl ?_
    exact ⟨by simp [h7], by simp [h7]⟩
  replace h7 := in_t h7
  refine x_iload_n (q := 11) dX5_parcel_10 rfl rfl ?_
  refine x_callS1v (q := 14) dX5_parcel_11 rfl ml_X5_100 ms_X5_isLine c_X5_isLine (Nat.le_of_ble_eq_true rfl) ⟨by decide, by decide⟩ ?_
  refine x_ifB_ne (q := 17) (t := 23) dX5_parcel_14 rfl (by decide) (fun h14 => ?_) (fun h14 => ?_)
  · replace h14 := in_t h14
    refine x_aload_n (q := 24) dX5_parcel_23 rfl rfl ?_
    refine x_getR (q := 27) dX5_parcel_24 rfl fl_X5_9 (or5_s) ?_
    refine x_iconst (q := 28) (v := 1) dX5_parcel_27 rfl (by decide) ?_
    refine x_iald (q := 29) dX5_parcel_28 rfl (ar_50) (ix_nI (k := 1) (by decide) (by decide)) (Nat.zero_add _) ?_
    refine x_bipush (q := 31) (v := 8) dX5_parcel_29 rfl (by decide) ?_
    refine x_icmp_ne (q := 34) (t := 40) dX5_parcel_31 rfl (by decide) (fun h31 => ?_) (fun h31 => ?_)
    · exact absurd hn h31
    refine x_aload_n (q := 35) dX5_parcel_34 rfl rfl ?_
    refine x_iconst (q := 36) (v := 1) dX5_parcel_35 rfl (by decide) ?_
    refine x_callV1v (q := 39) dX5_parcel_36 rfl ml_X5_103 mv_X5_no rv5 rfl (c_X5_nox (w := 1) (x := -1000002) (by decide) (by decide)) (Nat.le_of_ble_eq_true rfl) ⟨by decide, by decide⟩ ?_
    refine x_ireturn dX5_parcel_39 rfl rfl ?_
    exact ⟨by simp [h7, h14, h31], by simp [h7, h14, h31]⟩
  replace h14 := in_f h14
  refine x_aload_n (q := 18) dX5_parcel_17 rfl rfl ?_
  refine x_iconst (q := 19) (v := 0) dX5_parcel_18 rfl (by decide) ?_
  refine x_callV1v (q := 22) dX5_parcel_19 rfl ml_X5_103 mv_X5_no rv5 rfl (c_X5_nox (w := 0) (x := -1000001) (by decide) (by decide)) (Nat.le_of_ble_eq_true rfl) ⟨by decide, by decide⟩ ?_
  refine x_ireturn dX5_parcel_22 rfl rfl ?_
  exact ⟨by simp [h7, h14], by simp [h7, h14]⟩
theorem of_small {x : Int32} (h : outI x 0 10 = false) (h7 : ¬ x = 7) (h8 : ¬ x = 8) (h9 : ¬ x = 9) (h10 : ¬ x = 10) : ∃ c, c < 7 ∧ x = nI c := by
  have hk := (ix_out h (n := 11) (by decide))
  have e := jnI_of hk.1
  have h2 : cl x < 11 := hk.2.2
  unfold cl at h2
  refine ⟨x.toNatClampNeg, ?_, e⟩
  have a7 : x.toNatClampNeg ≠ 7 := fun q => h7 (by rw [e, q]; rfl)
  have a8 : x.toNatClampNeg ≠ 8 := fun q => h8 (by rw [e, q]; rfl)
  have a9 : x.toNatClampNeg ≠ 9 := fun q => h9 (by rw [e, q]; rfl)
  have a10 : x.toNatClampNeg ≠ 10 := fun q => h10 (by rw [e, q]; rfl)
  omega
theorem dX5_of_0 : decode cX5_of 0 = .ok (.aload_n 0, 1) := by decide +kernel
theorem dX5_of_1 : decode cX5_of 1 = .ok (.iload_n 1, 1) := by decide +kernel
theorem dX5_of_2 : decode cX5_of 2 = .ok (.invokevirtual 109, 3) := by decide +kernel
theorem dX5_of_5 : decode cX5_of 5 = .ok (.ifCond .eq 13, 3) := by decide +kernel
theorem dX5_of_8 : decode cX5_of 8 = .ok (.iload_n 2, 1) := by decide +kernel
theorem dX5_of_9 : decode cX5_of 9 = .ok (.iconst 0, 1) := by decide +kernel
theorem dX5_of_10 : decode cX5_of 10 = .ok (.bipush 10, 2) := by decide +kernel
theorem dX5_of_12 : decode cX5_of 12 = .ok (.invokestatic 48, 3) := by decide +kernel
theorem dX5_of_15 : decode cX5_of 15 = .ok (.ifCond .ne 9, 3) := by decide +kernel
theorem dX5_of_18 : decode cX5_of 18 = .ok (.aload_n 0, 1) := by decide +kernel
theorem dX5_of_19 : decode cX5_of 19 = .ok (.iconst 0, 1) := by decide +kernel
theorem dX5_of_20 : decode cX5_of 20 = .ok (.invokevirtual 103, 3) := by decide +kernel
theorem dX5_of_23 : decode cX5_of 23 = .ok (.ireturn, 1) := by decide +kernel
theorem dX5_of_24 : decode cX5_of 24 = .ok (.iload_n 2, 1) := by decide +kernel
theorem dX5_of_25 : decode cX5_of 25 = .ok (.tableswitch 55 7 10 #[31, 37, 43, 49], 31) := by decide +kernel
theorem dX5_of_56 : decode cX5_of 56 = .ok (.aload_n 0, 1) := by decide +kernel
theorem dX5_of_57 : decode cX5_of 57 = .ok (.iload_n 1, 1) := by decide +kernel
theorem dX5_of_58 : decode cX5_of 58 = .ok (.invokevirtual 75, 3) := by decide +kernel
theorem dX5_of_61 : decode cX5_of 61 = .ok (.ireturn, 1) := by decide +kernel
theorem dX5_of_62 : decode cX5_of 62 = .ok (.aload_n 0, 1) := by decide +kernel
theorem dX5_of_63 : decode cX5_of 63 = .ok (.iload_n 1, 1) := by decide +kernel
theorem dX5_of_64 : decode cX5_of 64 = .ok (.invokevirtual 78, 3) := by decide +kernel
theorem dX5_of_67 : decode cX5_of 67 = .ok (.ireturn, 1) := by decide +kernel
theorem dX5_of_68 : decode cX5_of 68 = .ok (.aload_n 0, 1) := by decide +kernel
theorem dX5_of_69 : decode cX5_of 69 = .ok (.iload_n 1, 1) := by decide +kernel
theorem dX5_of_70 : decode cX5_of 70 = .ok (.invokevirtual 65, 3) := by decide +kernel
theorem dX5_of_73 : decode cX5_of 73 = .ok (.ireturn, 1) := by decide +kernel
theorem dX5_of_74 : decode cX5_of 74 = .ok (.aload_n 0, 1) := by decide +kernel
theorem dX5_of_75 : decode cX5_of 75 = .ok (.iload_n 1, 1) := by decide +kernel
theorem dX5_of_76 : decode cX5_of 76 = .ok (.invokevirtual 72, 3) := by decide +kernel
theorem dX5_of_79 : decode cX5_of 79 = .ok (.ireturn, 1) := by decide +kernel
theorem dX5_of_80 : decode cX5_of 80 = .ok (.aload_n 0, 1) := by decide +kernel
theorem dX5_of_81 : decode cX5_of 81 = .ok (.iload_n 1, 1) := by decide +kernel
theorem dX5_of_82 : decode cX5_of 82 = .ok (.iload_n 2, 1) := by decide +kernel
theorem dX5_of_83 : decode cX5_of 83 = .ok (.invokevirtual 52, 3) := by decide +kernel
theorem dX5_of_86 : decode cX5_of 86 = .ok (.ireturn, 1) := by decide +kernel
set_option maxRecDepth 20000 in
set_option maxHeartbeats 4000000 in
theorem c_X5_of {K : Cx} {p x : Int32} {n8 : Nat} {m : TM} (hI : Iv n8 (m.1 50)) : CT yX5_of cX5_of 3 (some .int) 2 44 K [.ref 49, .int p, .int x] (m) (some (.int ((if (outI p 0 (m.1 50 1 - 1) || outI x 0 10) = true then (-1000001) else tld (m.1 50) (cl p) x)))) ((if (outI p 0 (m.1 50 1 - 1) || outI x 0 10) = true then fnm m 0 else m)) := by
  refine ct_ofd (n := 0) (by decide +kernel) rfl rfl ?_
  show XX RX5 cX5_of 3 (some .int) 2 44 K 0 [some (.ref 49), some (.int p), some (.int x)] [] (m) (fun r1 m1 => r1 = (some (.int ((if (outI p 0 (m.1 50 1 - 1) || outI x 0 10) = true then (-1000001) else tld (m.1 50) (cl p) x)))) ∧ m1 = (if (outI p 0 (m.1 50 1 - 1) || outI x 0 10) = true then fnm m 0 else m))
  refine x_aload_n (q := 1) dX5_of_0 rfl rfl ?_
  refine x_iload_n (q := 2) dX5_of_1 rfl rfl ?_
  refine x_callV1v (q := 5) dX5_of_2 rfl ml_X5_109 mv_X5_isParcel rv5 rfl c_X5_isParcel (Nat.le_of_ble_eq_true rfl) ⟨by decide, by decide⟩ ?_
  refine x_ifB_eq (q := 8) (t := 18) dX5_of_5 rfl (by decide) (fun h5 => ?_) (fun h5 => ?_)
  · replace h5 := in_f h5
    refine x_aload_n (q := 19) dX5_of_18 rfl rfl ?_
    refine x_iconst (q := 20) (v := 0) dX5_of_19 rfl (by decide) ?_
    refine x_callV1v (q := 23) dX5_of_20 rfl ml_X5_103 mv_X5_no rv5 rfl (c_X5_nox (w := 0) (x := -1000001) (by decide) (by decide)) (Nat.le_of_ble_eq_true rfl) ⟨by decide, by decide⟩ ?_
    refine x_ireturn dX5_of_23 rfl rfl ?_
    exact ⟨by simp [h5], by simp [h5]⟩
  replace h5 := in_t h5
  refine x_iload_n (q := 9) dX5_of_8 rfl rfl ?_
  refine x_iconst (q := 10) (v := 0) dX5_of_9 rfl (by decide) ?_
  refine x_bipush (q := 12) (v := 10) dX5_of_10 rfl (by decide) ?_
  refine x_callS3v (q := 15) dX5_of_12 rfl ml_X5_48 ms_X5_in1 c_X5_in1 (Nat.le_of_ble_eq_true rfl) ⟨by decide, by decide⟩ ?_
  refine x_ifB_ne (q := 18) (t := 24) dX5_of_15 rfl (by decide) (fun h15 => ?_) (fun h15 => ?_)
  · replace h15 := in_t h15
    obtain ⟨k, hk, rfl⟩ : ∃ k, k < n8 ∧ p = nI k := ⟨cl p, (par_k hI.2.1 hI.1 h5).2, par_nI hI.2.1 hI.1 h5⟩
    have hk8 : k < 8 := by have := hI.1; omega
    have ek : cl (nI k) = k := jnI_clamp (by omega)
    refine x_iload_n (q := 25) dX5_of_24 rfl rfl ?_
    by_cases h25_7 : x = 7
    · refine x_tswC (q := 56) (k := 7) dX5_of_25 h25_7 (by decide) (by decide) rfl (by decide) ?_
      refine x_aload_n (q := 57) dX5_of_56 rfl rfl ?_
      refine x_iload_n (q := 58) dX5_of_57 rfl rfl ?_
      refine x_callV1v (q := 61) dX5_of_58 rfl ml_X5_75 mv_X5_movesOf rv5 rfl (p_X5_movesOf hk8) (Nat.le_of_ble_eq_true rfl) ⟨by decide, by decide⟩ ?_
      refine x_ireturn dX5_of_61 rfl rfl ?_
      refine ⟨?_, by simp [h5, h15]⟩
      rw [if_neg (by rw [h5, h15]; decide), ek]
      obtain ⟨c, hc, ec⟩ := (hI.2.2.2.2.1 k hk).2
      rw [ec, mv_eq hc, h25_7, ← ec]
      rfl
    by_cases h25_8 : x = 8
    · refine x_tswC (q := 62) (k := 8) dX5_of_25 h25_8 (by decide) (by decide) rfl (by decide) ?_
      refine x_aload_n (q := 63) dX5_of_62 rfl rfl ?_
      refine x_iload_n (q := 64) dX5_of_63 rfl rfl ?_
      refine x_callV1v (q := 67) dX5_of_64 rfl ml_X5_78 mv_X5_lastsOf rv5 rfl (p_X5_lastsOf hk8) (Nat.le_of_ble_eq_true rfl) ⟨by decide, by decide⟩ ?_
      refine x_ireturn dX5_of_67 rfl rfl ?_
      refine ⟨?_, by simp [h5, h15]⟩
      rw [if_neg (by rw [h5, h15]; decide), ek]
      rw [h25_8]
      rfl
    by_cases h25_9 : x = 9
    · refine x_tswC (q := 68) (k := 9) dX5_of_25 h25_9 (by decide) (by decide) rfl (by decide) ?_
      refine x_aload_n (q := 69) dX5_of_68 rfl rfl ?_
      refine x_iload_n (q := 70) dX5_of_69 rfl rfl ?_
      refine x_callV1v (q := 73) dX5_of_70 rfl ml_X5_65 mv_X5_paysOf rv5 rfl (p_X5_paysOf hk8) (Nat.le_of_ble_eq_true rfl) ⟨by decide, by decide⟩ ?_
      refine x_ireturn dX5_of_73 rfl rfl ?_
      refine ⟨?_, by simp [h5, h15]⟩
      rw [if_neg (by rw [h5, h15]; decide), ek]
      rw [h25_9]
      rfl
    by_cases h25_10 : x = 10
    · refine x_tswC (q := 74) (k := 10) dX5_of_25 h25_10 (by decide) (by decide) rfl (by decide) ?_
      refine x_aload_n (q := 75) dX5_of_74 rfl rfl ?_
      refine x_iload_n (q := 76) dX5_of_75 rfl rfl ?_
      refine x_callV1v (q := 79) dX5_of_76 rfl ml_X5_72 mv_X5_delaysOf rv5 rfl (p_X5_delaysOf hk8) (Nat.le_of_ble_eq_true rfl) ⟨by decide, by decide⟩ ?_
      refine x_ireturn dX5_of_79 rfl rfl ?_
      refine ⟨?_, by simp [h5, h15]⟩
      rw [if_neg (by rw [h5, h15]; decide), ek]
      rw [h25_10]
      rfl
    refine x_tswD (q := 80) dX5_of_25 (by have n7 := lv_neT h25_7 (a := 7) (by decide); have n8 := lv_neT h25_8 (a := 8) (by decide); have n9 := lv_neT h25_9 (a := 9) (by decide); have n10 := lv_neT h25_10 (a := 10) (by decide); omega) (by decide) ?_
    obtain ⟨c, hc, rfl⟩ := of_small h15 h25_7 h25_8 h25_9 h25_10
    refine x_aload_n (q := 81) dX5_of_80 rfl rfl ?_
    refine x_iload_n (q := 82) dX5_of_81 rfl rfl ?_
    refine x_iload_n (q := 83) dX5_of_82 rfl rfl ?_
    refine x_callV2v (q := 86) dX5_of_83 rfl ml_X5_52 mv_X5_get rv5 rfl (c_X5_get hk8 hc) (Nat.le_of_ble_eq_true rfl) ⟨by decide, by decide⟩ ?_
    refine x_ireturn dX5_of_86 rfl rfl ?_
    refine ⟨?_, by simp [h5, h15]⟩
    rw [if_neg (by rw [h5, h15]; decide), ek]
    rw [tld_get c hc]
  replace h15 := in_f h15
  refine x_aload_n (q := 19) dX5_of_18 rfl rfl ?_
  refine x_iconst (q := 20) (v := 0) dX5_of_19 rfl (by decide) ?_
  refine x_callV1v (q := 23) dX5_of_20 rfl ml_X5_103 mv_X5_no rv5 rfl (c_X5_nox (w := 0) (x := -1000001) (by decide) (by decide)) (Nat.le_of_ble_eq_true rfl) ⟨by decide, by decide⟩ ?_
  refine x_ireturn dX5_of_23 rfl rfl ?_
  exact ⟨by simp [h5, h15], by simp [h5, h15]⟩
theorem out6 {x : Int32} (h : outI x 0 6 = false) : ∃ c, c < 7 ∧ x = nI c := by
  have hk := (ix_out h (n := 7) (by decide))
  exact ⟨x.toNatClampNeg, hk.2.2, jnI_of hk.1⟩
theorem lst_2 {x : Int32} (h : x = 2) : lst x = 1 := if_pos h
theorem lst_n {x : Int32} (h : ¬ x = 2) : lst x = 0 := if_neg h
theorem dX5_change_0 : decode cX5_change 0 = .ok (.aload_n 0, 1) := by decide +kernel
theorem dX5_change_1 : decode cX5_change 1 = .ok (.iload_n 1, 1) := by decide +kernel
theorem dX5_change_2 : decode cX5_change 2 = .ok (.invokevirtual 109, 3) := by decide +kernel
theorem dX5_change_5 : decode cX5_change 5 = .ok (.ifCond .eq 34, 3) := by decide +kernel
theorem dX5_change_8 : decode cX5_change 8 = .ok (.iload_n 2, 1) := by decide +kernel
theorem dX5_change_9 : decode cX5_change 9 = .ok (.iconst 0, 1) := by decide +kernel
theorem dX5_change_10 : decode cX5_change 10 = .ok (.bipush 6, 2) := by decide +kernel
theorem dX5_change_12 : decode cX5_change 12 = .ok (.invokestatic 48, 3) := by decide +kernel
theorem dX5_change_15 : decode cX5_change 15 = .ok (.ifCond .eq 24, 3) := by decide +kernel
theorem dX5_change_18 : decode cX5_change 18 = .ok (.iload_n 3, 1) := by decide +kernel
theorem dX5_change_19 : decode cX5_change 19 = .ok (.iload_n 2, 1) := by decide +kernel
theorem dX5_change_20 : decode cX5_change 20 = .ok (.iconst 2, 1) := by decide +kernel
theorem dX5_change_21 : decode cX5_change 21 = .ok (.if_icmp .ne 7, 3) := by decide +kernel
theorem dX5_change_24 : decode cX5_change 24 = .ok (.iconst 1, 1) := by decide +kernel
theorem dX5_change_25 : decode cX5_change 25 = .ok (.goto 4, 3) := by decide +kernel
theorem dX5_change_28 : decode cX5_change 28 = .ok (.iconst 0, 1) := by decide +kernel
theorem dX5_change_29 : decode cX5_change 29 = .ok (.iload_n 2, 1) := by decide +kernel
theorem dX5_change_30 : decode cX5_change 30 = .ok (.invokestatic 112, 3) := by decide +kernel
theorem dX5_change_33 : decode cX5_change 33 = .ok (.invokestatic 48, 3) := by decide +kernel
theorem dX5_change_36 : decode cX5_change 36 = .ok (.ifCond .ne 9, 3) := by decide +kernel
theorem dX5_change_39 : decode cX5_change 39 = .ok (.aload_n 0, 1) := by decide +kernel
theorem dX5_change_40 : decode cX5_change 40 = .ok (.iconst 0, 1) := by decide +kernel
theorem dX5_change_41 : decode cX5_change 41 = .ok (.invokevirtual 103, 3) := by decide +kernel
theorem dX5_change_44 : decode cX5_change 44 = .ok (.ireturn, 1) := by decide +kernel
theorem dX5_change_45 : decode cX5_change 45 = .ok (.aload_n 0, 1) := by decide +kernel
theorem dX5_change_46 : decode cX5_change 46 = .ok (.iload_n 1, 1) := by decide +kernel
theorem dX5_change_47 : decode cX5_change 47 = .ok (.iload_n 2, 1) := by decide +kernel
theorem dX5_change_48 : decode cX5_change 48 = .ok (.invokevirtual 52, 3) := by decide +kernel
theorem dX5_change_51 : decode cX5_change 51 = .ok (.istore 4, 2) := by decide +kernel
theorem dX5_change_53 : decode cX5_change 53 = .ok (.aload_n 0, 1) := by decide +kernel
theorem dX5_change_54 : decode cX5_change 54 = .ok (.iload_n 1, 1) := by decide +kernel
theorem dX5_change_55 : decode cX5_change 55 = .ok (.iload_n 2, 1) := by decide +kernel
theorem dX5_change_56 : decode cX5_change 56 = .ok (.iload_n 3, 1) := by decide +kernel
theorem dX5_change_57 : decode cX5_change 57 = .ok (.invokevirtual 60, 3) := by decide +kernel
theorem dX5_change_60 : decode cX5_change 60 = .ok (.iload 4, 2) := by decide +kernel
theorem dX5_change_62 : decode cX5_change 62 = .ok (.ireturn, 1) := by decide +kernel
set_option maxRecDepth 20000 in
set_option maxHeartbeats 4000000 in
theorem c_X5_change {K : Cx} {p x v : Int32} {n8 : Nat} {m : TM} (hI : Iv n8 (m.1 50)) : CT yX5_change cX5_change 5 (some .int) 2 43 K [.ref 49, .int p, .int x, .int v] (m) (some (.int ((if (outI p 0 (m.1 50 1 - 1) || outI x 0 6 || outI v (lst x) (mst x)) = true then (-1000001) else tld (m.1 50) (cl p) x)))) ((if (outI p 0 (m.1 50 1 - 1) || outI x 0 6 || outI v (lst x) (mst x)) = true then fnm m 0 else sr m 50 (ptF (m.1 50) (cl p) x v))) := by
  refine ct_ofd (n := 1) (by decide +kernel) rfl rfl ?_
  show XX RX5 cX5_change 5 (some .int) 2 43 K 0 [some (.ref 49), some (.int p), some (.int x), some (.int v), none] [] (m) (fun r1 m1 => r1 = (some (.int ((if (outI p 0 (m.1 50 1 - 1) || outI x 0 6 || outI v (lst x) (mst x)) = true then (-1000001) else tld (m.1 50) (cl p) x)))) ∧ m1 = (if (outI p 0 (m.1 50 1 - 1) || outI x 0 6 || outI v (lst x) (mst x)) = true then fnm m 0 else sr m 50 (ptF (m.1 50) (cl p) x v)))
  refine x_aload_n (q := 1) dX5_change_0 rfl rfl ?_
  refine x_iload_n (q := 2) dX5_change_1 rfl rfl ?_
  refine x_callV1v (q := 5) dX5_change_2 rfl ml_X5_109 mv_X5_isParcel rv5 rfl c_X5_isParcel (Nat.le_of_ble_eq_true rfl) ⟨by decide, by decide⟩ ?_
  refine x_ifB_eq (q := 8) (t := 39) dX5_change_5 rfl (by decide) (fun h5 => ?_) (fun h5 => ?_)
  · replace h5 := in_f h5
    refine x_aload_n (q := 40) dX5_change_39 rfl rfl ?_
    refine x_iconst (q := 41) (v := 0) dX5_change_40 rfl (by decide) ?_
    refine x_callV1v (q := 44) dX5_change_41 rfl ml_X5_103 mv_X5_no rv5 rfl (c_X5_nox (w := 0) (x := -1000001) (by decide) (by decide)) (Nat.le_of_ble_eq_true rfl) ⟨by decide, by decide⟩ ?_
    refine x_ireturn dX5_change_44 rfl rfl ?_
    exact ⟨by simp [h5], by simp [h5]⟩
  replace h5 := in_t h5
  refine x_iload_n (q := 9) dX5_change_8 rfl rfl ?_
  refine x_iconst (q := 10) (v := 0) dX5_change_9 rfl (by decide) ?_
  refine x_bipush (q := 12) (v := 6) dX5_change_10 rfl (by decide) ?_
  refine x_callS3v (q := 15) dX5_change_12 rfl ml_X5_48 ms_X5_in1 c_X5_in1 (Nat.le_of_ble_eq_true rfl) ⟨by decide, by decide⟩ ?_
  refine x_ifB_eq (q := 18) (t := 39) dX5_change_15 rfl (by decide) (fun h15 => ?_) (fun h15 => ?_)
  · replace h15 := in_f h15
    refine x_aload_n (q := 40) dX5_change_39 rfl rfl ?_
    refine x_iconst (q := 41) (v := 0) dX5_change_40 rfl (by decide) ?_
    refine x_callV1v (q := 44) dX5_change_41 rfl ml_X5_103 mv_X5_no rv5 rfl (c_X5_nox (w := 0) (x := -1000001) (by decide) (by decide)) (Nat.le_of_ble_eq_true rfl) ⟨by decide, by decide⟩ ?_
    refine x_ireturn dX5_change_44 rfl rfl ?_
    exact ⟨by simp [h5, h15], by simp [h5, h15]⟩
  replace h15 := in_t h15
  refine x_iload_n (q := 19) dX5_change_18 rfl rfl ?_
  refine x_iload_n (q := 20) dX5_change_19 rfl rfl ?_
  refine x_iconst (q := 21) (v := 2) dX5_change_20 rfl (by decide) ?_
  refine x_icmp_ne (q := 24) (t := 28) dX5_change_21 rfl (by decide) (fun h21 => ?_) (fun h21 => ?_)
  · refine x_iconst (q := 29) (v := 0) dX5_change_28 rfl (by decide) ?_
    refine x_iload_n (q := 30) dX5_change_29 rfl rfl ?_
    refine x_callS1v (q := 33) dX5_change_30 rfl ml_X5_112 ms_X5_mostOf c_X5_mostOf (Nat.le_of_ble_eq_true rfl) ⟨by decide, by decide⟩ ?_
    refine x_callS3v (q := 36) dX5_change_33 rfl ml_X5_48 ms_X5_in1 c_X5_in1 (Nat.le_of_ble_eq_true rfl) ⟨by decide, by decide⟩ ?_
    refine x_ifB_ne (q := 39) (t := 45) dX5_change_36 rfl (by decide) (fun h36 => ?_) (fun h36 => ?_)
    · replace h36 := in_t h36
      obtain ⟨k, hk, rfl⟩ : ∃ k, k < n8 ∧ p = nI k := ⟨cl p, (par_k hI.2.1 hI.1 h5).2, par_nI hI.2.1 hI.1 h5⟩
      have hk8 : k < 8 := by have := hI.1; omega
      have ek : cl (nI k) = k := jnI_clamp (by omega)
      obtain ⟨c, hc, rfl⟩ := out6 h15
      refine x_aload_n (q := 46) dX5_change_45 rfl rfl ?_
      refine x_iload_n (q := 47) dX5_change_46 rfl rfl ?_
      refine x_iload_n (q := 48) dX5_change_47 rfl rfl ?_
      refine x_callV2v (q := 51) dX5_change_48 rfl ml_X5_52 mv_X5_get rv5 rfl (c_X5_get hk8 hc) (Nat.le_of_ble_eq_true rfl) ⟨by decide, by decide⟩ ?_
      refine x_istore (q := 53) dX5_change_51 rfl (by decide) rfl rfl ?_
      refine x_aload_n (q := 54) dX5_change_53 rfl rfl ?_
      refine x_iload_n (q := 55) dX5_change_54 rfl rfl ?_
      refine x_iload_n (q := 56) dX5_change_55 rfl rfl ?_
      refine x_iload_n (q := 57) dX5_change_56 rfl rfl ?_
      refine x_callV3n (q := 60) dX5_change_57 rfl ml_X5_60 mv_X5_puts rv5 rfl (c_X5_puts hk8 hc) (Nat.le_of_ble_eq_true rfl) ⟨by decide, by decide⟩ ?_
      refine x_iload (q := 62) dX5_change_60 rfl rfl ?_
      refine x_ireturn dX5_change_62 rfl rfl ?_
      have hl : lst (nI c) = 0 := lst_n h21
      refine ⟨?_, ?_⟩
      · rw [if_neg (by rw [h5, h15, hl, h36]; decide), ek, tld_get c hc]
      · rw [if_neg (by rw [h5, h15, hl, h36]; decide), ek, ptF_get c hc, st1_eq]
    replace h36 := in_f h36
    refine x_aload_n (q := 40) dX5_change_39 rfl rfl ?_
    refine x_iconst (q := 41) (v := 0) dX5_change_40 rfl (by decide) ?_
    refine x_callV1v (q := 44) dX5_change_41 rfl ml_X5_103 mv_X5_no rv5 rfl (c_X5_nox (w := 0) (x := -1000001) (by decide) (by decide)) (Nat.le_of_ble_eq_true rfl) ⟨by decide, by decide⟩ ?_
    refine x_ireturn dX5_change_44 rfl rfl ?_
    exact ⟨by simp [h5, h15, h36, lst_n h21], by simp [h5, h15, h36, lst_n h21]⟩
  refine x_iconst (q := 25) (v := 1) dX5_change_24 rfl (by decide) ?_
  refine x_goto (q := 29) dX5_change_25 (by decide) ?_
  refine x_iload_n (q := 30) dX5_change_29 rfl rfl ?_
  refine x_callS1v (q := 33) dX5_change_30 rfl ml_X5_112 ms_X5_mostOf c_X5_mostOf (Nat.le_of_ble_eq_true rfl) ⟨by decide, by decide⟩ ?_
  refine x_callS3v (q := 36) dX5_change_33 rfl ml_X5_48 ms_X5_in1 c_X5_in1 (Nat.le_of_ble_eq_true rfl) ⟨by decide, by decide⟩ ?_
  refine x_ifB_ne (q := 39) (t := 45) dX5_change_36 rfl (by decide) (fun h36 => ?_) (fun h36 => ?_)
  · replace h36 := in_t h36
    obtain ⟨k, hk, rfl⟩ : ∃ k, k < n8 ∧ p = nI k := ⟨cl p, (par_k hI.2.1 hI.1 h5).2, par_nI hI.2.1 hI.1 h5⟩
    have hk8 : k < 8 := by have := hI.1; omega
    have ek : cl (nI k) = k := jnI_clamp (by omega)
    obtain ⟨c, hc, rfl⟩ := out6 h15
    refine x_aload_n (q := 46) dX5_change_45 rfl rfl ?_
    refine x_iload_n (q := 47) dX5_change_46 rfl rfl ?_
    refine x_iload_n (q := 48) dX5_change_47 rfl rfl ?_
    refine x_callV2v (q := 51) dX5_change_48 rfl ml_X5_52 mv_X5_get rv5 rfl (c_X5_get hk8 hc) (Nat.le_of_ble_eq_true rfl) ⟨by decide, by decide⟩ ?_
    refine x_istore (q := 53) dX5_change_51 rfl (by decide) rfl rfl ?_
    refine x_aload_n (q := 54) dX5_change_53 rfl rfl ?_
    refine x_iload_n (q := 55) dX5_change_54 rfl rfl ?_
    refine x_iload_n (q := 56) dX5_change_55 rfl rfl ?_
    refine x_iload_n (q := 57) dX5_change_56 rfl rfl ?_
    refine x_callV3n (q := 60) dX5_change_57 rfl ml_X5_60 mv_X5_puts rv5 rfl (c_X5_puts hk8 hc) (Nat.le_of_ble_eq_true rfl) ⟨by decide, by decide⟩ ?_
    refine x_iload (q := 62) dX5_change_60 rfl rfl ?_
    refine x_ireturn dX5_change_62 rfl rfl ?_
    have hl : lst (nI c) = 1 := lst_2 h21
    refine ⟨?_, ?_⟩
    · rw [if_neg (by rw [h5, h15, hl, h36]; decide), ek, tld_get c hc]
    · rw [if_neg (by rw [h5, h15, hl, h36]; decide), ek, ptF_get c hc, st1_eq]
  replace h36 := in_f h36
  refine x_aload_n (q := 40) dX5_change_39 rfl rfl ?_
  refine x_iconst (q := 41) (v := 0) dX5_change_40 rfl (by decide) ?_
  refine x_callV1v (q := 44) dX5_change_41 rfl ml_X5_103 mv_X5_no rv5 rfl (c_X5_nox (w := 0) (x := -1000001) (by decide) (by decide)) (Nat.le_of_ble_eq_true rfl) ⟨by decide, by decide⟩ ?_
  refine x_ireturn dX5_change_44 rfl rfl ?_
  exact ⟨by simp [h5, h15, h36, lst_2 h21], by simp [h5, h15, h36, lst_2 h21]⟩
theorem dX5_signs_0 : decode cX5_signs 0 = .ok (.aload_n 0, 1) := by decide +kernel
theorem dX5_signs_1 : decode cX5_signs 1 = .ok (.iload_n 1, 1) := by decide +kernel
theorem dX5_signs_2 : decode cX5_signs 2 = .ok (.invokevirtual 109, 3) := by decide +kernel
theorem dX5_signs_5 : decode cX5_signs 5 = .ok (.ifCond .eq 13, 3) := by decide +kernel
theorem dX5_signs_8 : decode cX5_signs 8 = .ok (.iload_n 2, 1) := by decide +kernel
theorem dX5_signs_9 : decode cX5_signs 9 = .ok (.iconst 0, 1) := by decide +kernel
theorem dX5_signs_10 : decode cX5_signs 10 = .ok (.bipush 29, 2) := by decide +kernel
theorem dX5_signs_12 : decode cX5_signs 12 = .ok (.invokestatic 48, 3) := by decide +kernel
theorem dX5_signs_15 : decode cX5_signs 15 = .ok (.ifCond .ne 11, 3) := by decide +kernel
theorem dX5_signs_18 : decode cX5_signs 18 = .ok (.aload_n 0, 1) := by decide +kernel
theorem dX5_signs_19 : decode cX5_signs 19 = .ok (.iconst 0, 1) := by decide +kernel
theorem dX5_signs_20 : decode cX5_signs 20 = .ok (.invokevirtual 103, 3) := by decide +kernel
theorem dX5_signs_23 : decode cX5_signs 23 = .ok (.goto 17, 3) := by decide +kernel
theorem dX5_signs_26 : decode cX5_signs 26 = .ok (.aload_n 0, 1) := by decide +kernel
theorem dX5_signs_27 : decode cX5_signs 27 = .ok (.iload_n 1, 1) := by decide +kernel
theorem dX5_signs_28 : decode cX5_signs 28 = .ok (.iload_n 2, 1) := by decide +kernel
theorem dX5_signs_29 : decode cX5_signs 29 = .ok (.invokevirtual 56, 3) := by decide +kernel
theorem dX5_signs_32 : decode cX5_signs 32 = .ok (.ifCond .eq 7, 3) := by decide +kernel
theorem dX5_signs_35 : decode cX5_signs 35 = .ok (.iconst 1, 1) := by decide +kernel
theorem dX5_signs_36 : decode cX5_signs 36 = .ok (.goto 4, 3) := by decide +kernel
theorem dX5_signs_39 : decode cX5_signs 39 = .ok (.iconst 0, 1) := by decide +kernel
theorem dX5_signs_40 : decode cX5_signs 40 = .ok (.ireturn, 1) := by decide +kernel
set_option maxRecDepth 20000 in
set_option maxHeartbeats 4000000 in
theorem c_X5_signs {K : Cx} {p t : Int32} {n8 : Nat} {m : TM} (hI : Iv n8 (m.1 50)) : CT yX5_signs cX5_signs 3 (some .int) 2 47 K [.ref 49, .int p, .int t] (m) (some (.int ((if (outI p 0 (m.1 50 1 - 1) || outI t 0 29) = true then (-1000001) else bI (sg (m.1 50 (12 + 7 * cl p + 0)) (m.1 50 (12 + 7 * cl p + 1)) (m.1 50 (12 + 7 * cl p + 2)) (m.1 50 (12 + 7 * cl p + 6)) (m.1 50 0) t))))) ((if (outI p 0 (m.1 50 1 - 1) || outI t 0 29) = true then fnm m 0 else m)) := by
  refine ct_ofd (n := 0) (by decide +kernel) rfl rfl ?_
  show XX RX5 cX5_signs 3 (some .int) 2 47 K 0 [some (.ref 49), some (.int p), some (.int t)] [] (m) (fun r1 m1 => r1 = (some (.int ((if (outI p 0 (m.1 50 1 - 1) || outI t 0 29) = true then (-1000001) else bI (sg (m.1 50 (12 + 7 * cl p + 0)) (m.1 50 (12 + 7 * cl p + 1)) (m.1 50 (12 + 7 * cl p + 2)) (m.1 50 (12 + 7 * cl p + 6)) (m.1 50 0) t))))) ∧ m1 = (if (outI p 0 (m.1 50 1 - 1) || outI t 0 29) = true then fnm m 0 else m))
  refine x_aload_n (q := 1) dX5_signs_0 rfl rfl ?_
  refine x_iload_n (q := 2) dX5_signs_1 rfl rfl ?_
  refine x_callV1v (q := 5) dX5_signs_2 rfl ml_X5_109 mv_X5_isParcel rv5 rfl c_X5_isParcel (Nat.le_of_ble_eq_true rfl) ⟨by decide, by decide⟩ ?_
  refine x_ifB_eq (q := 8) (t := 18) dX5_signs_5 rfl (by decide) (fun h5 => ?_) (fun h5 => ?_)
  · replace h5 := in_f h5
    refine x_aload_n (q := 19) dX5_signs_18 rfl rfl ?_
    refine x_iconst (q := 20) (v := 0) dX5_signs_19 rfl (by decide) ?_
    refine x_callV1v (q := 23) dX5_signs_20 rfl ml_X5_103 mv_X5_no rv5 rfl (c_X5_nox (w := 0) (x := -1000001) (by decide) (by decide)) (Nat.le_of_ble_eq_true rfl) ⟨by decide, by decide⟩ ?_
    refine x_goto (q := 40) dX5_signs_23 (by decide) ?_
    refine x_ireturn dX5_signs_40 rfl rfl ?_
    exact ⟨by simp [h5], by simp [h5]⟩
  replace h5 := in_t h5
  refine x_iload_n (q := 9) dX5_signs_8 rfl rfl ?_
  refine x_iconst (q := 10) (v := 0) dX5_signs_9 rfl (by decide) ?_
  refine x_bipush (q := 12) (v := 29) dX5_signs_10 rfl (by decide) ?_
  refine x_callS3v (q := 15) dX5_signs_12 rfl ml_X5_48 ms_X5_in1 c_X5_in1 (Nat.le_of_ble_eq_true rfl) ⟨by decide, by decide⟩ ?_
  refine x_ifB_ne (q := 18) (t := 26) dX5_signs_15 rfl (by decide) (fun h15 => ?_) (fun h15 => ?_)
  · replace h15 := in_t h15
    obtain ⟨k, hk, rfl⟩ : ∃ k, k < n8 ∧ p = nI k := ⟨cl p, (par_k hI.2.1 hI.1 h5).2, par_nI hI.2.1 hI.1 h5⟩
    have hk8 : k < 8 := by have := hI.1; omega
    have ek : cl (nI k) = k := jnI_clamp (by omega)
    refine x_aload_n (q := 27) dX5_signs_26 rfl rfl ?_
    refine x_iload_n (q := 28) dX5_signs_27 rfl rfl ?_
    refine x_iload_n (q := 29) dX5_signs_28 rfl rfl ?_
    refine x_callV2v (q := 32) dX5_signs_29 rfl ml_X5_56 mv_X5_isSigned rv5 rfl (p_X5_isSigned hk8) (Nat.le_of_ble_eq_true rfl) ⟨by decide, by decide⟩ ?_
    refine x_ifB_eq (q := 35) (t := 39) dX5_signs_32 rfl (by decide) (fun h32 => ?_) (fun h32 => ?_)
    · refine x_iconst (q := 40) (v := 0) dX5_signs_39 rfl (by decide) ?_
      refine x_ireturn dX5_signs_40 rfl rfl ?_
      exact ⟨by rw [if_neg (by rw [h5, h15]; decide), ek, h32]; rfl, by simp [h5, h15]⟩
    refine x_iconst (q := 36) (v := 1) dX5_signs_35 rfl (by decide) ?_
    refine x_goto (q := 40) dX5_signs_36 (by decide) ?_
    refine x_ireturn dX5_signs_40 rfl rfl ?_
    exact ⟨by rw [if_neg (by rw [h5, h15]; decide), ek, h32]; rfl, by simp [h5, h15]⟩
  replace h15 := in_f h15
  refine x_aload_n (q := 19) dX5_signs_18 rfl rfl ?_
  refine x_iconst (q := 20) (v := 0) dX5_signs_19 rfl (by decide) ?_
  refine x_callV1v (q := 23) dX5_signs_20 rfl ml_X5_103 mv_X5_no rv5 rfl (c_X5_nox (w := 0) (x := -1000001) (by decide) (by decide)) (Nat.le_of_ble_eq_true rfl) ⟨by decide, by decide⟩ ?_
  refine x_goto (q := 40) dX5_signs_23 (by decide) ?_
  refine x_ireturn dX5_signs_40 rfl rfl ?_
  exact ⟨by simp [h5, h15], by simp [h5, h15]⟩
theorem dX5_onLine_0 : decode cX5_onLine 0 = .ok (.iload_n 1, 1) := by decide +kernel
theorem dX5_onLine_1 : decode cX5_onLine 1 = .ok (.invokestatic 100, 3) := by decide +kernel
theorem dX5_onLine_4 : decode cX5_onLine 4 = .ok (.ifCond .ne 9, 3) := by decide +kernel
theorem dX5_onLine_7 : decode cX5_onLine 7 = .ok (.aload_n 0, 1) := by decide +kernel
theorem dX5_onLine_8 : decode cX5_onLine 8 = .ok (.iconst 0, 1) := by decide +kernel
theorem dX5_onLine_9 : decode cX5_onLine 9 = .ok (.invokevirtual 103, 3) := by decide +kernel
theorem dX5_onLine_12 : decode cX5_onLine 12 = .ok (.ireturn, 1) := by decide +kernel
theorem dX5_onLine_13 : decode cX5_onLine 13 = .ok (.iconst 0, 1) := by decide +kernel
theorem dX5_onLine_14 : decode cX5_onLine 14 = .ok (.istore_n 2, 1) := by decide +kernel
theorem dX5_onLine_15 : decode cX5_onLine 15 = .ok (.iconst 0, 1) := by decide +kernel
theorem dX5_onLine_16 : decode cX5_onLine 16 = .ok (.istore_n 3, 1) := by decide +kernel
theorem dX5_onLine_17 : decode cX5_onLine 17 = .ok (.iload_n 3, 1) := by decide +kernel
theorem dX5_onLine_18 : decode cX5_onLine 18 = .ok (.aload_n 0, 1) := by decide +kernel
theorem dX5_onLine_19 : decode cX5_onLine 19 = .ok (.getfield 9, 3) := by decide +kernel
theorem dX5_onLine_22 : decode cX5_onLine 22 = .ok (.iconst 1, 1) := by decide +kernel
theorem dX5_onLine_23 : decode cX5_onLine 23 = .ok (.iaload, 1) := by decide +kernel
theorem dX5_onLine_24 : decode cX5_onLine 24 = .ok (.if_icmp .ge 38, 3) := by decide +kernel
theorem dX5_onLine_27 : decode cX5_onLine 27 = .ok (.iload_n 2, 1) := by decide +kernel
theorem dX5_onLine_28 : decode cX5_onLine 28 = .ok (.aload_n 0, 1) := by decide +kernel
theorem dX5_onLine_29 : decode cX5_onLine 29 = .ok (.iload_n 3, 1) := by decide +kernel
theorem dX5_onLine_30 : decode cX5_onLine 30 = .ok (.iconst 4, 1) := by decide +kernel
theorem dX5_onLine_31 : decode cX5_onLine 31 = .ok (.invokevirtual 52, 3) := by decide +kernel
theorem dX5_onLine_34 : decode cX5_onLine 34 = .ok (.ifCond .ne 19, 3) := by decide +kernel
theorem dX5_onLine_37 : decode cX5_onLine 37 = .ok (.aload_n 0, 1) := by decide +kernel
theorem dX5_onLine_38 : decode cX5_onLine 38 = .ok (.iload_n 3, 1) := by decide +kernel
theorem dX5_onLine_39 : decode cX5_onLine 39 = .ok (.iconst 1, 1) := by decide +kernel
theorem dX5_onLine_40 : decode cX5_onLine 40 = .ok (.invokevirtual 52, 3) := by decide +kernel
theorem dX5_onLine_43 : decode cX5_onLine 43 = .ok (.iload_n 1, 1) := by decide +kernel
theorem dX5_onLine_44 : decode cX5_onLine 44 = .ok (.if_icmp .ne 9, 3) := by decide +kernel
theorem dX5_onLine_47 : decode cX5_onLine 47 = .ok (.iconst 1, 1) := by decide +kernel
theorem dX5_onLine_48 : decode cX5_onLine 48 = .ok (.iload_n 3, 1) := by decide +kernel
theorem dX5_onLine_49 : decode cX5_onLine 49 = .ok (.ishl, 1) := by decide +kernel
theorem dX5_onLine_50 : decode cX5_onLine 50 = .ok (.goto 4, 3) := by decide +kernel
theorem dX5_onLine_53 : decode cX5_onLine 53 = .ok (.iconst 0, 1) := by decide +kernel
theorem dX5_onLine_54 : decode cX5_onLine 54 = .ok (.ior, 1) := by decide +kernel
theorem dX5_onLine_55 : decode cX5_onLine 55 = .ok (.istore_n 2, 1) := by decide +kernel
theorem dX5_onLine_56 : decode cX5_onLine 56 = .ok (.iinc 3 1, 3) := by decide +kernel
theorem dX5_onLine_59 : decode cX5_onLine 59 = .ok (.goto (-42), 3) := by decide +kernel
theorem dX5_onLine_62 : decode cX5_onLine 62 = .ok (.iload_n 2, 1) := by decide +kernel
theorem dX5_onLine_63 : decode cX5_onLine 63 = .ok (.ireturn, 1) := by decide +kernel
set_option maxRecDepth 20000 in
set_option maxHeartbeats 4000000 in
theorem l_X5_onLine {K : Cx} {n8 : Nat} {x : Int32} {s : Nat → Int32} {m : TM} (hn : s 1 = nI n8) (h8 : n8 ≤ 8) : ∀ (n : Nat) (j : Nat), n8 - j < n → j ≤ n8 → XX RX5 cX5_onLine 4 (some .int) 2 42 K 17 [some (.ref 49), some (.int x), some (.int (lyF s x j)), some (.int (nI j))] [] (sr m 50 s) (fun r1 m1 => r1 = (some (.int (lyF s x n8))) ∧ m1 = sr m 50 s) := by
  intro n
  induction n with
  | zero => intro j hlt; exact absurd hlt (Nat.not_lt_zero _)
  | succ n ih =>
    intro j hlt hj
    refine x_iload_n (q := 18) dX5_onLine_17 rfl rfl ?_
    refine x_aload_n (q := 19) dX5_onLine_18 rfl rfl ?_
    refine x_getR (q := 22) dX5_onLine_19 rfl fl_X5_9 (or5_s) ?_
    refine x_iconst (q := 23) (v := 1) dX5_onLine_22 rfl (by decide) ?_
    refine x_ialdr (q := 24) dX5_onLine_23 rfl (ar_50) (ix_nI (k := 1) (by decide) (by decide)) (Nat.zero_add _) ?_
    refine x_icmp_ge (q := 27) (t := 62) dX5_onLine_24 rfl (by decide) (fun h24 => ?_) (fun h24 => ?_)
    · refine x_iload_n (q := 63) dX5_onLine_62 rfl rfl ?_
      refine x_ireturn dX5_onLine_63 rfl rfl ?_
      have e : j = n8 := Nat.le_antisymm hj (lp_stop hn (by omega) (by omega) h24)
      subst e
      exact ⟨rfl, rfl⟩
    have hjn : j < n8 := lp_go hn (by omega) (by omega) h24
    have hk : j < 8 := by omega
    refine x_iload_n (q := 28) dX5_onLine_27 rfl rfl ?_
    refine x_aload_n (q := 29) dX5_onLine_28 rfl rfl ?_
    refine x_iload_n (q := 30) dX5_onLine_29 rfl rfl ?_
    refine x_iconst (q := 31) (v := 4) dX5_onLine_30 rfl (by decide) ?_
    refine x_callV2v (q := 34) dX5_onLine_31 rfl ml_X5_52 mv_X5_get rv5 rfl (c_X5_getr (f := 4) hk (by decide)) (Nat.le_of_ble_eq_true rfl) ⟨by decide, by decide⟩ ?_
    refine x_if_ne (q := 37) (t := 53) dX5_onLine_34 rfl (by decide) (fun h34 => ?_) (fun h34 => ?_)
    · refine x_iconst (q := 54) (v := 0) dX5_onLine_53 rfl (by decide) ?_
      refine x_ior (q := 55) dX5_onLine_54 rfl ?_
      refine x_istore_n (q := 56) dX5_onLine_55 rfl (by decide) rfl rfl ?_
      refine x_iinc (q := 59) (v := nI (j + 1)) dX5_onLine_56 rfl rfl (jnI_s j) (by decide) rfl rfl ?_
      refine x_goto (q := 17) dX5_onLine_59 (by decide) ?_
      have key := ih (j + 1) (by omega) (by omega)
      simp only [lyF, h34, if_true, if_false, and_self, and_true, and_false, true_and, false_and] at key
      rw [or0]
      exact key
    refine x_aload_n (q := 38) dX5_onLine_37 rfl rfl ?_
    refine x_iload_n (q := 39) dX5_onLine_38 rfl rfl ?_
    refine x_iconst (q := 40) (v := 1) dX5_onLine_39 rfl (by decide) ?_
    refine x_callV2v (q := 43) dX5_onLine_40 rfl ml_X5_52 mv_X5_get rv5 rfl (c_X5_getr (f := 1) hk (by decide)) (Nat.le_of_ble_eq_true rfl) ⟨by decide, by decide⟩ ?_
    refine x_iload_n (q := 44) dX5_onLine_43 rfl rfl ?_
    refine x_icmp_ne (q := 47) (t := 53) dX5_onLine_44 rfl (by decide) (fun h44 => ?_) (fun h44 => ?_)
    · refine x_iconst (q := 54) (v := 0) dX5_onLine_53 rfl (by decide) ?_
      refine x_ior (q := 55) dX5_onLine_54 rfl ?_
      refine x_istore_n (q := 56) dX5_onLine_55 rfl (by decide) rfl rfl ?_
      refine x_iinc (q := 59) (v := nI (j + 1)) dX5_onLine_56 rfl rfl (jnI_s j) (by decide) rfl rfl ?_
      refine x_goto (q := 17) dX5_onLine_59 (by decide) ?_
      have key := ih (j + 1) (by omega) (by omega)
      simp only [lyF, h34, h44, if_true, if_false, and_self, and_true, and_false, true_and, false_and] at key
      rw [or0]
      exact key
    refine x_iconst (q := 48) (v := 1) dX5_onLine_47 rfl (by decide) ?_
    refine x_iload_n (q := 49) dX5_onLine_48 rfl rfl ?_
    refine x_ishl (q := 50) dX5_onLine_49 rfl ?_
    refine x_goto (q := 54) dX5_onLine_50 (by decide) ?_
    refine x_ior (q := 55) dX5_onLine_54 rfl ?_
    refine x_istore_n (q := 56) dX5_onLine_55 rfl (by decide) rfl rfl ?_
    refine x_iinc (q := 59) (v := nI (j + 1)) dX5_onLine_56 rfl rfl (jnI_s j) (by decide) rfl rfl ?_
    refine x_goto (q := 17) dX5_onLine_59 (by decide) ?_
    have key := ih (j + 1) (by omega) (by omega)
    simp only [lyF, h34, h44, if_true, if_false, and_self, and_true, and_false, true_and, false_and] at key
    exact key
set_option maxRecDepth 20000 in
set_option maxHeartbeats 4000000 in
theorem c_X5_onLine {K : Cx} {x : Int32} {n8 : Nat} {m : TM} (hI : Iv n8 (m.1 50)) : CT yX5_onLine cX5_onLine 4 (some .int) 2 42 K [.ref 49, .int x] (m) (some (.int ((if (outI x 0 20) = true then (-1000001) else lyF (m.1 50) x n8)))) ((if (outI x 0 20) = true then fnm m 0 else m)) := by
  refine ct_ofd (n := 2) (by decide +kernel) rfl rfl ?_
  show XX RX5 cX5_onLine 4 (some .int) 2 42 K 0 [some (.ref 49), some (.int x), none, none] [] (m) (fun r1 m1 => r1 = (some (.int ((if (outI x 0 20) = true then (-1000001) else lyF (m.1 50) x n8)))) ∧ m1 = (if (outI x 0 20) = true then fnm m 0 else m))
  refine x_iload_n (q := 1) dX5_onLine_0 rfl rfl ?_
  refine x_callS1v (q := 4) dX5_onLine_1 rfl ml_X5_100 ms_X5_isLine c_X5_isLine (Nat.le_of_ble_eq_true rfl) ⟨by decide, by decide⟩ ?_
  refine x_ifB_ne (q := 7) (t := 13) dX5_onLine_4 rfl (by decide) (fun h4 => ?_) (fun h4 => ?_)
  · replace h4 := in_t h4
    refine x_iconst (q := 14) (v := 0) dX5_onLine_13 rfl (by decide) ?_
    refine x_istore_n (q := 15) dX5_onLine_14 rfl (by decide) rfl rfl ?_
    refine x_iconst (q := 16) (v := 0) dX5_onLine_15 rfl (by decide) ?_
    refine x_istore_n (q := 17) dX5_onLine_16 rfl (by decide) rfl rfl ?_
    rw [if_neg (by rw [h4]; decide), if_neg (by rw [h4]; decide)]
    have h := l_X5_onLine (K := K) (m := m) (s := m.1 50) (x := x) hI.2.1 hI.1 (n8 + 1) 0 (by omega) (by omega)
    rw [sr_self] at h
    exact h
  replace h4 := in_f h4
  refine x_aload_n (q := 8) dX5_onLine_7 rfl rfl ?_
  refine x_iconst (q := 9) (v := 0) dX5_onLine_8 rfl (by decide) ?_
  refine x_callV1v (q := 12) dX5_onLine_9 rfl ml_X5_103 mv_X5_no rv5 rfl (c_X5_nox (w := 0) (x := -1000001) (by decide) (by decide)) (Nat.le_of_ble_eq_true rfl) ⟨by decide, by decide⟩ ?_
  refine x_ireturn dX5_onLine_12 rfl rfl ?_
  exact ⟨by simp [h4], by simp [h4]⟩
theorem dX5_now_0 : decode cX5_now 0 = .ok (.iload_n 1, 1) := by decide +kernel
theorem dX5_now_1 : decode cX5_now 1 = .ok (.tableswitch 86 0 7 #[47, 54, 61, 68, 68, 68, 76, 81], 47) := by decide +kernel
theorem dX5_now_48 : decode cX5_now 48 = .ok (.aload_n 0, 1) := by decide +kernel
theorem dX5_now_49 : decode cX5_now 49 = .ok (.getfield 9, 3) := by decide +kernel
theorem dX5_now_52 : decode cX5_now 52 = .ok (.iconst 0, 1) := by decide +kernel
theorem dX5_now_53 : decode cX5_now 53 = .ok (.iaload, 1) := by decide +kernel
theorem dX5_now_54 : decode cX5_now 54 = .ok (.ireturn, 1) := by decide +kernel
theorem dX5_now_55 : decode cX5_now 55 = .ok (.aload_n 0, 1) := by decide +kernel
theorem dX5_now_56 : decode cX5_now 56 = .ok (.getfield 9, 3) := by decide +kernel
theorem dX5_now_59 : decode cX5_now 59 = .ok (.iconst 3, 1) := by decide +kernel
theorem dX5_now_60 : decode cX5_now 60 = .ok (.iaload, 1) := by decide +kernel
theorem dX5_now_61 : decode cX5_now 61 = .ok (.ireturn, 1) := by decide +kernel
theorem dX5_now_62 : decode cX5_now 62 = .ok (.aload_n 0, 1) := by decide +kernel
theorem dX5_now_63 : decode cX5_now 63 = .ok (.getfield 9, 3) := by decide +kernel
theorem dX5_now_66 : decode cX5_now 66 = .ok (.iconst 4, 1) := by decide +kernel
theorem dX5_now_67 : decode cX5_now 67 = .ok (.iaload, 1) := by decide +kernel
theorem dX5_now_68 : decode cX5_now 68 = .ok (.ireturn, 1) := by decide +kernel
theorem dX5_now_69 : decode cX5_now 69 = .ok (.aload_n 0, 1) := by decide +kernel
theorem dX5_now_70 : decode cX5_now 70 = .ok (.iload_n 1, 1) := by decide +kernel
theorem dX5_now_71 : decode cX5_now 71 = .ok (.iconst 3, 1) := by decide +kernel
theorem dX5_now_72 : decode cX5_now 72 = .ok (.isub, 1) := by decide +kernel
theorem dX5_now_73 : decode cX5_now 73 = .ok (.invokevirtual 118, 3) := by decide +kernel
theorem dX5_now_76 : decode cX5_now 76 = .ok (.ireturn, 1) := by decide +kernel
theorem dX5_now_77 : decode cX5_now 77 = .ok (.aload_n 0, 1) := by decide +kernel
theorem dX5_now_78 : decode cX5_now 78 = .ok (.invokevirtual 81, 3) := by decide +kernel
theorem dX5_now_81 : decode cX5_now 81 = .ok (.ireturn, 1) := by decide +kernel
theorem dX5_now_82 : decode cX5_now 82 = .ok (.aload_n 0, 1) := by decide +kernel
theorem dX5_now_83 : decode cX5_now 83 = .ok (.invokevirtual 121, 3) := by decide +kernel
theorem dX5_now_86 : decode cX5_now 86 = .ok (.ireturn, 1) := by decide +kernel
theorem dX5_now_87 : decode cX5_now 87 = .ok (.aload_n 0, 1) := by decide +kernel
theorem dX5_now_88 : decode cX5_now 88 = .ok (.iconst 0, 1) := by decide +kernel
theorem dX5_now_89 : decode cX5_now 89 = .ok (.invokevirtual 103, 3) := by decide +kernel
theorem dX5_now_92 : decode cX5_now 92 = .ok (.ireturn, 1) := by decide +kernel
set_option maxRecDepth 20000 in
set_option maxHeartbeats 4000000 in
theorem c_X5_now {K : Cx} {x : Int32} {n8 : Nat} {m : TM} (hI : Iv n8 (m.1 50)) : CT yX5_now cX5_now 2 (some .int) 2 45 K [.ref 49, .int x] (m) (some (.int (if x = 0 then m.1 50 0 else if x = 1 then m.1 50 3 else if x = 2 then m.1 50 4 else if x = 3 then thF (m.1 50) 0 n8 else if x = 4 then thF (m.1 50) 1 n8 else if x = 5 then thF (m.1 50) 2 n8 else if x = 6 then tdF (m.1 50) else if x = 7 then weF (m.1 50) n8 else -1000001))) (if outI x 0 7 = true then fnm m 0 else m) := by
  refine ct_ofd (n := 0) (by decide +kernel) rfl rfl ?_
  show XX RX5 cX5_now 2 (some .int) 2 45 K 0 [some (.ref 49), some (.int x)] [] (m) (fun r1 m1 => r1 = (some (.int (if x = 0 then m.1 50 0 else if x = 1 then m.1 50 3 else if x = 2 then m.1 50 4 else if x = 3 then thF (m.1 50) 0 n8 else if x = 4 then thF (m.1 50) 1 n8 else if x = 5 then thF (m.1 50) 2 n8 else if x = 6 then tdF (m.1 50) else if x = 7 then weF (m.1 50) n8 else -1000001))) ∧ m1 = if outI x 0 7 = true then fnm m 0 else m)
  refine x_iload_n (q := 1) dX5_now_0 rfl rfl ?_
  by_cases h1_0 : x = 0
  · refine x_tswC (q := 48) (k := 0) dX5_now_1 h1_0 (by decide) (by decide) rfl (by decide) ?_
    refine x_aload_n (q := 49) dX5_now_48 rfl rfl ?_
    refine x_getR (q := 52) dX5_now_49 rfl fl_X5_9 (or5_s) ?_
    refine x_iconst (q := 53) (v := 0) dX5_now_52 rfl (by decide) ?_
    refine x_iald (q := 54) dX5_now_53 rfl (ar_50) (ix_nI (k := 0) (by decide) (by decide)) (Nat.zero_add _) ?_
    refine x_ireturn dX5_now_54 rfl rfl ?_
    exact ⟨by simp [h1_0], by rw [h1_0]; rfl⟩
  by_cases h1_1 : x = 1
  · refine x_tswC (q := 55) (k := 1) dX5_now_1 h1_1 (by decide) (by decide) rfl (by decide) ?_
    refine x_aload_n (q := 56) dX5_now_55 rfl rfl ?_
    refine x_getR (q := 59) dX5_now_56 rfl fl_X5_9 (or5_s) ?_
    refine x_iconst (q := 60) (v := 3) dX5_now_59 rfl (by decide) ?_
    refine x_iald (q := 61) dX5_now_60 rfl (ar_50) (ix_nI (k := 3) (by decide) (by decide)) (Nat.zero_add _) ?_
    refine x_ireturn dX5_now_61 rfl rfl ?_
    exact ⟨by simp [h1_0, h1_1], by rw [h1_1]; rfl⟩
  by_cases h1_2 : x = 2
  · refine x_tswC (q := 62) (k := 2) dX5_now_1 h1_2 (by decide) (by decide) rfl (by decide) ?_
    refine x_aload_n (q := 63) dX5_now_62 rfl rfl ?_
    refine x_getR (q := 66) dX5_now_63 rfl fl_X5_9 (or5_s) ?_
    refine x_iconst (q := 67) (v := 4) dX5_now_66 rfl (by decide) ?_
    refine x_iald (q := 68) dX5_now_67 rfl (ar_50) (ix_nI (k := 4) (by decide) (by decide)) (Nat.zero_add _) ?_
    refine x_ireturn dX5_now_68 rfl rfl ?_
    exact ⟨by simp [h1_0, h1_1, h1_2], by rw [h1_2]; rfl⟩
  by_cases h1_3 : x = 3
  · refine x_tswC (q := 69) (k := 3) dX5_now_1 h1_3 (by decide) (by decide) rfl (by decide) ?_
    refine x_aload_n (q := 70) dX5_now_69 rfl rfl ?_
    refine x_iload_n (q := 71) dX5_now_70 rfl rfl ?_
    refine x_iconst (q := 72) (v := 3) dX5_now_71 rfl (by decide) ?_
    refine x_isub (q := 73) dX5_now_72 rfl ?_
    refine x_callV1v (q := 76) dX5_now_73 rfl ml_X5_118 mv_X5_those rv5 rfl (p_X5_those hI.2.1 hI.1) (Nat.le_of_ble_eq_true rfl) ⟨by decide, by decide⟩ ?_
    refine x_ireturn dX5_now_76 rfl rfl ?_
    exact ⟨by rw [h1_3]; rfl, by rw [h1_3]; rfl⟩
  by_cases h1_4 : x = 4
  · refine x_tswC (q := 69) (k := 4) dX5_now_1 h1_4 (by decide) (by decide) rfl (by decide) ?_
    refine x_aload_n (q := 70) dX5_now_69 rfl rfl ?_
    refine x_iload_n (q := 71) dX5_now_70 rfl rfl ?_
    refine x_iconst (q := 72) (v := 3) dX5_now_71 rfl (by decide) ?_
    refine x_isub (q := 73) dX5_now_72 rfl ?_
    refine x_callV1v (q := 76) dX5_now_73 rfl ml_X5_118 mv_X5_those rv5 rfl (p_X5_those hI.2.1 hI.1) (Nat.le_of_ble_eq_true rfl) ⟨by decide, by decide⟩ ?_
    refine x_ireturn dX5_now_76 rfl rfl ?_
    exact ⟨by rw [h1_4]; rfl, by rw [h1_4]; rfl⟩
  by_cases h1_5 : x = 5
  · refine x_tswC (q := 69) (k := 5) dX5_now_1 h1_5 (by decide) (by decide) rfl (by decide) ?_
    refine x_aload_n (q := 70) dX5_now_69 rfl rfl ?_
    refine x_iload_n (q := 71) dX5_now_70 rfl rfl ?_
    refine x_iconst (q := 72) (v := 3) dX5_now_71 rfl (by decide) ?_
    refine x_isub (q := 73) dX5_now_72 rfl ?_
    refine x_callV1v (q := 76) dX5_now_73 rfl ml_X5_118 mv_X5_those rv5 rfl (p_X5_those hI.2.1 hI.1) (Nat.le_of_ble_eq_true rfl) ⟨by decide, by decide⟩ ?_
    refine x_ireturn dX5_now_76 rfl rfl ?_
    exact ⟨by rw [h1_5]; rfl, by rw [h1_5]; rfl⟩
  by_cases h1_6 : x = 6
  · refine x_tswC (q := 77) (k := 6) dX5_now_1 h1_6 (by decide) (by decide) rfl (by decide) ?_
    refine x_aload_n (q := 78) dX5_now_77 rfl rfl ?_
    refine x_callV0v (q := 81) dX5_now_78 rfl ml_X5_81 mv_X5_tideNow rv5 rfl (p_X5_tideNow hI.td) (Nat.le_of_ble_eq_true rfl) ⟨by decide, by decide⟩ ?_
    refine x_ireturn dX5_now_81 rfl rfl ?_
    exact ⟨by simp [h1_0, h1_1, h1_2, h1_3, h1_4, h1_5, h1_6], by rw [h1_6]; rfl⟩
  by_cases h1_7 : x = 7
  · refine x_tswC (q := 82) (k := 7) dX5_now_1 h1_7 (by decide) (by decide) rfl (by decide) ?_
    refine x_aload_n (q := 83) dX5_now_82 rfl rfl ?_
    refine x_callV0v (q := 86) dX5_now_83 rfl ml_X5_121 mv_X5_weightNow rv5 rfl (p_X5_weightNow hI.2.1 hI.1) (Nat.le_of_ble_eq_true rfl) ⟨by decide, by decide⟩ ?_
    refine x_ireturn dX5_now_86 rfl rfl ?_
    exact ⟨by simp [h1_0, h1_1, h1_2, h1_3, h1_4, h1_5, h1_6, h1_7], by rw [h1_7]; rfl⟩
  refine x_tswD (q := 87) dX5_now_1 (by have n0 := lv_neT h1_0 (a := 0) (by decide); have n1 := lv_neT h1_1 (a := 1) (by decide); have n2 := lv_neT h1_2 (a := 2) (by decide); have n3 := lv_neT h1_3 (a := 3) (by decide); have n4 := lv_neT h1_4 (a := 4) (by decide); have n5 := lv_neT h1_5 (a := 5) (by decide); have n6 := lv_neT h1_6 (a := 6) (by decide); have n7 := lv_neT h1_7 (a := 7) (by decide); omega) (by decide) ?_
  refine x_aload_n (q := 88) dX5_now_87 rfl rfl ?_
  refine x_iconst (q := 89) (v := 0) dX5_now_88 rfl (by decide) ?_
  refine x_callV1v (q := 92) dX5_now_89 rfl ml_X5_103 mv_X5_no rv5 rfl (c_X5_nox (w := 0) (x := -1000001) (by decide) (by decide)) (Nat.le_of_ble_eq_true rfl) ⟨by decide, by decide⟩ ?_
  refine x_ireturn dX5_now_92 rfl rfl ?_
  exact ⟨by simp [h1_0, h1_1, h1_2, h1_3, h1_4, h1_5, h1_6, h1_7], by rw [if_pos (sw_out h1_0 h1_1 h1_2 h1_3 h1_4 h1_5 h1_6 h1_7)]⟩
theorem dX5_seed_0 : decode cX5_seed 0 = .ok (.aload_n 0, 1) := by decide +kernel
theorem dX5_seed_1 : decode cX5_seed 1 = .ok (.getfield 9, 3) := by decide +kernel
theorem dX5_seed_4 : decode cX5_seed 4 = .ok (.iconst 2, 1) := by decide +kernel
theorem dX5_seed_5 : decode cX5_seed 5 = .ok (.iaload, 1) := by decide +kernel
theorem dX5_seed_6 : decode cX5_seed 6 = .ok (.istore_n 2, 1) := by decide +kernel
theorem dX5_seed_7 : decode cX5_seed 7 = .ok (.aload_n 0, 1) := by decide +kernel
theorem dX5_seed_8 : decode cX5_seed 8 = .ok (.getfield 9, 3) := by decide +kernel
theorem dX5_seed_11 : decode cX5_seed 11 = .ok (.iconst 2, 1) := by decide +kernel
theorem dX5_seed_12 : decode cX5_seed 12 = .ok (.iload_n 1, 1) := by decide +kernel
theorem dX5_seed_13 : decode cX5_seed 13 = .ok (.iastore, 1) := by decide +kernel
theorem dX5_seed_14 : decode cX5_seed 14 = .ok (.iload_n 2, 1) := by decide +kernel
theorem dX5_seed_15 : decode cX5_seed 15 = .ok (.ireturn, 1) := by decide +kernel
set_option maxRecDepth 20000 in
set_option maxHeartbeats 4000000 in
theorem c_X5_seed {K : Cx} {v : Int32} {m : TM} : CT yX5_seed cX5_seed 3 (some .int) 0 0 K [.ref 49, .int v] (m) (some (.int (m.1 50 2))) (sr m 50 (upd (m.1 50) 2 v)) := by
  refine ct_ofd (n := 1) (by decide +kernel) rfl rfl ?_
  show XX RX5 cX5_seed 3 (some .int) 0 0 K 0 [some (.ref 49), some (.int v), none] [] (m) (fun r1 m1 => r1 = (some (.int (m.1 50 2))) ∧ m1 = sr m 50 (upd (m.1 50) 2 v))
  refine x_aload_n (q := 1) dX5_seed_0 rfl rfl ?_
  refine x_getR (q := 4) dX5_seed_1 rfl fl_X5_9 (or5_s) ?_
  refine x_iconst (q := 5) (v := 2) dX5_seed_4 rfl (by decide) ?_
  refine x_iald (q := 6) dX5_seed_5 rfl (ar_50) (ix_nI (k := 2) (by decide) (by decide)) (Nat.zero_add _) ?_
  refine x_istore_n (q := 7) dX5_seed_6 rfl (by decide) rfl rfl ?_
  refine x_aload_n (q := 8) dX5_seed_7 rfl rfl ?_
  refine x_getR (q := 11) dX5_seed_8 rfl fl_X5_9 (or5_s) ?_
  refine x_iconst (q := 12) (v := 2) dX5_seed_11 rfl (by decide) ?_
  refine x_iload_n (q := 13) dX5_seed_12 rfl rfl ?_
  refine x_iast (q := 14) dX5_seed_13 rfl (ar_50) (ix_nI (k := 2) (by decide) (by decide)) (Nat.zero_add _) rfl ?_
  refine x_iload_n (q := 15) dX5_seed_14 rfl rfl ?_
  refine x_ireturn dX5_seed_15 rfl rfl ?_
  exact ⟨rfl, st1_eq⟩
theorem dX5_wipe_0 : decode cX5_wipe 0 = .ok (.aload_n 0, 1) := by decide +kernel
theorem dX5_wipe_1 : decode cX5_wipe 1 = .ok (.getfield 177, 3) := by decide +kernel
theorem dX5_wipe_4 : decode cX5_wipe 4 = .ok (.istore_n 1, 1) := by decide +kernel
theorem dX5_wipe_5 : decode cX5_wipe 5 = .ok (.aload_n 0, 1) := by decide +kernel
theorem dX5_wipe_6 : decode cX5_wipe 6 = .ok (.iconst 0, 1) := by decide +kernel
theorem dX5_wipe_7 : decode cX5_wipe 7 = .ok (.putfield 177, 3) := by decide +kernel
theorem dX5_wipe_10 : decode cX5_wipe 10 = .ok (.iload_n 1, 1) := by decide +kernel
theorem dX5_wipe_11 : decode cX5_wipe 11 = .ok (.ireturn, 1) := by decide +kernel
set_option maxRecDepth 20000 in
set_option maxHeartbeats 4000000 in
theorem c_X5_wipe {K : Cx} {m : TM} : CT yX5_wipe cX5_wipe 2 (some .int) 0 0 K [.ref 49] (m) (some (.int (m.1 49 6))) (st1 m 49 6 0) := by
  refine ct_ofd (n := 1) (by decide +kernel) rfl rfl ?_
  show XX RX5 cX5_wipe 2 (some .int) 0 0 K 0 [some (.ref 49), none] [] (m) (fun r1 m1 => r1 = (some (.int (m.1 49 6))) ∧ m1 = st1 m 49 6 0)
  refine x_aload_n (q := 1) dX5_wipe_0 rfl rfl ?_
  refine x_getI (q := 4) dX5_wipe_1 rfl fl_X5_177 (ob5_taped) ?_
  refine x_istore_n (q := 5) dX5_wipe_4 rfl (by decide) rfl rfl ?_
  refine x_aload_n (q := 6) dX5_wipe_5 rfl rfl ?_
  refine x_iconst (q := 7) (v := 0) dX5_wipe_6 rfl (by decide) ?_
  refine x_putI (q := 10) dX5_wipe_7 rfl fl_X5_177 (ob5_taped) rfl rfl rfl rfl ?_
  refine x_iload_n (q := 11) dX5_wipe_10 rfl rfl ?_
  refine x_ireturn dX5_wipe_11 rfl rfl ?_
  exact ⟨rfl, rfl⟩
theorem dX5_hold_0 : decode cX5_hold 0 = .ok (.iload_n 1, 1) := by decide +kernel
theorem dX5_hold_1 : decode cX5_hold 1 = .ok (.invokestatic 229, 3) := by decide +kernel
theorem dX5_hold_4 : decode cX5_hold 4 = .ok (.ifCond .eq 16, 3) := by decide +kernel
theorem dX5_hold_7 : decode cX5_hold 7 = .ok (.iload_n 2, 1) := by decide +kernel
theorem dX5_hold_8 : decode cX5_hold 8 = .ok (.iconst (-1), 1) := by decide +kernel
theorem dX5_hold_9 : decode cX5_hold 9 = .ok (.if_icmp .eq 17, 3) := by decide +kernel
theorem dX5_hold_12 : decode cX5_hold 12 = .ok (.aload_n 0, 1) := by decide +kernel
theorem dX5_hold_13 : decode cX5_hold 13 = .ok (.iload_n 2, 1) := by decide +kernel
theorem dX5_hold_14 : decode cX5_hold 14 = .ok (.invokevirtual 109, 3) := by decide +kernel
theorem dX5_hold_17 : decode cX5_hold 17 = .ok (.ifCond .ne 9, 3) := by decide +kernel
theorem dX5_hold_20 : decode cX5_hold 20 = .ok (.aload_n 0, 1) := by decide +kernel
theorem dX5_hold_21 : decode cX5_hold 21 = .ok (.iconst 0, 1) := by decide +kernel
theorem dX5_hold_22 : decode cX5_hold 22 = .ok (.invokevirtual 103, 3) := by decide +kernel
theorem dX5_hold_25 : decode cX5_hold 25 = .ok (.ireturn, 1) := by decide +kernel
theorem dX5_hold_26 : decode cX5_hold 26 = .ok (.aload_n 0, 1) := by decide +kernel
theorem dX5_hold_27 : decode cX5_hold 27 = .ok (.getfield 9, 3) := by decide +kernel
theorem dX5_hold_30 : decode cX5_hold 30 = .ok (.bipush 68, 2) := by decide +kernel
theorem dX5_hold_32 : decode cX5_hold 32 = .ok (.iload_n 1, 1) := by decide +kernel
theorem dX5_hold_33 : decode cX5_hold 33 = .ok (.iadd, 1) := by decide +kernel
theorem dX5_hold_34 : decode cX5_hold 34 = .ok (.iload_n 2, 1) := by decide +kernel
theorem dX5_hold_35 : decode cX5_hold 35 = .ok (.iastore, 1) := by decide +kernel
theorem dX5_hold_36 : decode cX5_hold 36 = .ok (.iconst 1, 1) := by decide +kernel
theorem dX5_hold_37 : decode cX5_hold 37 = .ok (.ireturn, 1) := by decide +kernel
set_option maxRecDepth 20000 in
set_option maxHeartbeats 4000000 in
theorem c_X5_hold {K : Cx} {x p : Int32} {m : TM} : CT yX5_hold cX5_hold 3 (some .int) 2 43 K [.ref 49, .int x, .int p] (m) (some (.int ((if (outI x 0 9 || (!decide (p = -1) && outI p 0 (m.1 50 1 - 1))) = true then (-1000001) else 1)))) ((if (outI x 0 9 || (!decide (p = -1) && outI p 0 (m.1 50 1 - 1))) = true then fnm m 0 else sr m 50 (upd (m.1 50) (68 + cl x) p))) := by
  refine ct_ofd (n := 0) (by decide +kernel) rfl rfl ?_
  show XX RX5 cX5_hold 3 (some .int) 2 43 K 0 [some (.ref 49), some (.int x), some (.int p)] [] (m) (fun r1 m1 => r1 = (some (.int ((if (outI x 0 9 || (!decide (p = -1) && outI p 0 (m.1 50 1 - 1))) = true then (-1000001) else 1)))) ∧ m1 = (if (outI x 0 9 || (!decide (p = -1) && outI p 0 (m.1 50 1 - 1))) = true then fnm m 0 else sr m 50 (upd (m.1 50) (68 + cl x) p)))
  refine x_iload_n (q := 1) dX5_hold_0 rfl rfl ?_
  refine x_callS1v (q := 4) dX5_hold_1 rfl ml_X5_229 ms_X5_isSpot c_X5_isSpot (Nat.le_of_ble_eq_true rfl) ⟨by decide, by decide⟩ ?_
  refine x_ifB_eq (q := 7) (t := 20) dX5_hold_4 rfl (by decide) (fun h4 => ?_) (fun h4 => ?_)
  · replace h4 := in_f h4
    refine x_aload_n (q := 21) dX5_hold_20 rfl rfl ?_
    refine x_iconst (q := 22) (v := 0) dX5_hold_21 rfl (by decide) ?_
    refine x_callV1v (q := 25) dX5_hold_22 rfl ml_X5_103 mv_X5_no rv5 rfl (c_X5_nox (w := 0) (x := -1000001) (by decide) (by decide)) (Nat.le_of_ble_eq_true rfl) ⟨by decide, by decide⟩ ?_
    refine x_ireturn dX5_hold_25 rfl rfl ?_
    exact ⟨by simp [h4, st1_eq], by simp [h4, st1_eq]⟩
  replace h4 := in_t h4
  refine x_iload_n (q := 8) dX5_hold_7 rfl rfl ?_
  refine x_iconst (q := 9) (v := (-1)) dX5_hold_8 rfl (by decide) ?_
  refine x_icmp_eq (q := 12) (t := 26) dX5_hold_9 rfl (by decide) (fun h9 => ?_) (fun h9 => ?_)
  · refine x_aload_n (q := 27) dX5_hold_26 rfl rfl ?_
    refine x_getR (q := 30) dX5_hold_27 rfl fl_X5_9 (or5_s) ?_
    refine x_bipush (q := 32) (v := 68) dX5_hold_30 rfl (by decide) ?_
    refine x_iload_n (q := 33) dX5_hold_32 rfl rfl ?_
    refine x_iadd (q := 34) dX5_hold_33 rfl ?_
    refine x_iload_n (q := 35) dX5_hold_34 rfl rfl ?_
    refine x_iast (q := 36) dX5_hold_35 rfl (ar_50) (ix_off 68 (ix_out h4 (n := 10) (by decide)) (by decide) (by decide)) (Nat.zero_add _) rfl ?_
    refine x_iconst (q := 37) (v := 1) dX5_hold_36 rfl (by decide) ?_
    refine x_ireturn dX5_hold_37 rfl rfl ?_
    exact ⟨by simp [h4, h9, st1_eq], by simp [h4, h9, st1_eq]⟩
  refine x_aload_n (q := 13) dX5_hold_12 rfl rfl ?_
  refine x_iload_n (q := 14) dX5_hold_13 rfl rfl ?_
  refine x_callV1v (q := 17) dX5_hold_14 rfl ml_X5_109 mv_X5_isParcel rv5 rfl c_X5_isParcel (Nat.le_of_ble_eq_true rfl) ⟨by decide, by decide⟩ ?_
  refine x_ifB_ne (q := 20) (t := 26) dX5_hold_17 rfl (by decide) (fun h17 => ?_) (fun h17 => ?_)
  · replace h17 := in_t h17
    refine x_aload_n (q := 27) dX5_hold_26 rfl rfl ?_
    refine x_getR (q := 30) dX5_hold_27 rfl fl_X5_9 (or5_s) ?_
    refine x_bipush (q := 32) (v := 68) dX5_hold_30 rfl (by decide) ?_
    refine x_iload_n (q := 33) dX5_hold_32 rfl rfl ?_
    refine x_iadd (q := 34) dX5_hold_33 rfl ?_
    refine x_iload_n (q := 35) dX5_hold_34 rfl rfl ?_
    refine x_iast (q := 36) dX5_hold_35 rfl (ar_50) (ix_off 68 (ix_out h4 (n := 10) (by decide)) (by decide) (by decide)) (Nat.zero_add _) rfl ?_
    refine x_iconst (q := 37) (v := 1) dX5_hold_36 rfl (by decide) ?_
    refine x_ireturn dX5_hold_37 rfl rfl ?_
    exact ⟨by simp [h4, h9, h17, st1_eq], by simp [h4, h9, h17, st1_eq]⟩
  replace h17 := in_f h17
  refine x_aload_n (q := 21) dX5_hold_20 rfl rfl ?_
  refine x_iconst (q := 22) (v := 0) dX5_hold_21 rfl (by decide) ?_
  refine x_callV1v (q := 25) dX5_hold_22 rfl ml_X5_103 mv_X5_no rv5 rfl (c_X5_nox (w := 0) (x := -1000001) (by decide) (by decide)) (Nat.le_of_ble_eq_true rfl) ⟨by decide, by decide⟩ ?_
  refine x_ireturn dX5_hold_25 rfl rfl ?_
  exact ⟨by simp [h4, h9, h17, st1_eq], by simp [h4, h9, h17, st1_eq]⟩
theorem dX5_tear_0 : decode cX5_tear 0 = .ok (.aload_n 0, 1) := by decide +kernel
theorem dX5_tear_1 : decode cX5_tear 1 = .ok (.getfield 235, 3) := by decide +kernel
theorem dX5_tear_4 : decode cX5_tear 4 = .ok (.ifCond .eq 7, 3) := by decide +kernel
theorem dX5_tear_7 : decode cX5_tear 7 = .ok (.iconst 1, 1) := by decide +kernel
theorem dX5_tear_8 : decode cX5_tear 8 = .ok (.goto 4, 3) := by decide +kernel
theorem dX5_tear_11 : decode cX5_tear 11 = .ok (.iconst 0, 1) := by decide +kernel
theorem dX5_tear_12 : decode cX5_tear 12 = .ok (.istore_n 1, 1) := by decide +kernel
theorem dX5_tear_13 : decode cX5_tear 13 = .ok (.aload_n 0, 1) := by decide +kernel
theorem dX5_tear_14 : decode cX5_tear 14 = .ok (.iconst 0, 1) := by decide +kernel
theorem dX5_tear_15 : decode cX5_tear 15 = .ok (.putfield 235, 3) := by decide +kernel
theorem dX5_tear_18 : decode cX5_tear 18 = .ok (.iload_n 1, 1) := by decide +kernel
theorem dX5_tear_19 : decode cX5_tear 19 = .ok (.ireturn, 1) := by decide +kernel
set_option maxRecDepth 20000 in
set_option maxHeartbeats 4000000 in
theorem c_X5_tear {K : Cx} {m : TM} : CT yX5_tear cX5_tear 2 (some .int) 0 0 K [.ref 49] (m) (some (.int (if m.1 49 3 = 0 then 0 else 1))) (st1 m 49 3 0) := by
  refine ct_ofd (n := 1) (by decide +kernel) rfl rfl ?_
  show XX RX5 cX5_tear 2 (some .int) 0 0 K 0 [some (.ref 49), none] [] (m) (fun r1 m1 => r1 = (some (.int (if m.1 49 3 = 0 then 0 else 1))) ∧ m1 = st1 m 49 3 0)
  refine x_aload_n (q := 1) dX5_tear_0 rfl rfl ?_
  refine x_getI (q := 4) dX5_tear_1 rfl fl_X5_235 (ob5_isKept) ?_
  refine x_if_eq (q := 7) (t := 11) dX5_tear_4 rfl (by decide) (fun h4 => ?_) (fun h4 => ?_)
  · refine x_iconst (q := 12) (v := 0) dX5_tear_11 rfl (by decide) ?_
    refine x_istore_n (q := 13) dX5_tear_12 rfl (by decide) rfl rfl ?_
    refine x_aload_n (q := 14) dX5_tear_13 rfl rfl ?_
    refine x_iconst (q := 15) (v := 0) dX5_tear_14 rfl (by decide) ?_
    refine x_putI (q := 18) dX5_tear_15 rfl fl_X5_235 (ob5_isKept) rfl rfl rfl rfl ?_
    refine x_iload_n (q := 19) dX5_tear_18 rfl rfl ?_
    refine x_ireturn dX5_tear_19 rfl rfl ?_
    exact ⟨by simp [h4], rfl⟩
  refine x_iconst (q := 8) (v := 1) dX5_tear_7 rfl (by decide) ?_
  refine x_goto (q := 12) dX5_tear_8 (by decide) ?_
  refine x_istore_n (q := 13) dX5_tear_12 rfl (by decide) rfl rfl ?_
  refine x_aload_n (q := 14) dX5_tear_13 rfl rfl ?_
  refine x_iconst (q := 15) (v := 0) dX5_tear_14 rfl (by decide) ?_
  refine x_putI (q := 18) dX5_tear_15 rfl fl_X5_235 (ob5_isKept) rfl rfl rfl rfl ?_
  refine x_iload_n (q := 19) dX5_tear_18 rfl rfl ?_
  refine x_ireturn dX5_tear_19 rfl rfl ?_
  exact ⟨by simp [h4], rfl⟩
theorem dX5_image_0 : decode cX5_image 0 = .ok (.iconst 0, 1) := by decide +kernel
theorem dX5_image_1 : decode cX5_image 1 = .ok (.istore_n 1, 1) := by decide +kernel
theorem dX5_image_2 : decode cX5_image 2 = .ok (.iload_n 1, 1) := by decide +kernel
theorem dX5_image_3 : decode cX5_image 3 = .ok (.bipush 78, 2) := by decide +kernel
theorem dX5_image_5 : decode cX5_image 5 = .ok (.if_icmp .ge 21, 3) := by decide +kernel
theorem dX5_image_8 : decode cX5_image 8 = .ok (.aload_n 0, 1) := by decide +kernel
theorem dX5_image_9 : decode cX5_image 9 = .ok (.getfield 13, 3) := by decide +kernel
theorem dX5_image_12 : decode cX5_image 12 = .ok (.iload_n 1, 1) := by decide +kernel
theorem dX5_image_13 : decode cX5_image 13 = .ok (.aload_n 0, 1) := by decide +kernel
theorem dX5_image_14 : decode cX5_image 14 = .ok (.getfield 9, 3) := by decide +kernel
theorem dX5_image_17 : decode cX5_image 17 = .ok (.iload_n 1, 1) := by decide +kernel
theorem dX5_image_18 : decode cX5_image 18 = .ok (.iaload, 1) := by decide +kernel
theorem dX5_image_19 : decode cX5_image 19 = .ok (.iastore, 1) := by decide +kernel
theorem dX5_image_20 : decode cX5_image 20 = .ok (.iinc 1 1, 3) := by decide +kernel
theorem dX5_image_23 : decode cX5_image 23 = .ok (.goto (-21), 3) := by decide +kernel
theorem dX5_image_26 : decode cX5_image 26 = .ok (.aload_n 0, 1) := by decide +kernel
theorem dX5_image_27 : decode cX5_image 27 = .ok (.iconst 1, 1) := by decide +kernel
theorem dX5_image_28 : decode cX5_image 28 = .ok (.putfield 235, 3) := by decide +kernel
theorem dX5_image_31 : decode cX5_image 31 = .ok (.iconst 1, 1) := by decide +kernel
theorem dX5_image_32 : decode cX5_image 32 = .ok (.ireturn, 1) := by decide +kernel
set_option maxRecDepth 20000 in
set_option maxHeartbeats 4000000 in
theorem l_X5_image {K : Cx} {m : TM} : ∀ (n : Nat) (j : Nat), 78 - j < n → j ≤ 78 → XX RX5 cX5_image 2 (some .int) 0 0 K 2 [some (.ref 49), some (.int (nI j))] [] (sr m 51 (cpR (m.1 51) (m.1 50) 0 0 j)) (fun r1 m1 => r1 = (some (.int (1))) ∧ m1 = st1 (sr m 51 (m.1 50)) 49 3 1) := by
  intro n
  induction n with
  | zero => intro j hlt; exact absurd hlt (Nat.not_lt_zero _)
  | succ n ih =>
    intro j hlt hj
    refine x_iload_n (q := 3) dX5_image_2 rfl rfl ?_
    refine x_bipush (q := 5) (v := 78) dX5_image_3 rfl (by decide) ?_
    refine x_icmp_ge (q := 8) (t := 26) dX5_image_5 rfl (by decide) (fun h5 => ?_) (fun h5 => ?_)
    · have e : j = 78 := Nat.le_antisymm hj (lp_stop (n := 78) rfl (by omega) (by omega) h5)
      subst e
      refine x_ag (m' := sr m 51 (m.1 50)) (ag_row fun i hi => ?_) ?_
      · show cpR _ _ 0 0 78 i = _
        unfold cpR
        rw [if_pos ⟨Nat.zero_le _, by have : rsz 51 = 78 := rfl; omega⟩, Nat.zero_add, Nat.sub_zero]
      refine x_aload_n (q := 27) dX5_image_26 rfl rfl ?_
      refine x_iconst (q := 28) (v := 1) dX5_image_27 rfl (by decide) ?_
      refine x_putI (q := 31) dX5_image_28 rfl fl_X5_235 (ob5_isKept) rfl rfl rfl rfl ?_
      refine x_iconst (q := 32) (v := 1) dX5_image_31 rfl (by decide) ?_
      refine x_ireturn dX5_image_32 rfl rfl ?_
      exact ⟨rfl, rfl⟩
    have hjn : j < 78 := lp_go (n := 78) rfl (by omega) (by omega) h5
    refine x_aload_n (q := 9) dX5_image_8 rfl rfl ?_
    refine x_getR (q := 12) dX5_image_9 rfl fl_X5_13 (or5_kept) ?_
    refine x_iload_n (q := 13) dX5_image_12 rfl rfl ?_
    refine x_aload_n (q := 14) dX5_image_13 rfl rfl ?_
    refine x_getR (q := 17) dX5_image_14 rfl fl_X5_9 (or5_s) ?_
    refine x_iload_n (q := 18) dX5_image_17 rfl rfl ?_
    refine x_iald (q := 19) dX5_image_18 rfl (ar_50) (ix_nI hjn (by decide)) (Nat.zero_add _) ?_
    refine x_iastr (q := 20) dX5_image_19 rfl (ar_51) (ix_nI hjn (by decide)) (Nat.zero_add _)  ?_
    refine x_iinc (q := 23) (v := nI (j + 1)) dX5_image_20 rfl rfl (jnI_s j) (by decide) rfl rfl ?_
    refine x_goto (q := 2) dX5_image_23 (by decide) ?_
    have e : upd (cpR (m.1 51) (m.1 50) 0 0 j) j ((sr m 51 (cpR (m.1 51) (m.1 50) 0 0 j)).1 50 j) = cpR (m.1 51) (m.1 50) 0 0 (j + 1) := by
      rw [sr_ne (by decide)]
      funext i
      unfold upd cpR
      by_cases h1 : i = j
      · subst h1
        rw [if_pos rfl, if_pos (by omega), Nat.zero_add, Nat.sub_zero]
      · rw [if_neg h1]
        by_cases h2 : i < j
        · rw [if_pos (by omega), if_pos (by omega)]
        · rw [if_neg (by omega), if_neg (by omega)]
    rw [e]
    exact ih (j + 1) (by omega) (by omega)
set_option maxRecDepth 20000 in
set_option maxHeartbeats 4000000 in
theorem c_X5_image {K : Cx} {m : TM} : CT yX5_image cX5_image 2 (some .int) 0 0 K [.ref 49] (m) (some (.int (1))) (st1 (sr m 51 (m.1 50)) 49 3 1) := by
  refine ct_ofd (n := 1) (by decide +kernel) rfl rfl ?_
  show XX RX5 cX5_image 2 (some .int) 0 0 K 0 [some (.ref 49), none] [] (m) (fun r1 m1 => r1 = (some (.int (1))) ∧ m1 = st1 (sr m 51 (m.1 50)) 49 3 1)
  refine x_iconst (q := 1) (v := 0) dX5_image_0 rfl (by decide) ?_
  refine x_istore_n (q := 2) dX5_image_1 rfl (by decide) rfl rfl ?_
  have e : cpR (m.1 51) (m.1 50) 0 0 0 = m.1 51 := by
    funext i
    unfold cpR
    rw [if_neg (by omega)]
  have h := l_X5_image (K := K) (m := m) 79 0 (by omega) (by omega)
  rw [e, sr_self] at h
  exact h
theorem dX5_undo_0 : decode cX5_undo 0 = .ok (.aload_n 0, 1) := by decide +kernel
theorem dX5_undo_1 : decode cX5_undo 1 = .ok (.getfield 235, 3) := by decide +kernel
theorem dX5_undo_4 : decode cX5_undo 4 = .ok (.ifCond .ne 9, 3) := by decide +kernel
theorem dX5_undo_7 : decode cX5_undo 7 = .ok (.aload_n 0, 1) := by decide +kernel
theorem dX5_undo_8 : decode cX5_undo 8 = .ok (.iconst 3, 1) := by decide +kernel
theorem dX5_undo_9 : decode cX5_undo 9 = .ok (.invokevirtual 103, 3) := by decide +kernel
theorem dX5_undo_12 : decode cX5_undo 12 = .ok (.ireturn, 1) := by decide +kernel
theorem dX5_undo_13 : decode cX5_undo 13 = .ok (.iconst 0, 1) := by decide +kernel
theorem dX5_undo_14 : decode cX5_undo 14 = .ok (.istore_n 1, 1) := by decide +kernel
theorem dX5_undo_15 : decode cX5_undo 15 = .ok (.iload_n 1, 1) := by decide +kernel
theorem dX5_undo_16 : decode cX5_undo 16 = .ok (.bipush 78, 2) := by decide +kernel
theorem dX5_undo_18 : decode cX5_undo 18 = .ok (.if_icmp .ge 21, 3) := by decide +kernel
theorem dX5_undo_21 : decode cX5_undo 21 = .ok (.aload_n 0, 1) := by decide +kernel
theorem dX5_undo_22 : decode cX5_undo 22 = .ok (.getfield 9, 3) := by decide +kernel
theorem dX5_undo_25 : decode cX5_undo 25 = .ok (.iload_n 1, 1) := by decide +kernel
theorem dX5_undo_26 : decode cX5_undo 26 = .ok (.aload_n 0, 1) := by decide +kernel
theorem dX5_undo_27 : decode cX5_undo 27 = .ok (.getfield 13, 3) := by decide +kernel
theorem dX5_undo_30 : decode cX5_undo 30 = .ok (.iload_n 1, 1) := by decide +kernel
theorem dX5_undo_31 : decode cX5_undo 31 = .ok (.iaload, 1) := by decide +kernel
theorem dX5_undo_32 : decode cX5_undo 32 = .ok (.iastore, 1) := by decide +kernel
theorem dX5_undo_33 : decode cX5_undo 33 = .ok (.iinc 1 1, 3) := by decide +kernel
theorem dX5_undo_36 : decode cX5_undo 36 = .ok (.goto (-21), 3) := by decide +kernel
theorem dX5_undo_39 : decode cX5_undo 39 = .ok (.aload_n 0, 1) := by decide +kernel
theorem dX5_undo_40 : decode cX5_undo 40 = .ok (.getfield 9, 3) := by decide +kernel
theorem dX5_undo_43 : decode cX5_undo 43 = .ok (.iconst 0, 1) := by decide +kernel
theorem dX5_undo_44 : decode cX5_undo 44 = .ok (.iaload, 1) := by decide +kernel
theorem dX5_undo_45 : decode cX5_undo 45 = .ok (.ireturn, 1) := by decide +kernel
set_option maxRecDepth 20000 in
set_option maxHeartbeats 4000000 in
theorem l_X5_undo {K : Cx} {m : TM} : ∀ (n : Nat) (j : Nat), 78 - j < n → j ≤ 78 → XX RX5 cX5_undo 2 (some .int) 1 21 K 15 [some (.ref 49), some (.int (nI j))] [] (sr m 50 (cpR (m.1 50) (m.1 51) 0 0 j)) (fun r1 m1 => r1 = (some (.int (m.1 51 0))) ∧ m1 = sr m 50 (m.1 51)) := by
  intro n
  induction n with
  | zero => intro j hlt; exact absurd hlt (Nat.not_lt_zero _)
  | succ n ih =>
    intro j hlt hj
    refine x_iload_n (q := 16) dX5_undo_15 rfl rfl ?_
    refine x_bipush (q := 18) (v := 78) dX5_undo_16 rfl (by decide) ?_
    refine x_icmp_ge (q := 21) (t := 39) dX5_undo_18 rfl (by decide) (fun h18 => ?_) (fun h18 => ?_)
    · have e : j = 78 := Nat.le_antisymm hj (lp_stop (n := 78) rfl (by omega) (by omega) h18)
      subst e
      refine x_ag (m' := sr m 50 (m.1 51)) (ag_row fun i hi => ?_) ?_
      · show cpR _ _ 0 0 78 i = _
        unfold cpR
        rw [if_pos ⟨Nat.zero_le _, by have : rsz 50 = 78 := rfl; omega⟩, Nat.zero_add, Nat.sub_zero]
      refine x_aload_n (q := 40) dX5_undo_39 rfl rfl ?_
      refine x_getR (q := 43) dX5_undo_40 rfl fl_X5_9 (or5_s) ?_
      refine x_iconst (q := 44) (v := 0) dX5_undo_43 rfl (by decide) ?_
      refine x_ialdr (q := 45) dX5_undo_44 rfl (ar_50) (ix_nI (k := 0) (by decide) (by decide)) (Nat.zero_add _) ?_
      refine x_ireturn dX5_undo_45 rfl rfl ?_
      exact ⟨rfl, rfl⟩
    have hjn : j < 78 := lp_go (n := 78) rfl (by omega) (by omega) h18
    refine x_aload_n (q := 22) dX5_undo_21 rfl rfl ?_
    refine x_getR (q := 25) dX5_undo_22 rfl fl_X5_9 (or5_s) ?_
    refine x_iload_n (q := 26) dX5_undo_25 rfl rfl ?_
    refine x_aload_n (q := 27) dX5_undo_26 rfl rfl ?_
    refine x_getR (q := 30) dX5_undo_27 rfl fl_X5_13 (or5_kept) ?_
    refine x_iload_n (q := 31) dX5_undo_30 rfl rfl ?_
    refine x_iald (q := 32) dX5_undo_31 rfl (ar_51) (ix_nI hjn (by decide)) (Nat.zero_add _) ?_
    refine x_iastr (q := 33) dX5_undo_32 rfl (ar_50) (ix_nI hjn (by decide)) (Nat.zero_add _)  ?_
    refine x_iinc (q := 36) (v := nI (j + 1)) dX5_undo_33 rfl rfl (jnI_s j) (by decide) rfl rfl ?_
    refine x_goto (q := 15) dX5_undo_36 (by decide) ?_
    have e : upd (cpR (m.1 50) (m.1 51) 0 0 j) j ((sr m 50 (cpR (m.1 50) (m.1 51) 0 0 j)).1 51 j) = cpR (m.1 50) (m.1 51) 0 0 (j + 1) := by
      rw [sr_ne (by decide)]
      funext i
      unfold upd cpR
      by_cases h1 : i = j
      · subst h1
        rw [if_pos rfl, if_pos (by omega), Nat.zero_add, Nat.sub_zero]
      · rw [if_neg h1]
        by_cases h2 : i < j
        · rw [if_pos (by omega), if_pos (by omega)]
        · rw [if_neg (by omega), if_neg (by omega)]
    rw [e]
    exact ih (j + 1) (by omega) (by omega)
set_option maxRecDepth 20000 in
set_option maxHeartbeats 4000000 in
theorem c_X5_undo {K : Cx} {m : TM} (h0 : ¬ m.1 49 3 = 0) : CT yX5_undo cX5_undo 2 (some .int) 1 21 K [.ref 49] (m) (some (.int (m.1 51 0))) (sr m 50 (m.1 51)) := by
  refine ct_ofd (n := 1) (by decide +kernel) rfl rfl ?_
  show XX RX5 cX5_undo 2 (some .int) 1 21 K 0 [some (.ref 49), none] [] (m) (fun r1 m1 => r1 = (some (.int (m.1 51 0))) ∧ m1 = sr m 50 (m.1 51))
  refine x_aload_n (q := 1) dX5_undo_0 rfl rfl ?_
  refine x_getI (q := 4) dX5_undo_1 rfl fl_X5_235 (ob5_isKept) ?_
  refine x_if_ne (q := 7) (t := 13) dX5_undo_4 rfl (by decide) (fun h4 => ?_) (fun h4 => ?_)
  · refine x_iconst (q := 14) (v := 0) dX5_undo_13 rfl (by decide) ?_
    refine x_istore_n (q := 15) dX5_undo_14 rfl (by decide) rfl rfl ?_
    have e : cpR (m.1 50) (m.1 51) 0 0 0 = m.1 50 := by
      funext i
      unfold cpR
      rw [if_neg (by omega)]
    have h := l_X5_undo (K := K) (m := m) 79 0 (by omega) (by omega)
    rw [e, sr_self] at h
    exact h
  exact absurd h4 h0
set_option maxRecDepth 20000 in
set_option maxHeartbeats 4000000 in
theorem c_X5_undoN {K : Cx} {m : TM} (h0 : m.1 49 3 = 0) : CT yX5_undo cX5_undo 2 (some .int) 1 21 K [.ref 49] (m) (some (.int (-1000004))) (fnm m 3) := by
  refine ct_ofd (n := 1) (by decide +kernel) rfl rfl ?_
  show XX RX5 cX5_undo 2 (some .int) 1 21 K 0 [some (.ref 49), none] [] (m) (fun r1 m1 => r1 = (some (.int (-1000004))) ∧ m1 = fnm m 3)
  refine x_aload_n (q := 1) dX5_undo_0 rfl rfl ?_
  refine x_getI (q := 4) dX5_undo_1 rfl fl_X5_235 (ob5_isKept) ?_
  refine x_if_ne (q := 7) (t := 13) dX5_undo_4 rfl (by decide) (fun h4 => ?_) (fun h4 => ?_)
  · exact absurd h0 h4
  refine x_aload_n (q := 8) dX5_undo_7 rfl rfl ?_
  refine x_iconst (q := 9) (v := 3) dX5_undo_8 rfl (by decide) ?_
  refine x_callV1v (q := 12) dX5_undo_9 rfl ml_X5_103 mv_X5_no rv5 rfl (c_X5_nox (w := 3) (x := -1000004) (by decide) (by decide)) (Nat.le_of_ble_eq_true rfl) ⟨by decide, by decide⟩ ?_
  refine x_ireturn dX5_undo_12 rfl rfl ?_
  exact ⟨rfl, rfl⟩
theorem dX5_as_0 : decode cX5_as 0 = .ok (.iload_n 1, 1) := by decide +kernel
theorem dX5_as_1 : decode cX5_as 1 = .ok (.invokestatic 229, 3) := by decide +kernel
theorem dX5_as_4 : decode cX5_as 4 = .ok (.ifCond .eq 13, 3) := by decide +kernel
theorem dX5_as_7 : decode cX5_as 7 = .ok (.iload_n 2, 1) := by decide +kernel
theorem dX5_as_8 : decode cX5_as 8 = .ok (.iconst 0, 1) := by decide +kernel
theorem dX5_as_9 : decode cX5_as 9 = .ok (.bipush 6, 2) := by decide +kernel
theorem dX5_as_11 : decode cX5_as 11 = .ok (.invokestatic 48, 3) := by decide +kernel
theorem dX5_as_14 : decode cX5_as 14 = .ok (.ifCond .ne 9, 3) := by decide +kernel
theorem dX5_as_17 : decode cX5_as 17 = .ok (.aload_n 0, 1) := by decide +kernel
theorem dX5_as_18 : decode cX5_as 18 = .ok (.iconst 0, 1) := by decide +kernel
theorem dX5_as_19 : decode cX5_as 19 = .ok (.invokevirtual 103, 3) := by decide +kernel
theorem dX5_as_22 : decode cX5_as 22 = .ok (.ireturn, 1) := by decide +kernel
theorem dX5_as_23 : decode cX5_as 23 = .ok (.aload_n 0, 1) := by decide +kernel
theorem dX5_as_24 : decode cX5_as 24 = .ok (.getfield 9, 3) := by decide +kernel
theorem dX5_as_27 : decode cX5_as 27 = .ok (.bipush 68, 2) := by decide +kernel
theorem dX5_as_29 : decode cX5_as 29 = .ok (.iload_n 1, 1) := by decide +kernel
theorem dX5_as_30 : decode cX5_as 30 = .ok (.iadd, 1) := by decide +kernel
theorem dX5_as_31 : decode cX5_as 31 = .ok (.iaload, 1) := by decide +kernel
theorem dX5_as_32 : decode cX5_as 32 = .ok (.istore_n 3, 1) := by decide +kernel
theorem dX5_as_33 : decode cX5_as 33 = .ok (.iload_n 3, 1) := by decide +kernel
theorem dX5_as_34 : decode cX5_as 34 = .ok (.ifCond .ge 9, 3) := by decide +kernel
theorem dX5_as_37 : decode cX5_as 37 = .ok (.aload_n 0, 1) := by decide +kernel
theorem dX5_as_38 : decode cX5_as 38 = .ok (.iconst 5, 1) := by decide +kernel
theorem dX5_as_39 : decode cX5_as 39 = .ok (.invokevirtual 103, 3) := by decide +kernel
theorem dX5_as_42 : decode cX5_as 42 = .ok (.ireturn, 1) := by decide +kernel
theorem dX5_as_43 : decode cX5_as 43 = .ok (.aload_n 0, 1) := by decide +kernel
theorem dX5_as_44 : decode cX5_as 44 = .ok (.iload_n 3, 1) := by decide +kernel
theorem dX5_as_45 : decode cX5_as 45 = .ok (.iconst 0, 1) := by decide +kernel
theorem dX5_as_46 : decode cX5_as 46 = .ok (.invokevirtual 52, 3) := by decide +kernel
theorem dX5_as_49 : decode cX5_as 49 = .ok (.istore 4, 2) := by decide +kernel
theorem dX5_as_51 : decode cX5_as 51 = .ok (.iload 4, 2) := by decide +kernel
theorem dX5_as_53 : decode cX5_as 53 = .ok (.iload_n 2, 1) := by decide +kernel
theorem dX5_as_54 : decode cX5_as 54 = .ok (.if_icmp .eq 18, 3) := by decide +kernel
theorem dX5_as_57 : decode cX5_as 57 = .ok (.iload 4, 2) := by decide +kernel
theorem dX5_as_59 : decode cX5_as 59 = .ok (.ifCond .eq 13, 3) := by decide +kernel
theorem dX5_as_62 : decode cX5_as 62 = .ok (.iload 4, 2) := by decide +kernel
theorem dX5_as_64 : decode cX5_as 64 = .ok (.invokestatic 232, 3) := by decide +kernel
theorem dX5_as_67 : decode cX5_as 67 = .ok (.istore 4, 2) := by decide +kernel
theorem dX5_as_69 : decode cX5_as 69 = .ok (.goto (-18), 3) := by decide +kernel
theorem dX5_as_72 : decode cX5_as 72 = .ok (.iload 4, 2) := by decide +kernel
theorem dX5_as_74 : decode cX5_as 74 = .ok (.iload_n 2, 1) := by decide +kernel
theorem dX5_as_75 : decode cX5_as 75 = .ok (.if_icmp .ne 7, 3) := by decide +kernel
theorem dX5_as_78 : decode cX5_as 78 = .ok (.iload_n 3, 1) := by decide +kernel
theorem dX5_as_79 : decode cX5_as 79 = .ok (.goto 8, 3) := by decide +kernel
theorem dX5_as_82 : decode cX5_as 82 = .ok (.aload_n 0, 1) := by decide +kernel
theorem dX5_as_83 : decode cX5_as 83 = .ok (.iconst 2, 1) := by decide +kernel
theorem dX5_as_84 : decode cX5_as 84 = .ok (.invokevirtual 103, 3) := by decide +kernel
theorem dX5_as_87 : decode cX5_as 87 = .ok (.ireturn, 1) := by decide +kernel
set_option maxRecDepth 20000 in
set_option maxHeartbeats 4000000 in
theorem l_X5_as {K : Cx} {k d : Nat} {x : Int32} {m : TM} (hd : d < 7) : ∀ (n : Nat) (c : Nat), c < n → c < 7 → XX RX5 cX5_as 5 (some .int) 2 42 K 51 [some (.ref 49), some (.int x), some (.int (nI d)), some (.int (nI k)), some (.int (nI c))] [] (m) (fun r1 m1 => r1 = (some (.int (if anc 7 (nI c) (nI d) = true then nI k else -1000003))) ∧ m1 = if anc 7 (nI c) (nI d) = true then m else fnm m 2) := by
  intro n
  induction n with
  | zero => intro c hlt; exact absurd hlt (Nat.not_lt_zero _)
  | succ n ih =>
    intro c hlt hc
    refine x_iload (q := 53) dX5_as_51 rfl rfl ?_
    refine x_iload_n (q := 54) dX5_as_53 rfl rfl ?_
    refine x_icmp_eq (q := 57) (t := 72) dX5_as_54 rfl (by decide) (fun h54 => ?_) (fun h54 => ?_)
    · refine x_iload (q := 74) dX5_as_72 rfl rfl ?_
      refine x_iload_n (q := 75) dX5_as_74 rfl rfl ?_
      refine x_icmp_ne (q := 78) (t := 82) dX5_as_75 rfl (by decide) (fun h75 => ?_) (fun h75 => ?_)
      · refine x_aload_n (q := 83) dX5_as_82 rfl rfl ?_
        refine x_iconst (q := 84) (v := 2) dX5_as_83 rfl (by decide) ?_
        refine x_callV1v (q := 87) dX5_as_84 rfl ml_X5_103 mv_X5_no rv5 rfl (c_X5_nox (w := 2) (x := -1000003) (by decide) (by decide)) (Nat.le_of_ble_eq_true rfl) ⟨by decide, by decide⟩ ?_
        refine x_ireturn dX5_as_87 rfl rfl ?_
        exact absurd h54 h75
      refine x_iload_n (q := 79) dX5_as_78 rfl rfl ?_
      refine x_goto (q := 87) dX5_as_79 (by decide) ?_
      refine x_ireturn dX5_as_87 rfl rfl ?_
      have e : c = d := (jnI_inj (by omega) (by omega)).mp h54
      subst e
      rw [if_pos (anc_self c hc), if_pos (anc_self c hc)]
      exact ⟨rfl, rfl⟩
    refine x_iload (q := 59) dX5_as_57 rfl rfl ?_
    refine x_if_eq (q := 62) (t := 72) dX5_as_59 rfl (by decide) (fun h59 => ?_) (fun h59 => ?_)
    · refine x_iload (q := 74) dX5_as_72 rfl rfl ?_
      refine x_iload_n (q := 75) dX5_as_74 rfl rfl ?_
      refine x_icmp_ne (q := 78) (t := 82) dX5_as_75 rfl (by decide) (fun h75 => ?_) (fun h75 => ?_)
      · refine x_aload_n (q := 83) dX5_as_82 rfl rfl ?_
        refine x_iconst (q := 84) (v := 2) dX5_as_83 rfl (by decide) ?_
        refine x_callV1v (q := 87) dX5_as_84 rfl ml_X5_103 mv_X5_no rv5 rfl (c_X5_nox (w := 2) (x := -1000003) (by decide) (by decide)) (Nat.le_of_ble_eq_true rfl) ⟨by decide, by decide⟩ ?_
        refine x_ireturn dX5_as_87 rfl rfl ?_
        have hd0 : d ≠ 0 := fun q => h75 (by rw [h59, q]; rfl)
        rw [h59, anc_0 d hd hd0]
        exact ⟨rfl, rfl⟩
      refine x_iload_n (q := 79) dX5_as_78 rfl rfl ?_
      refine x_goto (q := 87) dX5_as_79 (by decide) ?_
      refine x_ireturn dX5_as_87 rfl rfl ?_
      exact absurd h75 h54
    refine x_iload (q := 64) dX5_as_62 rfl rfl ?_
    refine x_callS1v (q := 67) dX5_as_64 rfl ml_X5_232 ms_X5_above c_X5_above (Nat.le_of_ble_eq_true rfl) ⟨by decide, by decide⟩ ?_
    refine x_istore (q := 69) dX5_as_67 rfl (by decide) rfl rfl ?_
    refine x_goto (q := 51) dX5_as_69 (by decide) ?_
    have hcd : c ≠ d := fun q => h54 (by rw [q])
    have hc0 : c ≠ 0 := fun q => h59 (by rw [q]; rfl)
    have a1 := ab_1 c hc
    have a2 := ab_2 c hc hc0
    have a3 := ab_3 c hc d hd hcd hc0
    rw [a1, a3]
    exact ih (ab c) (by omega) (by omega)
set_option maxRecDepth 20000 in
set_option maxHeartbeats 4000000 in
theorem c_X5_as {K : Cx} {x v : Int32} {n8 : Nat} {m : TM} (hI : Iv n8 (m.1 50)) : CT yX5_as cX5_as 5 (some .int) 2 42 K [.ref 49, .int x, .int v] (m) (some (.int (if (outI x 0 9 || outI v 0 6) = true then -1000001 else if outI (m.1 50 (68 + cl x)) 0 (m.1 50 1 - 1) = true then -1000006 else if anc 7 (m.1 50 (12 + 7 * cl (m.1 50 (68 + cl x)) + 0)) v = true then m.1 50 (68 + cl x) else -1000003))) (if (outI x 0 9 || outI v 0 6) = true then fnm m 0 else if outI (m.1 50 (68 + cl x)) 0 (m.1 50 1 - 1) = true then fnm m 5 else if anc 7 (m.1 50 (12 + 7 * cl (m.1 50 (68 + cl x)) + 0)) v = true then m else fnm m 2) := by
  refine ct_ofd (n := 2) (by decide +kernel) rfl rfl ?_
  show XX RX5 cX5_as 5 (some .int) 2 42 K 0 [some (.ref 49), some (.int x), some (.int v), none, none] [] (m) (fun r1 m1 => r1 = (some (.int (if (outI x 0 9 || outI v 0 6) = true then -1000001 else if outI (m.1 50 (68 + cl x)) 0 (m.1 50 1 - 1) = true then -1000006 else if anc 7 (m.1 50 (12 + 7 * cl (m.1 50 (68 + cl x)) + 0)) v = true then m.1 50 (68 + cl x) else -1000003))) ∧ m1 = if (outI x 0 9 || outI v 0 6) = true then fnm m 0 else if outI (m.1 50 (68 + cl x)) 0 (m.1 50 1 - 1) = true then fnm m 5 else if anc 7 (m.1 50 (12 + 7 * cl (m.1 50 (68 + cl x)) + 0)) v = true then m else fnm m 2)
  refine x_iload_n (q := 1) dX5_as_0 rfl rfl ?_
  refine x_callS1v (q := 4) dX5_as_1 rfl ml_X5_229 ms_X5_isSpot c_X5_isSpot (Nat.le_of_ble_eq_true rfl) ⟨by decide, by decide⟩ ?_
  refine x_ifB_eq (q := 7) (t := 17) dX5_as_4 rfl (by decide) (fun h4 => ?_) (fun h4 => ?_)
  · replace h4 := in_f h4
    refine x_aload_n (q := 18) dX5_as_17 rfl rfl ?_
    refine x_iconst (q := 19) (v := 0) dX5_as_18 rfl (by decide) ?_
    refine x_callV1v (q := 22) dX5_as_19 rfl ml_X5_103 mv_X5_no rv5 rfl (c_X5_nox (w := 0) (x := -1000001) (by decide) (by decide)) (Nat.le_of_ble_eq_true rfl) ⟨by decide, by decide⟩ ?_
    refine x_ireturn dX5_as_22 rfl rfl ?_
    exact ⟨by simp [h4], by simp [h4]⟩
  replace h4 := in_t h4
  refine x_iload_n (q := 8) dX5_as_7 rfl rfl ?_
  refine x_iconst (q := 9) (v := 0) dX5_as_8 rfl (by decide) ?_
  refine x_bipush (q := 11) (v := 6) dX5_as_9 rfl (by decide) ?_
  refine x_callS3v (q := 14) dX5_as_11 rfl ml_X5_48 ms_X5_in1 c_X5_in1 (Nat.le_of_ble_eq_true rfl) ⟨by decide, by decide⟩ ?_
  refine x_ifB_ne (q := 17) (t := 23) dX5_as_14 rfl (by decide) (fun h14 => ?_) (fun h14 => ?_)
  · replace h14 := in_t h14
    refine x_aload_n (q := 24) dX5_as_23 rfl rfl ?_
    refine x_getR (q := 27) dX5_as_24 rfl fl_X5_9 (or5_s) ?_
    refine x_bipush (q := 29) (v := 68) dX5_as_27 rfl (by decide) ?_
    refine x_iload_n (q := 30) dX5_as_29 rfl rfl ?_
    refine x_iadd (q := 31) dX5_as_30 rfl ?_
    refine x_iald (q := 32) dX5_as_31 rfl (ar_50) (ix_off 68 (ix_out h4 (n := 10) (by decide)) (by decide) (by decide)) (Nat.zero_add _) ?_
    refine x_istore_n (q := 33) dX5_as_32 rfl (by decide) rfl rfl ?_
    have hsp0 := hI.2.2.2.2.2 (cl x) (ix_out h4 (n := 10) (by decide)).2.2
    refine x_iload_n (q := 34) dX5_as_33 rfl rfl ?_
    refine x_if_ge (q := 37) (t := 43) dX5_as_34 rfl (by decide) (fun h34 => ?_) (fun h34 => ?_)
    · obtain ⟨k, hk, hsp⟩ : ∃ k, k < n8 ∧ m.1 50 (68 + cl x) = nI k := by
        rcases hsp0 with q | q
        · exact absurd h34 (by rw [q]; decide)
        · exact q
      have hk8 : k < 8 := by have := hI.1; omega
      obtain ⟨c, hc, ec⟩ := (hI.2.2.2.2.1 k hk).2
      obtain ⟨d, hd, rfl⟩ := out6 h14
      refine x_aload_n (q := 44) dX5_as_43 rfl rfl ?_
      refine x_iload_n (q := 45) dX5_as_44 rfl rfl ?_
      refine x_iconst (q := 46) (v := 0) dX5_as_45 rfl (by decide) ?_
      refine x_callV2v (q := 49) dX5_as_46 rfl ml_X5_52 mv_X5_get rv5 rfl (by rw [hsp]; exact c_X5_get (f := 0) hk8 (by decide)) (Nat.le_of_ble_eq_true rfl) ⟨by decide, by decide⟩ ?_
      refine x_istore (q := 51) dX5_as_49 rfl (by decide) rfl rfl ?_
      have ek : cl (nI k) = k := jnI_clamp (by omega)
      have q2 : outI (m.1 50 (68 + cl x)) 0 (m.1 50 1 - 1) = false := by
        rw [hsp, hI.2.1]
        obtain ⟨n, hn⟩ : ∃ n, n8 = n + 1 := ⟨n8 - 1, by omega⟩
        rw [hn, nI_pred]
        unfold outI
        have := hI.1
        rw [Bool.or_eq_false_iff, decide_eq_false_iff_not, decide_eq_false_iff_not]
        exact ⟨jnI_nneg (by omega), fun q => absurd ((jnI_lt (by omega) (by omega)).mp q) (by omega)⟩
      simp only [h4, h14, q2, Bool.or_self, Bool.false_eq_true, if_false]
      rw [hsp, ek, ec]
      exact l_X5_as hd (c + 1) c (by omega) (by omega)
    refine x_aload_n (q := 38) dX5_as_37 rfl rfl ?_
    refine x_iconst (q := 39) (v := 5) dX5_as_38 rfl (by decide) ?_
    refine x_callV1v (q := 42) dX5_as_39 rfl ml_X5_103 mv_X5_no rv5 rfl (c_X5_nox (w := 5) (x := -1000006) (by decide) (by decide)) (Nat.le_of_ble_eq_true rfl) ⟨by decide, by decide⟩ ?_
    refine x_ireturn dX5_as_42 rfl rfl ?_
    have q : m.1 50 (68 + cl x) = -1 := by
      rcases hsp0 with q | ⟨k, hk, q⟩
      · exact q
      · exact absurd (by rw [q]; exact nI_pos' (by have := hI.1; omega)) h34
    have q2 : outI (m.1 50 (68 + cl x)) 0 (m.1 50 1 - 1) = true := by
      rw [q]
      unfold outI
      rw [decide_eq_true (show (-1 : Int32) < 0 by decide)]
      rfl
    exact ⟨by rw [if_neg (by rw [h4, h14]; decide), if_pos q2], by rw [if_neg (by rw [h4, h14]; decide), if_pos q2]⟩
  replace h14 := in_f h14
  refine x_aload_n (q := 18) dX5_as_17 rfl rfl ?_
  refine x_iconst (q := 19) (v := 0) dX5_as_18 rfl (by decide) ?_
  refine x_callV1v (q := 22) dX5_as_19 rfl ml_X5_103 mv_X5_no rv5 rfl (c_X5_nox (w := 0) (x := -1000001) (by decide) (by decide)) (Nat.le_of_ble_eq_true rfl) ⟨by decide, by decide⟩ ?_
  refine x_ireturn dX5_as_22 rfl rfl ?_
  exact ⟨by simp [h4, h14], by simp [h4, h14]⟩
