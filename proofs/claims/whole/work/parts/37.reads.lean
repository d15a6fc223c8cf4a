/-! what is told, of the reference -/
section R4
variable {m : TM} {v : Int64} {g s : Nat → Int32}
theorem rm49 : (sr (sr (st2 m v) 49 g) 50 s).1 49 = g := by rw [sr_ne (by decide), sr_at]
theorem rmo {r : Nat} (h1 : r ≠ 49) (h2 : r ≠ 50) : (sr (sr (st2 m v) 49 g) 50 s).1 r = m.1 r := by rw [sr_ne h2, sr_ne h1]; rfl
theorem rm2 : (sr (sr (st2 m v) 49 g) 50 s).2 = v := rfl
theorem rmst {v1 : Int64} {g1 : Nat → Int32} : sr (st2 (sr (sr (st2 m v) 49 g) 50 s) v1) 49 g1 = sr (sr (st2 m v1) 49 g1) 50 s := by
  unfold sr st2
  refine Prod.ext (funext fun a => funext fun b => ?_) rfl
  by_cases h : a = 49 <;> by_cases h2 : a = 50 <;> simp [h, h2]
theorem rmp {i : Nat} {x : Int32} : st1 (sr (sr (st2 m v) 49 g) 50 s) 49 i x = sr (sr (st2 m v) 49 (upd g i x)) 50 s := by
  rw [st1_eq, rm49]
  unfold sr st2
  refine Prod.ext (funext fun a => funext fun b => ?_) rfl
  by_cases h : a = 49 <;> by_cases h2 : a = 50 <;> simp [h, h2]
end R4
theorem l2i_eq {n : Nat} (h : n < 2147483648) : (lI n).toInt32 = nI n := by rw [← nI_lI h, Int32.toInt32_toInt64]
theorem cvF_lt {L : Nat} {w : Nat → Int32} : ∀ f e v, v < 27000000000000000 → cvF L w f e v < 27000000000000000
  | 0, _, v, h => h
  | f + 1, e, v, h => by
    unfold cvF
    split
    · rename_i q
      have hl := soF_lt (L := L) (w := w) (e := e) (by rw [q]; decide)
      rw [soF_in hl] at q
      exact cvF_lt f (e + 1) _ (cnF_le h q)
    · exact h
theorem lI_inj {a b : Nat} (ha : a < 2 ^ 63) (hb : b < 2 ^ 63) : lI a = lI b ↔ a = b := by
  constructor
  · intro h
    have h1 := lI_i ha
    rw [h, lI_i hb] at h1
    omega
  · intro h; rw [h]
theorem tk_1 {L j : Nat} {w : Nat → Int32} : tkF L w j = 1 ↔ soF L w j = 1 := by
  unfold tkF
  split
  · rename_i h
    rw [h.1]
    decide
  · exact Iff.rfl
theorem tk_2 {L j : Nat} {w : Nat → Int32} : tkF L w j = 2 ↔ soF L w j = 2 ∧ nvF L w j ≤ 999 := by
  unfold tkF
  split
  · rename_i h
    exact ⟨fun q => absurd q (by decide), fun q => absurd h.2 (by omega)⟩
  · rename_i h
    exact ⟨fun q => ⟨q, Nat.le_of_not_lt (fun z => h ⟨q, z⟩)⟩, fun q => q.1⟩
theorem tk_0 {L j : Nat} {w : Nat → Int32} : tkF L w j = 0 ↔ soF L w j = 0 := by
  unfold tkF
  split
  · rename_i h
    rw [h.1]
    decide
  · exact Iff.rfl
theorem tk_3 {L j : Nat} {w : Nat → Int32} : tkF L w j = 3 ↔ soF L w j = 3 := by
  unfold tkF
  split
  · rename_i h
    rw [h.1]
    decide
  · exact Iff.rfl
theorem whF_none {P : Nat → Bool} {n : Nat} (h : ∀ c, c < n → P c = false) : whF P n = -1 := by
  rcases whF_cases P n with ⟨c, h1, h2, _⟩ | ⟨_, h2⟩
  · rw [h c h1] at h2; cases h2
  · exact h2
theorem wo_eq {L j N : Nat} {w f g : Nat → Int32} {z3 : Int32} {v : Int64} {l : List Int32} {ix : Nat → Nat} (hf : ∀ i, i < 10 * N → f i = l.getD i 0) (bv : ∀ w, w < N → ix w < 13 ∧ bvF (fun i => l.getD i 0) w 10 = bvP (ix w) (sL (ix w))) (hT : RS z3 L w j g v) : (if g 7 = 1 then whF (fun w => decide (lI (bvF f w 10) = v)) N else -1) = whF (fun c => isW L w j (ix c)) N := by
  rw [hT.2.1]
  by_cases h : soF L w j = 1
  · rw [if_pos (tk_1.mpr h), hT.2.2.2.2.1 h]
    refine whF_congr N (fun i hi => ?_)
    obtain ⟨b1, b2⟩ := bv i hi
    have e1 : bvF f i 10 = bvP (ix i) (sL (ix i)) := (bvF_congr (g := fun i => l.getD i 0) 10 (fun q hq => hf _ (by omega))).trans b2
    have hb := bvP_le (ix i) b1 (sL (ix i)) (Nat.le_refl _)
    have hw : wvF L w j < 27000000000000000 := cvF_lt (L := L) (w := w) (L - j) j 0 (by decide)
    rw [e1]
    have e2 : (lI (bvP (ix i) (sL (ix i))) = lI (wvF L w j)) ↔ isW L w j (ix i) = true := by
      rw [lI_inj (a := bvP (ix i) (sL (ix i))) (b := wvF L w j) (by omega) (Nat.lt_trans hw (by decide)), ← wv_is b1 h]
      exact ⟨fun q => q.symm, fun q => q.symm⟩
    cases e3 : isW L w j (ix i) with
    | true => exact decide_eq_true (e2.mpr e3)
    | false => exact decide_eq_false (fun q => by rw [e2.mp q] at e3; cases e3)
  · rw [if_neg (fun q => h (tk_1.mp q))]
    refine (whF_none (fun c hc => ?_)).symm
    cases e : isW L w j (ix c) with
    | false => rfl
    | true => exact absurd (isW_so e) h
theorem wo_is {P : Nat → Bool} {n k : Nat} (hn : n ≤ 100) (hk : k < n) (hu : ∀ a b, a < n → b < n → P a = true → P b = true → a = b) : whF P n = nI k ↔ P k = true := by
  rcases whF_cases P n with ⟨c, h1, h2, h3⟩ | ⟨h1, h2⟩
  · rw [h3, jnI_inj (by omega) (by omega)]
    constructor
    · intro q; rw [← q]; exact h2
    · intro q; exact hu c k h1 hk h2 q
  · rw [h2]
    constructor
    · intro q
      exact absurd (q ▸ (by decide : (-1 : Int32) < 0)) (jnI_nneg (by omega))
    · intro q; rw [h1 k hk] at q; cases q
theorem uM {L j : Nat} {w : Nat → Int32} : ∀ a b, a < 4 → b < 4 → isW L w j (wiM a) = true → isW L w j (wiM b) = true → a = b := by
  intro a b ha hb h1 h2
  have h := isW_one (by unfold wiM; omega) (by unfold wiM; omega) h1 h2
  unfold wiM at h
  omega
theorem wiL_inj : ∀ a, a < 7 → ∀ b, b < 7 → wiL a = wiL b → a = b := by decide
theorem wiL_lt : ∀ a, a < 7 → 2 ≤ wiL a ∧ wiL a < 9 := by decide
theorem kd_some {L j : Nat} {w : Nat → Int32} : ∀ f c0 c, c0 + f = 7 → c0 ≤ c → c < 7 → isW L w j (wiL c) = true → kdF L w j f c0 = some c
  | 0, c0, c, h, h1, h2, _ => absurd h1 (by omega)
  | f + 1, c0, c, h, h1, h2, hc => by
    unfold kdF
    by_cases q : isW L w j (wdN (nI c0)) = true
    · rw [if_pos q]
      have h3 := wiL_lt c0 (by omega)
      have h4 := wiL_lt c h2
      have e := isW_one (k := wiL c0) (k2 := wiL c) (by omega) (by omega) q hc
      rw [wiL_inj c0 (by omega) c h2 e]
    · rw [if_neg q]
      have hne : c0 ≠ c := fun e => q (by rw [e]; exact hc)
      exact kd_some f (c0 + 1) c (by omega) (by omega) h2 hc
theorem kd_none {L j : Nat} {w : Nat → Int32} : ∀ f c0, (∀ c, c0 ≤ c → c < c0 + f → isW L w j (wiL c) = false) → kdF L w j f c0 = none
  | 0, _, _ => rfl
  | f + 1, c0, h => by
    unfold kdF
    rw [if_neg (show ¬ isW L w j (wdN (nI c0)) = true from fun q => by rw [show isW L w j (wdN (nI c0)) = false from h c0 (Nat.le_refl _) (by omega)] at q; cases q)]
    exact kd_none f (c0 + 1) (fun c h1 h2 => h c (by omega) (by omega))
theorem c_X5_nextM {K : Cx} {L j : Nat} {w g s : Nat → Int32} {z3 : Int32} {v : Int64} {m : TM} (hT : RS z3 L w j g v) (hL2 : L ≤ 120) (hj : j ≤ L) (hB : ∀ i, i < L → BB (w i) (m.1 54 i)) : CQ yX5_nextToken cX5_nextToken 1 none 2 42 K [.ref 49] (sr (sr (st2 m (v)) 49 (g)) 50 (s)) (fun r1 m1 => r1 = none ∧ ∃ g1 v1, RS z3 L w (nxF L w j) g1 v1 ∧ m1 = sr (sr (st2 m (v1)) 49 (g1)) 50 (s)) := by
  have h := c_X5_nextToken (K := K) (L := L) (e := enF L w j) (w := w) (m := sr (sr (st2 m (v)) 49 (g)) 50 (s)) (by rw [rm49]; exact hT.1) hL2 (by rw [rm49]; exact hT.2.2.2.1) (enF_le hj).2 (by rw [rmo (by decide) (by decide)]; exact hB)
  simp only [rmst, rm49, hT.2.2.2.2.2.2] at h
  exact h
theorem c_X5_wolt {K : Cx} {L j : Nat} {w g s : Nat → Int32} {z3 : Int32} {v : Int64} {m : TM} (hT : RS z3 L w j g v) (hC : ∀ i, i < 70 → m.1 55 i = ltL.getD i 0) : CT yX5_wordOf cX5_wordOf 7 (some .int) 0 0 K [.ref 49, .ref 55] (sr (sr (st2 m (v)) 49 (g)) 50 (s)) (some (.int (whF (fun c => isW L w j (wiL c)) 7))) (sr (sr (st2 m (v)) 49 (g)) 50 (s)) := by
  have h := c_X5_wordOf55 (K := K) (m := sr (sr (st2 m (v)) 49 (g)) 50 (s)) (by rw [rmo (by decide) (by decide)]; exact okC_of hC ok_lt)
  rw [rm49, rmo (by decide) (by decide), rm2, wo_eq (N := 7) hC bv_lt hT] at h
  exact h
theorem c_X5_womo {K : Cx} {L j : Nat} {w g s : Nat → Int32} {z3 : Int32} {v : Int64} {m : TM} (hT : RS z3 L w j g v) (hC : ∀ i, i < 40 → m.1 56 i = moL.getD i 0) : CT yX5_wordOf cX5_wordOf 7 (some .int) 0 0 K [.ref 49, .ref 56] (sr (sr (st2 m (v)) 49 (g)) 50 (s)) (some (.int (whF (fun c => isW L w j (wiM c)) 4))) (sr (sr (st2 m (v)) 49 (g)) 50 (s)) := by
  have h := c_X5_wordOf56 (K := K) (m := sr (sr (st2 m (v)) 49 (g)) 50 (s)) (by rw [rmo (by decide) (by decide)]; exact okC_of hC ok_mo)
  rw [rm49, rmo (by decide) (by decide), rm2, wo_eq (N := 4) hC bv_mo hT] at h
  exact h
theorem c_X5_woot {K : Cx} {L j : Nat} {w g s : Nat → Int32} {z3 : Int32} {v : Int64} {m : TM} (hT : RS z3 L w j g v) (hC : ∀ i, i < 20 → m.1 57 i = otL.getD i 0) : CT yX5_wordOf cX5_wordOf 7 (some .int) 0 0 K [.ref 49, .ref 57] (sr (sr (st2 m (v)) 49 (g)) 50 (s)) (some (.int (whF (fun c => isW L w j (wiO c)) 2))) (sr (sr (st2 m (v)) 49 (g)) 50 (s)) := by
  have h := c_X5_wordOf57 (K := K) (m := sr (sr (st2 m (v)) 49 (g)) 50 (s)) (by rw [rmo (by decide) (by decide)]; exact okC_of hC ok_ot)
  rw [rm49, rmo (by decide) (by decide), rm2, wo_eq (N := 2) hC bv_ot hT] at h
  exact h
theorem dX5_takesNumber_0 : decode cX5_takesNumber 0 = .ok (.aload_n 0, 1) := by decide +kernel
theorem dX5_takesNumber_1 : decode cX5_takesNumber 1 = .ok (.getfield 191, 3) := by decide +kernel
theorem dX5_takesNumber_4 : decode cX5_takesNumber 4 = .ok (.iconst 2, 1) := by decide +kernel
theorem dX5_takesNumber_5 : decode cX5_takesNumber 5 = .ok (.if_icmp .ne 24, 3) := by decide +kernel
theorem dX5_takesNumber_8 : decode cX5_takesNumber 8 = .ok (.aload_n 0, 1) := by decide +kernel
theorem dX5_takesNumber_9 : decode cX5_takesNumber 9 = .ok (.getfield 187, 3) := by decide +kernel
theorem dX5_takesNumber_12 : decode cX5_takesNumber 12 = .ok (.l2i, 1) := by decide +kernel
theorem dX5_takesNumber_13 : decode cX5_takesNumber 13 = .ok (.iload_n 1, 1) := by decide +kernel
theorem dX5_takesNumber_14 : decode cX5_takesNumber 14 = .ok (.iload_n 2, 1) := by decide +kernel
theorem dX5_takesNumber_15 : decode cX5_takesNumber 15 = .ok (.invokestatic 48, 3) := by decide +kernel
theorem dX5_takesNumber_18 : decode cX5_takesNumber 18 = .ok (.ifCond .eq 11, 3) := by decide +kernel
theorem dX5_takesNumber_21 : decode cX5_takesNumber 21 = .ok (.aload_n 0, 1) := by decide +kernel
theorem dX5_takesNumber_22 : decode cX5_takesNumber 22 = .ok (.getfield 187, 3) := by decide +kernel
theorem dX5_takesNumber_25 : decode cX5_takesNumber 25 = .ok (.l2i, 1) := by decide +kernel
theorem dX5_takesNumber_26 : decode cX5_takesNumber 26 = .ok (.goto 4, 3) := by decide +kernel
theorem dX5_takesNumber_29 : decode cX5_takesNumber 29 = .ok (.iconst (-1), 1) := by decide +kernel
theorem dX5_takesNumber_30 : decode cX5_takesNumber 30 = .ok (.istore_n 3, 1) := by decide +kernel
theorem dX5_takesNumber_31 : decode cX5_takesNumber 31 = .ok (.iload_n 3, 1) := by decide +kernel
theorem dX5_takesNumber_32 : decode cX5_takesNumber 32 = .ok (.ifCond .lt 7, 3) := by decide +kernel
theorem dX5_takesNumber_35 : decode cX5_takesNumber 35 = .ok (.aload_n 0, 1) := by decide +kernel
theorem dX5_takesNumber_36 : decode cX5_takesNumber 36 = .ok (.invokevirtual 212, 3) := by decide +kernel
theorem dX5_takesNumber_39 : decode cX5_takesNumber 39 = .ok (.iload_n 3, 1) := by decide +kernel
theorem dX5_takesNumber_40 : decode cX5_takesNumber 40 = .ok (.ireturn, 1) := by decide +kernel
theorem nu_out {L j a b : Nat} {w : Nat → Int32} (hs : soF L w j = 2) (ha : a ≤ 999) (hb : b ≤ 999) : outI (nI (nvF L w j)) (nI a) (nI b) = !nuF L w j a b := by
  have hv := nvF_le (L := L) (w := w) (j := j)
  unfold outI nuF
  have e1 : (nI (nvF L w j) < nI a) ↔ nvF L w j < a := jnI_lt (by omega) (by omega)
  have e2 : (nI b < nI (nvF L w j)) ↔ b < nvF L w j := jnI_lt (by omega) (by omega)
  rw [decide_eq_decide.mpr e1, decide_eq_decide.mpr e2]
  by_cases h1 : nvF L w j < a
  · rw [decide_eq_true h1, decide_eq_false (fun q => by omega : ¬ (soF L w j = 2 ∧ a ≤ nvF L w j ∧ nvF L w j ≤ b))]
    rfl
  · by_cases h2 : b < nvF L w j
    · rw [decide_eq_false h1, decide_eq_true h2, decide_eq_false (fun q => by omega : ¬ (soF L w j = 2 ∧ a ≤ nvF L w j ∧ nvF L w j ≤ b))]
      rfl
    · rw [decide_eq_false h1, decide_eq_false h2, decide_eq_true (show soF L w j = 2 ∧ a ≤ nvF L w j ∧ nvF L w j ≤ b from ⟨hs, by omega, by omega⟩)]
      rfl
theorem ge_nu {L j a b : Nat} {w : Nat → Int32} : (0 : Int32) ≤ (if nuF L w j a b = true then nI (nvF L w j) else -1) ↔ nuF L w j a b = true := by
  have hv := nvF_le (L := L) (w := w) (j := j)
  cases h : nuF L w j a b with
  | false => rw [if_neg Bool.false_ne_true]; decide
  | true => rw [if_pos rfl]; exact ⟨fun _ => rfl, fun _ => Int32.not_lt.mp (jnI_nneg (by omega))⟩
theorem lt_nu {L j a b : Nat} {w : Nat → Int32} : (if nuF L w j a b = true then nI (nvF L w j) else -1 : Int32) < 0 ↔ nuF L w j a b = false := by
  have h := ge_nu (L := L) (j := j) (a := a) (b := b) (w := w)
  rw [← Int32.not_le, h]
  cases nuF L w j a b <;> decide
set_option maxRecDepth 20000 in
set_option maxHeartbeats 4000000 in
theorem c_X5_takesNumber {K : Cx} {L j a b : Nat} {w g s : Nat → Int32} {z3 : Int32} {v : Int64} {m : TM} (hT : RS z3 L w j g v) (hL2 : L ≤ 120) (hj : j ≤ L) (hB : ∀ i, i < L → BB (w i) (m.1 54 i)) (ha : a ≤ 999) (hb : b ≤ 999) : CQ yX5_takesNumber cX5_takesNumber 4 (some .int) 3 62 K [.ref 49, .int (nI a), .int (nI b)] (sr (sr (st2 m (v)) 49 (g)) 50 (s)) (fun r1 m1 => r1 = some (.int (if nuF L w j a b = true then nI (nvF L w j) else -1)) ∧ ∃ g1 v1, RS z3 L w (if nuF L w j a b = true then nxF L w j else j) g1 v1 ∧ m1 = sr (sr (st2 m (v1)) 49 (g1)) 50 (s)) := by
  refine ct_ofq (n := 1) (by decide +kernel) rfl rfl ?_
  show XX RX5 cX5_takesNumber 4 (some .int) 3 62 K 0 [some (.ref 49), some (.int (nI a)), some (.int (nI b)), none] [] (sr (sr (st2 m (v)) 49 (g)) 50 (s)) (fun r1 m1 => r1 = some (.int (if nuF L w j a b = true then nI (nvF L w j) else -1)) ∧ ∃ g1 v1, RS z3 L w (if nuF L w j a b = true then nxF L w j else j) g1 v1 ∧ m1 = sr (sr (st2 m (v1)) 49 (g1)) 50 (s))
  have hv9 := nvF_le (L := L) (w := w) (j := j)
  refine x_aload_n (q := 1) dX5_takesNumber_0 rfl rfl ?_
  refine x_getI (q := 4) dX5_takesNumber_1 rfl fl_X5_191 (ob5_token) ?_
  rw [rm49, hT.2.1]
  refine x_iconst (q := 5) (v := 2) dX5_takesNumber_4 rfl (by decide) ?_
  refine x_icmp_ne (q := 8) (t := 29) dX5_takesNumber_5 rfl (by decide) (fun h5 => ?_) (fun h5 => ?_)
  · refine x_iconst (q := 30) (v := (-1)) dX5_takesNumber_29 rfl (by decide) ?_
    refine x_istore_n (q := 31) dX5_takesNumber_30 rfl (by decide) rfl rfl ?_
    refine x_iload_n (q := 32) dX5_takesNumber_31 rfl rfl ?_
    refine x_if_lt (q := 35) (t := 39) dX5_takesNumber_32 rfl (by decide) (fun _ => ?_) (fun h => absurd (by decide) h)
    refine x_iload_n (q := 40) dX5_takesNumber_39 rfl rfl ?_
    refine x_ireturn dX5_takesNumber_40 rfl rfl ?_
    have hf : nuF L w j a b = false := by
      cases e : nuF L w j a b with
      | false => rfl
      | true =>
        have q := nu_so e
        exact absurd (tk_2.mpr ⟨q.1, by omega⟩) h5
    rw [hf]
    exact ⟨rfl, g, _, hT, rfl⟩
  have hs2 := (tk_2.mp h5).1
  have hv := hT.2.2.2.2.2.1 hs2
  subst hv
  refine x_aload_n (q := 9) dX5_takesNumber_8 rfl rfl ?_
  refine x_getL (q := 12) dX5_takesNumber_9 rfl fl_X5_187 ?_
  rw [rm2]
  refine x_l2i (q := 13) dX5_takesNumber_12 rfl ?_
  rw [l2i_eq (by omega)]
  refine x_iload_n (q := 14) dX5_takesNumber_13 rfl rfl ?_
  refine x_iload_n (q := 15) dX5_takesNumber_14 rfl rfl ?_
  refine x_callS3v (q := 18) dX5_takesNumber_15 rfl ml_X5_48 ms_X5_in1 c_X5_in1 (Nat.le_of_ble_eq_true rfl) ⟨by decide, by decide⟩ ?_
  refine x_ifB_eq (q := 21) (t := 29) dX5_takesNumber_18 rfl (by decide) (fun h18 => ?_) (fun h18 => ?_)
  · replace h18 := in_f h18
    have hf : nuF L w j a b = false := by
      have q := nu_out hs2 ha hb
      rw [h18] at q
      cases e : nuF L w j a b with
      | false => rfl
      | true => rw [e] at q; cases q
    refine x_iconst (q := 30) (v := (-1)) dX5_takesNumber_29 rfl (by decide) ?_
    refine x_istore_n (q := 31) dX5_takesNumber_30 rfl (by decide) rfl rfl ?_
    refine x_iload_n (q := 32) dX5_takesNumber_31 rfl rfl ?_
    refine x_if_lt (q := 35) (t := 39) dX5_takesNumber_32 rfl (by decide) (fun _ => ?_) (fun h => absurd (by decide) h)
    refine x_iload_n (q := 40) dX5_takesNumber_39 rfl rfl ?_
    refine x_ireturn dX5_takesNumber_40 rfl rfl ?_
    rw [hf]
    exact ⟨rfl, g, _, hT, rfl⟩
  replace h18 := in_t h18
  have hf : nuF L w j a b = true := by
    have q := nu_out hs2 ha hb
    rw [h18] at q
    cases e : nuF L w j a b with
    | false => rw [e] at q; cases q
    | true => rfl
  refine x_aload_n (q := 22) dX5_takesNumber_21 rfl rfl ?_
  refine x_getL (q := 25) dX5_takesNumber_22 rfl fl_X5_187 ?_
  rw [rm2]
  refine x_l2i (q := 26) dX5_takesNumber_25 rfl ?_
  rw [l2i_eq (by omega)]
  refine x_goto (q := 30) dX5_takesNumber_26 (by decide) ?_
  refine x_istore_n (q := 31) dX5_takesNumber_30 rfl (by decide) rfl rfl ?_
  refine x_iload_n (q := 32) dX5_takesNumber_31 rfl rfl ?_
  refine x_if_lt (q := 35) (t := 39) dX5_takesNumber_32 rfl (by decide) (fun h32 => ?_) (fun h32 => ?_)
  · refine x_iload_n (q := 40) dX5_takesNumber_39 rfl rfl ?_
    refine x_ireturn dX5_takesNumber_40 rfl rfl ?_
    exact absurd h32 (jnI_nneg (by omega))
  refine x_aload_n (q := 36) dX5_takesNumber_35 rfl rfl ?_
  refine x_callV0u (q := 39) dX5_takesNumber_36 rfl ml_X5_212 mv_X5_nextToken rv5 rfl (c_X5_nextM hT hL2 hj hB) (Nat.le_of_ble_eq_true rfl) ⟨by decide, by decide⟩ (fun m9 h9 => ?_)
  obtain ⟨g36, v36, T36, rfl⟩ := h9
  refine x_iload_n (q := 40) dX5_takesNumber_39 rfl rfl ?_
  refine x_ireturn dX5_takesNumber_40 rfl rfl ?_
  rw [hf]
  exact ⟨rfl, g36, v36, T36, rfl⟩
def clF (L : Nat) (w : Nat → Int32) (n q : Nat) (s : Nat → Int32) (j : Nat) : Rd := pF L w n (1 + q) (9 + q) (if q = 1 then 1 else 0) (if q = 0 then 20 else if q = 1 then 99 else 999) s j
def rpF (L : Nat) (w : Nat → Int32) (n : Nat) : Nat → Nat → (Nat → Int32) → Nat → Rd
  | 0, _, s, j => hlF L w n s j
  | r + 1, q, s, j => andT (clF L w n q s j) (fun s j => rpF L w n r (q + 1) s j)
theorem pc_rp {L n c j : Nat} {w s : Nat → Int32} : pcF L w n c s j = rpF L w n 3 0 (upd (newF s n (nI c)) 1 (nI (n + 1))) (nxF L w j) := rfl
theorem x_ne {k : Nat} (h : k < 3) {c : Nat} (hc : c < 3) : nI k = nI c ↔ k = c := jnI_inj (by omega) (by omega)
theorem dX5_readsParcel_0 : decode cX5_readsParcel 0 = .ok (.aload_n 0, 1) := by decide +kernel
theorem dX5_readsParcel_1 : decode cX5_readsParcel 1 = .ok (.getfield 9, 3) := by decide +kernel
theorem dX5_readsParcel_4 : decode cX5_readsParcel 4 = .ok (.iconst 1, 1) := by decide +kernel
theorem dX5_readsParcel_5 : decode cX5_readsParcel 5 = .ok (.iaload, 1) := by decide +kernel
theorem dX5_readsParcel_6 : decode cX5_readsParcel 6 = .ok (.bipush 8, 2) := by decide +kernel
theorem dX5_readsParcel_8 : decode cX5_readsParcel 8 = .ok (.if_icmp .ne 5, 3) := by decide +kernel
theorem dX5_readsParcel_11 : decode cX5_readsParcel 11 = .ok (.iconst 0, 1) := by decide +kernel
theorem dX5_readsParcel_12 : decode cX5_readsParcel 12 = .ok (.ireturn, 1) := by decide +kernel
theorem dX5_readsParcel_13 : decode cX5_readsParcel 13 = .ok (.aload_n 0, 1) := by decide +kernel
theorem dX5_readsParcel_14 : decode cX5_readsParcel 14 = .ok (.getfield 9, 3) := by decide +kernel
theorem dX5_readsParcel_17 : decode cX5_readsParcel 17 = .ok (.iconst 1, 1) := by decide +kernel
theorem dX5_readsParcel_18 : decode cX5_readsParcel 18 = .ok (.iaload, 1) := by decide +kernel
theorem dX5_readsParcel_19 : decode cX5_readsParcel 19 = .ok (.istore_n 2, 1) := by decide +kernel
theorem dX5_readsParcel_20 : decode cX5_readsParcel 20 = .ok (.aload_n 0, 1) := by decide +kernel
theorem dX5_readsParcel_21 : decode cX5_readsParcel 21 = .ok (.iload_n 1, 1) := by decide +kernel
theorem dX5_readsParcel_22 : decode cX5_readsParcel 22 = .ok (.invokevirtual 106, 3) := by decide +kernel
theorem dX5_readsParcel_25 : decode cX5_readsParcel 25 = .ok (.aload_n 0, 1) := by decide +kernel
theorem dX5_readsParcel_26 : decode cX5_readsParcel 26 = .ok (.invokevirtual 212, 3) := by decide +kernel
theorem dX5_readsParcel_29 : decode cX5_readsParcel 29 = .ok (.iconst 0, 1) := by decide +kernel
theorem dX5_readsParcel_30 : decode cX5_readsParcel 30 = .ok (.istore_n 3, 1) := by decide +kernel
theorem dX5_readsParcel_31 : decode cX5_readsParcel 31 = .ok (.iload_n 3, 1) := by decide +kernel
theorem dX5_readsParcel_32 : decode cX5_readsParcel 32 = .ok (.iconst 3, 1) := by decide +kernel
theorem dX5_readsParcel_33 : decode cX5_readsParcel 33 = .ok (.if_icmp .ge 80, 3) := by decide +kernel
theorem dX5_readsParcel_36 : decode cX5_readsParcel 36 = .ok (.aload_n 0, 1) := by decide +kernel
theorem dX5_readsParcel_37 : decode cX5_readsParcel 37 = .ok (.aload_n 0, 1) := by decide +kernel
theorem dX5_readsParcel_38 : decode cX5_readsParcel 38 = .ok (.getfield 29, 3) := by decide +kernel
theorem dX5_readsParcel_41 : decode cX5_readsParcel 41 = .ok (.invokevirtual 215, 3) := by decide +kernel
theorem dX5_readsParcel_44 : decode cX5_readsParcel 44 = .ok (.iload_n 3, 1) := by decide +kernel
theorem dX5_readsParcel_45 : decode cX5_readsParcel 45 = .ok (.if_icmp .ne 62, 3) := by decide +kernel
theorem dX5_readsParcel_48 : decode cX5_readsParcel 48 = .ok (.aload_n 0, 1) := by decide +kernel
theorem dX5_readsParcel_49 : decode cX5_readsParcel 49 = .ok (.invokevirtual 212, 3) := by decide +kernel
theorem dX5_readsParcel_52 : decode cX5_readsParcel 52 = .ok (.aload_n 0, 1) := by decide +kernel
theorem dX5_readsParcel_53 : decode cX5_readsParcel 53 = .ok (.iload_n 3, 1) := by decide +kernel
theorem dX5_readsParcel_54 : decode cX5_readsParcel 54 = .ok (.iconst 1, 1) := by decide +kernel
theorem dX5_readsParcel_55 : decode cX5_readsParcel 55 = .ok (.if_icmp .ne 7, 3) := by decide +kernel
theorem dX5_readsParcel_58 : decode cX5_readsParcel 58 = .ok (.iconst 1, 1) := by decide +kernel
theorem dX5_readsParcel_59 : decode cX5_readsParcel 59 = .ok (.goto 4, 3) := by decide +kernel
theorem dX5_readsParcel_62 : decode cX5_readsParcel 62 = .ok (.iconst 0, 1) := by decide +kernel
theorem dX5_readsParcel_63 : decode cX5_readsParcel 63 = .ok (.iload_n 3, 1) := by decide +kernel
theorem dX5_readsParcel_64 : decode cX5_readsParcel 64 = .ok (.ifCond .ne 8, 3) := by decide +kernel
theorem dX5_readsParcel_67 : decode cX5_readsParcel 67 = .ok (.bipush 20, 2) := by decide +kernel
theorem dX5_readsParcel_69 : decode cX5_readsParcel 69 = .ok (.goto 16, 3) := by decide +kernel
theorem dX5_readsParcel_72 : decode cX5_readsParcel 72 = .ok (.iload_n 3, 1) := by decide +kernel
theorem dX5_readsParcel_73 : decode cX5_readsParcel 73 = .ok (.iconst 1, 1) := by decide +kernel
theorem dX5_readsParcel_74 : decode cX5_readsParcel 74 = .ok (.if_icmp .ne 8, 3) := by decide +kernel
theorem dX5_readsParcel_77 : decode cX5_readsParcel 77 = .ok (.bipush 99, 2) := by decide +kernel
theorem dX5_readsParcel_79 : decode cX5_readsParcel 79 = .ok (.goto 6, 3) := by decide +kernel
theorem dX5_readsParcel_82 : decode cX5_readsParcel 82 = .ok (.sipush 999, 3) := by decide +kernel
theorem dX5_readsParcel_85 : decode cX5_readsParcel 85 = .ok (.invokevirtual 219, 3) := by decide +kernel
theorem dX5_readsParcel_88 : decode cX5_readsParcel 88 = .ok (.istore 4, 2) := by decide +kernel
theorem dX5_readsParcel_90 : decode cX5_readsParcel 90 = .ok (.iload 4, 2) := by decide +kernel
theorem dX5_readsParcel_92 : decode cX5_readsParcel 92 = .ok (.ifCond .ge 5, 3) := by decide +kernel
theorem dX5_readsParcel_95 : decode cX5_readsParcel 95 = .ok (.iconst 0, 1) := by decide +kernel
theorem dX5_readsParcel_96 : decode cX5_readsParcel 96 = .ok (.ireturn, 1) := by decide +kernel
theorem dX5_readsParcel_97 : decode cX5_readsParcel 97 = .ok (.aload_n 0, 1) := by decide +kernel
theorem dX5_readsParcel_98 : decode cX5_readsParcel 98 = .ok (.iload_n 2, 1) := by decide +kernel
theorem dX5_readsParcel_99 : decode cX5_readsParcel 99 = .ok (.iconst 1, 1) := by decide +kernel
theorem dX5_readsParcel_100 : decode cX5_readsParcel 100 = .ok (.iload_n 3, 1) := by decide +kernel
theorem dX5_readsParcel_101 : decode cX5_readsParcel 101 = .ok (.iadd, 1) := by decide +kernel
theorem dX5_readsParcel_102 : decode cX5_readsParcel 102 = .ok (.iload 4, 2) := by decide +kernel
theorem dX5_readsParcel_104 : decode cX5_readsParcel 104 = .ok (.invokevirtual 60, 3) := by decide +kernel
theorem dX5_readsParcel_107 : decode cX5_readsParcel 107 = .ok (.iinc 3 1, 3) := by decide +kernel
theorem dX5_readsParcel_110 : decode cX5_readsParcel 110 = .ok (.goto (-79), 3) := by decide +kernel
theorem dX5_readsParcel_113 : decode cX5_readsParcel 113 = .ok (.aload_n 0, 1) := by decide +kernel
theorem dX5_readsParcel_114 : decode cX5_readsParcel 114 = .ok (.aload_n 0, 1) := by decide +kernel
theorem dX5_readsParcel_115 : decode cX5_readsParcel 115 = .ok (.getfield 29, 3) := by decide +kernel
theorem dX5_readsParcel_118 : decode cX5_readsParcel 118 = .ok (.invokevirtual 215, 3) := by decide +kernel
theorem dX5_readsParcel_121 : decode cX5_readsParcel 121 = .ok (.iconst 3, 1) := by decide +kernel
theorem dX5_readsParcel_122 : decode cX5_readsParcel 122 = .ok (.if_icmp .ne 14, 3) := by decide +kernel
theorem dX5_readsParcel_125 : decode cX5_readsParcel 125 = .ok (.aload_n 0, 1) := by decide +kernel
theorem dX5_readsParcel_126 : decode cX5_readsParcel 126 = .ok (.invokevirtual 212, 3) := by decide +kernel
theorem dX5_readsParcel_129 : decode cX5_readsParcel 129 = .ok (.aload_n 0, 1) := by decide +kernel
theorem dX5_readsParcel_130 : decode cX5_readsParcel 130 = .ok (.iload_n 2, 1) := by decide +kernel
theorem dX5_readsParcel_131 : decode cX5_readsParcel 131 = .ok (.iconst 5, 1) := by decide +kernel
theorem dX5_readsParcel_132 : decode cX5_readsParcel 132 = .ok (.iconst 1, 1) := by decide +kernel
theorem dX5_readsParcel_133 : decode cX5_readsParcel 133 = .ok (.invokevirtual 60, 3) := by decide +kernel
theorem dX5_readsParcel_136 : decode cX5_readsParcel 136 = .ok (.iconst 1, 1) := by decide +kernel
theorem dX5_readsParcel_137 : decode cX5_readsParcel 137 = .ok (.ireturn, 1) := by decide +kernel
set_option maxRecDepth 20000 in
set_option maxHeartbeats 4000000 in
theorem c_X5_readsParcelN {K : Cx} {c : Nat} {s : Nat → Int32} {m : TM} (hn : s 1 = nI 8) : CT yX5_readsParcel cX5_readsParcel 5 (some .boolean) 4 85 K [.ref 49, .int (nI c)] (sr m 50 s) (some (.int (bI false))) (sr m 50 s) := by
  refine ct_ofd (n := 3) (by decide +kernel) rfl rfl ?_
  show XX RX5 cX5_readsParcel 5 (some .boolean) 4 85 K 0 [some (.ref 49), some (.int (nI c)), none, none, none] [] (sr m 50 s) (fun r1 m1 => r1 = (some (.int (bI false))) ∧ m1 = sr m 50 s)
  refine x_aload_n (q := 1) dX5_readsParcel_0 rfl rfl ?_
  refine x_getR (q := 4) dX5_readsParcel_1 rfl fl_X5_9 (or5_s) ?_
  refine x_iconst (q := 5) (v := 1) dX5_readsParcel_4 rfl (by decide) ?_
  refine x_ialdr (q := 6) dX5_readsParcel_5 rfl (ar_50) (ix_nI (k := 1) (by decide) (by decide)) (Nat.zero_add _) ?_
  rw [hn]
  refine x_bipush (q := 8) (v := 8) dX5_readsParcel_6 rfl (by decide) ?_
  refine x_icmp_ne (q := 11) (t := 13) dX5_readsParcel_8 rfl (by decide) (fun h8 => ?_) (fun h8 => ?_)
  · exact absurd rfl h8
  refine x_iconst (q := 12) (v := 0) dX5_readsParcel_11 rfl (by decide) ?_
  refine x_ireturn dX5_readsParcel_12 rfl (by decide) ?_
  exact ⟨rfl, rfl⟩
set_option maxRecDepth 20000 in
set_option maxHeartbeats 4000000 in
theorem l_X5_readsParcel {K : Cx} {L n8 c : Nat} {w : Nat → Int32} {z3 : Int32} {m : TM} (hL2 : L ≤ 120) (hB : ∀ i, i < L → BB (w i) (m.1 54 i)) (hM : ∀ i, i < 40 → m.1 56 i = moL.getD i 0) (h8 : n8 < 8) : ∀ (fu : Nat) (q j : Nat) (s g : Nat → Int32) (v : Int64), 3 - q < fu → q ≤ 3 → RS z3 L w j g v → j ≤ L → XX RX5 cX5_readsParcel 5 (some .boolean) 4 85 K 31 [some (.ref 49), some (.int (nI c)), some (.int (nI n8)), some (.int (nI q)), none] [] (sr (sr (st2 m (v)) 49 (g)) 50 (s)) (fun r1 m1 => r1 = some (.int (bI ((rpF L w n8 (3 - q) q s j).1))) ∧ ∃ g1 v1, RS z3 L w ((rpF L w n8 (3 - q) q s j).2.2) g1 v1 ∧ m1 = sr (sr (st2 m (v1)) 49 (g1)) 50 ((rpF L w n8 (3 - q) q s j).2.1)) := by
  intro fu
  induction fu with
  | zero => intro q j s g v hlt; exact absurd hlt (Nat.not_lt_zero _)
  | succ fu ih =>
    intro q j s g v hlt hq3 hT hj
    have hnj := (nxF_le (w := w) hj).2
    have hnj2 := (nxF_le (w := w) hnj).2
    refine x_iload_n (q := 32) dX5_readsParcel_31 rfl rfl ?_
    refine x_iconst (q := 33) (v := 3) dX5_readsParcel_32 rfl (by decide) ?_
    refine x_icmp_ge (q := 36) (t := 113) dX5_readsParcel_33 rfl (by decide) (fun h33 => ?_) (fun h33 => ?_)
    · have hq0 : 3 - q = 0 := by
        have := lp_stop (n := 3) rfl (by omega) (by omega) h33
        omega
      refine x_aload_n (q := 114) dX5_readsParcel_113 rfl rfl ?_
      refine x_aload_n (q := 115) dX5_readsParcel_114 rfl rfl ?_
      refine x_getR (q := 118) dX5_readsParcel_115 rfl fl_X5_29 (or5_more) ?_
      refine x_callV1v (q := 121) dX5_readsParcel_118 rfl ml_X5_215 mv_X5_wordOf rv5 rfl (c_X5_womo hT hM) (Nat.le_of_ble_eq_true rfl) ⟨by decide, by decide⟩ ?_
      refine x_iconst (q := 122) (v := 3) dX5_readsParcel_121 rfl (by decide) ?_
      refine x_icmp_ne (q := 125) (t := 136) dX5_readsParcel_122 rfl (by decide) (fun h122 => ?_) (fun h122 => ?_)
      · refine x_iconst (q := 137) (v := 1) dX5_readsParcel_136 rfl (by decide) ?_
        refine x_ireturn dX5_readsParcel_137 rfl (by decide) ?_
        have hw3 : ¬ isW L w j 12 = true := fun z => h122 ((wo_is (by decide) (k := 3) (by decide) uM).mpr z)
        have e : rpF L w n8 (3 - q) q s j = (true, s, j) := by rw [hq0, rpF]; unfold hlF; rw [if_neg hw3]
        rw [e]
        exact ⟨rfl, g, v, hT, rfl⟩
      refine x_aload_n (q := 126) dX5_readsParcel_125 rfl rfl ?_
      refine x_callV0u (q := 129) dX5_readsParcel_126 rfl ml_X5_212 mv_X5_nextToken rv5 rfl (c_X5_nextM hT hL2 hj hB) (Nat.le_of_ble_eq_true rfl) ⟨by decide, by decide⟩ (fun m9 h9 => ?_)
      obtain ⟨g126, v126, T126, rfl⟩ := h9
      refine x_aload_n (q := 130) dX5_readsParcel_129 rfl rfl ?_
      refine x_iload_n (q := 131) dX5_readsParcel_130 rfl rfl ?_
      refine x_iconst (q := 132) (v := 5) dX5_readsParcel_131 rfl (by decide) ?_
      refine x_iconst (q := 133) (v := 1) dX5_readsParcel_132 rfl (by decide) ?_
      refine x_callV3n (q := 136) dX5_readsParcel_133 rfl ml_X5_60 mv_X5_puts rv5 rfl (c_X5_putsr (f := 5) h8 (by decide)) (Nat.le_of_ble_eq_true rfl) ⟨by decide, by decide⟩ ?_
      refine x_iconst (q := 137) (v := 1) dX5_readsParcel_136 rfl (by decide) ?_
      refine x_ireturn dX5_readsParcel_137 rfl (by decide) ?_
      have hw3 : isW L w j 12 = true := (wo_is (by decide) (k := 3) (by decide) uM).mp h122
      have e : rpF L w n8 (3 - q) q s j = (true, upd s (12 + 7 * n8 + 5) 1, nxF L w j) := by rw [hq0, rpF]; unfold hlF; rw [if_pos hw3]
      rw [e]
      exact ⟨rfl, g126, v126, T126, rfl⟩
    have hq3 : q < 3 := lp_go (n := 3) rfl (by omega) (by omega) h33
    have e7 : 3 - q = (3 - (q + 1)) + 1 := by omega
    refine x_aload_n (q := 37) dX5_readsParcel_36 rfl rfl ?_
    refine x_aload_n (q := 38) dX5_readsParcel_37 rfl rfl ?_
    refine x_getR (q := 41) dX5_readsParcel_38 rfl fl_X5_29 (or5_more) ?_
    refine x_callV1v (q := 44) dX5_readsParcel_41 rfl ml_X5_215 mv_X5_wordOf rv5 rfl (c_X5_womo hT hM) (Nat.le_of_ble_eq_true rfl) ⟨by decide, by decide⟩ ?_
    refine x_iload_n (q := 45) dX5_readsParcel_44 rfl rfl ?_
    refine x_icmp_ne (q := 48) (t := 107) dX5_readsParcel_45 rfl (by decide) (fun h45 => ?_) (fun h45 => ?_)
    · refine x_iinc (q := 110) (v := nI (q + 1)) dX5_readsParcel_107 rfl rfl (jnI_s q) (by decide) rfl rfl ?_
      refine x_goto (q := 31) dX5_readsParcel_110 (by decide) ?_
      have h45w : ¬ isW L w j (9 + q) = true := fun z => h45 ((wo_is (by decide) (k := q) (by omega) uM).mpr z)
      have e1 : clF L w n8 q s j = (true, s, j) := by unfold clF pF; rw [if_neg h45w]
      have e2 : rpF L w n8 (3 - q) q s j = rpF L w n8 (3 - (q + 1)) (q + 1) s j := by rw [e7, rpF, e1]; rfl
      rw [e2]
      exact x_ls (ih (q + 1) j s g v (by omega) (by omega) hT hj) (And.intro rfl (And.intro rfl (And.intro rfl (And.intro rfl trivial))))
    have h45w : isW L w j (9 + q) = true := (wo_is (by decide) (k := q) (by omega) uM).mp h45
    refine x_aload_n (q := 49) dX5_readsParcel_48 rfl rfl ?_
    refine x_callV0u (q := 52) dX5_readsParcel_49 rfl ml_X5_212 mv_X5_nextToken rv5 rfl (c_X5_nextM hT hL2 hj hB) (Nat.le_of_ble_eq_true rfl) ⟨by decide, by decide⟩ (fun m9 h9 => ?_)
    obtain ⟨g49, v49, T49, rfl⟩ := h9
    refine x_aload_n (q := 53) dX5_readsParcel_52 rfl rfl ?_
    refine x_iload_n (q := 54) dX5_readsParcel_53 rfl rfl ?_
    refine x_iconst (q := 55) (v := 1) dX5_readsParcel_54 rfl (by decide) ?_
    refine x_icmp_ne (q := 58) (t := 62) dX5_readsParcel_55 rfl (by decide) (fun h55 => ?_) (fun h55 => ?_)
    · refine x_iconst (q := 63) (v := 0) dX5_readsParcel_62 rfl (by decide) ?_
      refine x_iload_n (q := 64) dX5_readsParcel_63 rfl rfl ?_
      refine x_if_ne (q := 67) (t := 72) dX5_readsParcel_64 rfl (by decide) (fun h64 => ?_) (fun h64 => ?_)
      · refine x_iload_n (q := 73) dX5_readsParcel_72 rfl rfl ?_
        refine x_iconst (q := 74) (v := 1) dX5_readsParcel_73 rfl (by decide) ?_
        refine x_icmp_ne (q := 77) (t := 82) dX5_readsParcel_74 rfl (by decide) (fun h74 => ?_) (fun h74 => ?_)
        · refine x_sipush (q := 85) (v := 999) dX5_readsParcel_82 rfl (by decide) ?_
          have hq : q = 2 := by
            have z1 : q ≠ 1 := fun z => h55 ((x_ne hq3 (c := 1) (by decide)).mpr z)
            have z0 : q ≠ 0 := fun z => h64 ((x_ne hq3 (c := 0) (by decide)).mpr z)
            omega
          refine x_callV2i (q := 88) dX5_readsParcel_85 rfl ml_X5_219 mv_X5_takesNumber rv5 rfl (c_X5_takesNumber (a := 0) (b := 999) T49 hL2 hnj hB (by decide) (by decide)) (Nat.le_of_ble_eq_true rfl) ⟨by decide, by decide⟩ (fun m9 h9 => ?_)
          obtain ⟨g85, v85, T85, rfl⟩ := h9
          have hcl : clF L w n8 q s j = pF L w n8 (1 + q) (9 + q) 0 999 s j := by unfold clF; rw [hq]; rfl
          refine x_istore (q := 90) dX5_readsParcel_88 rfl (by decide) rfl rfl ?_
          refine x_iload (q := 92) dX5_readsParcel_90 rfl rfl ?_
          refine x_if_ge (q := 95) (t := 97) dX5_readsParcel_92 rfl (by decide) (fun h92 => ?_) (fun h92 => ?_)
          · have hu : nuF L w (nxF L w j) 0 999 = true := ge_nu.mp h92
            rw [if_pos hu] at T85
            rw [if_pos hu]
            refine x_aload_n (q := 98) dX5_readsParcel_97 rfl rfl ?_
            refine x_iload_n (q := 99) dX5_readsParcel_98 rfl rfl ?_
            refine x_iconst (q := 100) (v := 1) dX5_readsParcel_99 rfl (by decide) ?_
            refine x_iload_n (q := 101) dX5_readsParcel_100 rfl rfl ?_
            refine x_iadd (q := 102) dX5_readsParcel_101 rfl ?_
            rw [show (1 : Int32) + nI q = nI (1 + q) from (Int32.ofNat_add 1 q).symm]
            refine x_iload (q := 104) dX5_readsParcel_102 rfl rfl ?_
            refine x_callV3n (q := 107) dX5_readsParcel_104 rfl ml_X5_60 mv_X5_puts rv5 rfl (c_X5_putsr (f := 1 + q) h8 (by omega)) (Nat.le_of_ble_eq_true rfl) ⟨by decide, by decide⟩ ?_
            refine x_iinc (q := 110) (v := nI (q + 1)) dX5_readsParcel_107 rfl rfl (jnI_s q) (by decide) rfl rfl ?_
            refine x_goto (q := 31) dX5_readsParcel_110 (by decide) ?_
            have e1 : clF L w n8 q s j = (true, upd s (12 + 7 * n8 + (1 + q)) (nI (nvF L w (nxF L w j))), nxF L w (nxF L w j)) := by rw [hcl]; unfold pF; rw [if_pos h45w, if_pos hu]
            have e2 : rpF L w n8 (3 - q) q s j = rpF L w n8 (3 - (q + 1)) (q + 1) (upd s (12 + 7 * n8 + (1 + q)) (nI (nvF L w (nxF L w j)))) (nxF L w (nxF L w j)) := by rw [e7, rpF, e1]; rfl
            rw [e2]
            exact x_ls (ih (q + 1) _ _ g85 v85 (by omega) (by omega) T85 hnj2) (And.intro rfl (And.intro rfl (And.intro rfl (And.intro rfl trivial))))
          refine x_iconst (q := 96) (v := 0) dX5_readsParcel_95 rfl (by decide) ?_
          refine x_ireturn dX5_readsParcel_96 rfl (by decide) ?_
          have hf : nuF L w (nxF L w j) 0 999 = false := by
            cases e : nuF L w (nxF L w j) 0 999 with
            | false => rfl
            | true => exact absurd (ge_nu.mpr e) h92
          rw [hf] at T85
          have e1 : clF L w n8 q s j = (false, s, nxF L w j) := by rw [hcl]; unfold pF; rw [if_pos h45w, if_neg (by rw [hf]; decide)]
          have e2 : rpF L w n8 (3 - q) q s j = (false, s, nxF L w j) := by rw [e7, rpF, e1]; rfl
          rw [e2]
          exact ⟨rfl, g85, v85, T85, rfl⟩
        refine x_bipush (q := 79) (v := 99) dX5_readsParcel_77 rfl (by decide) ?_
        refine x_goto (q := 85) dX5_readsParcel_79 (by decide) ?_
        exact absurd h74 h55
      refine x_bipush (q := 69) (v := 20) dX5_readsParcel_67 rfl (by decide) ?_
      refine x_goto (q := 85) dX5_readsParcel_69 (by decide) ?_
      have hq : q = 0 := (x_ne hq3 (c := 0) (by decide)).mp h64
      refine x_callV2i (q := 88) dX5_readsParcel_85 rfl ml_X5_219 mv_X5_takesNumber rv5 rfl (c_X5_takesNumber (a := 0) (b := 20) T49 hL2 hnj hB (by decide) (by decide)) (Nat.le_of_ble_eq_true rfl) ⟨by decide, by decide⟩ (fun m9 h9 => ?_)
      obtain ⟨g85, v85, T85, rfl⟩ := h9
      have hcl : clF L w n8 q s j = pF L w n8 (1 + q) (9 + q) 0 20 s j := by unfold clF; rw [hq]; rfl
      refine x_istore (q := 90) dX5_readsParcel_88 rfl (by decide) rfl rfl ?_
      refine x_iload (q := 92) dX5_readsParcel_90 rfl rfl ?_
      refine x_if_ge (q := 95) (t := 97) dX5_readsParcel_92 rfl (by decide) (fun h92 => ?_) (fun h92 => ?_)
      · have hu : nuF L w (nxF L w j) 0 20 = true := ge_nu.mp h92
        rw [if_pos hu] at T85
        rw [if_pos hu]
        refine x_aload_n (q := 98) dX5_readsParcel_97 rfl rfl ?_
        refine x_iload_n (q := 99) dX5_readsParcel_98 rfl rfl ?_
        refine x_iconst (q := 100) (v := 1) dX5_readsParcel_99 rfl (by decide) ?_
        refine x_iload_n (q := 101) dX5_readsParcel_100 rfl rfl ?_
        refine x_iadd (q := 102) dX5_readsParcel_101 rfl ?_
        rw [show (1 : Int32) + nI q = nI (1 + q) from (Int32.ofNat_add 1 q).symm]
        refine x_iload (q := 104) dX5_readsParcel_102 rfl rfl ?_
        refine x_callV3n (q := 107) dX5_readsParcel_104 rfl ml_X5_60 mv_X5_puts rv5 rfl (c_X5_putsr (f := 1 + q) h8 (by omega)) (Nat.le_of_ble_eq_true rfl) ⟨by decide, by decide⟩ ?_
        refine x_iinc (q := 110) (v := nI (q + 1)) dX5_readsParcel_107 rfl rfl (jnI_s q) (by decide) rfl rfl ?_
        refine x_goto (q := 31) dX5_readsParcel_110 (by decide) ?_
        have e1 : clF L w n8 q s j = (true, upd s (12 + 7 * n8 + (1 + q)) (nI (nvF L w (nxF L w j))), nxF L w (nxF L w j)) := by rw [hcl]; unfold pF; rw [if_pos h45w, if_pos hu]
        have e2 : rpF L w n8 (3 - q) q s j = rpF L w n8 (3 - (q + 1)) (q + 1) (upd s (12 + 7 * n8 + (1 + q)) (nI (nvF L w (nxF L w j)))) (nxF L w (nxF L w j)) := by rw [e7, rpF, e1]; rfl
        rw [e2]
        exact x_ls (ih (q + 1) _ _ g85 v85 (by omega) (by omega) T85 hnj2) (And.intro rfl (And.intro rfl (And.intro rfl (And.intro rfl trivial))))
      refine x_iconst (q := 96) (v := 0) dX5_readsParcel_95 rfl (by decide) ?_
      refine x_ireturn dX5_readsParcel_96 rfl (by decide) ?_
      have hf : nuF L w (nxF L w j) 0 20 = false := by
        cases e : nuF L w (nxF L w j) 0 20 with
        | false => rfl
        | true => exact absurd (ge_nu.mpr e) h92
      rw [hf] at T85
      have e1 : clF L w n8 q s j = (false, s, nxF L w j) := by rw [hcl]; unfold pF; rw [if_pos h45w, if_neg (by rw [hf]; decide)]
      have e2 : rpF L w n8 (3 - q) q s j = (false, s, nxF L w j) := by rw [e7, rpF, e1]; rfl
      rw [e2]
      exact ⟨rfl, g85, v85, T85, rfl⟩
    refine x_iconst (q := 59) (v := 1) dX5_readsParcel_58 rfl (by decide) ?_
    refine x_goto (q := 63) dX5_readsParcel_59 (by decide) ?_
    refine x_iload_n (q := 64) dX5_readsParcel_63 rfl rfl ?_
    refine x_if_ne (q := 67) (t := 72) dX5_readsParcel_64 rfl (by decide) (fun h64 => ?_) (fun h64 => ?_)
    · refine x_iload_n (q := 73) dX5_readsParcel_72 rfl rfl ?_
      refine x_iconst (q := 74) (v := 1) dX5_readsParcel_73 rfl (by decide) ?_
      refine x_icmp_ne (q := 77) (t := 82) dX5_readsParcel_74 rfl (by decide) (fun h74 => ?_) (fun h74 => ?_)
      · refine x_sipush (q := 85) (v := 999) dX5_readsParcel_82 rfl (by decide) ?_
        exact absurd h55 h74
      refine x_bipush (q := 79) (v := 99) dX5_readsParcel_77 rfl (by decide) ?_
      refine x_goto (q := 85) dX5_readsParcel_79 (by decide) ?_
      have hq : q = 1 := (x_ne hq3 (c := 1) (by decide)).mp h55
      refine x_callV2i (q := 88) dX5_readsParcel_85 rfl ml_X5_219 mv_X5_takesNumber rv5 rfl (c_X5_takesNumber (a := 1) (b := 99) T49 hL2 hnj hB (by decide) (by decide)) (Nat.le_of_ble_eq_true rfl) ⟨by decide, by decide⟩ (fun m9 h9 => ?_)
      obtain ⟨g85, v85, T85, rfl⟩ := h9
      have hcl : clF L w n8 q s j = pF L w n8 (1 + q) (9 + q) 1 99 s j := by unfold clF; rw [hq]; rfl
      refine x_istore (q := 90) dX5_readsParcel_88 rfl (by decide) rfl rfl ?_
      refine x_iload (q := 92) dX5_readsParcel_90 rfl rfl ?_
      refine x_if_ge (q := 95) (t := 97) dX5_readsParcel_92 rfl (by decide) (fun h92 => ?_) (fun h92 => ?_)
      · have hu : nuF L w (nxF L w j) 1 99 = true := ge_nu.mp h92
        rw [if_pos hu] at T85
        rw [if_pos hu]
        refine x_aload_n (q := 98) dX5_readsParcel_97 rfl rfl ?_
        refine x_iload_n (q := 99) dX5_readsParcel_98 rfl rfl ?_
        refine x_iconst (q := 100) (v := 1) dX5_readsParcel_99 rfl (by decide) ?_
        refine x_iload_n (q := 101) dX5_readsParcel_100 rfl rfl ?_
        refine x_iadd (q := 102) dX5_readsParcel_101 rfl ?_
        rw [show (1 : Int32) + nI q = nI (1 + q) from (Int32.ofNat_add 1 q).symm]
        refine x_iload (q := 104) dX5_readsParcel_102 rfl rfl ?_
        refine x_callV3n (q := 107) dX5_readsParcel_104 rfl ml_X5_60 mv_X5_puts rv5 rfl (c_X5_putsr (f := 1 + q) h8 (by omega)) (Nat.le_of_ble_eq_true rfl) ⟨by decide, by decide⟩ ?_
        refine x_iinc (q := 110) (v := nI (q + 1)) dX5_readsParcel_107 rfl rfl (jnI_s q) (by decide) rfl rfl ?_
        refine x_goto (q := 31) dX5_readsParcel_110 (by decide) ?_
        have e1 : clF L w n8 q s j = (true, upd s (12 + 7 * n8 + (1 + q)) (nI (nvF L w (nxF L w j))), nxF L w (nxF L w j)) := by rw [hcl]; unfold pF; rw [if_pos h45w, if_pos hu]
        have e2 : rpF L w n8 (3 - q) q s j = rpF L w n8 (3 - (q + 1)) (q + 1) (upd s (12 + 7 * n8 + (1 + q)) (nI (nvF L w (nxF L w j)))) (nxF L w (nxF L w j)) := by rw [e7, rpF, e1]; rfl
        rw [e2]
        exact x_ls (ih (q + 1) _ _ g85 v85 (by omega) (by omega) T85 hnj2) (And.intro rfl (And.intro rfl (And.intro rfl (And.intro rfl trivial))))
      refine x_iconst (q := 96) (v := 0) dX5_readsParcel_95 rfl (by decide) ?_
      refine x_ireturn dX5_readsParcel_96 rfl (by decide) ?_
      have hf : nuF L w (nxF L w j) 1 99 = false := by
        cases e : nuF L w (nxF L w j) 1 99 with
        | false => rfl
        | true => exact absurd (ge_nu.mpr e) h92
      rw [hf] at T85
      have e1 : clF L w n8 q s j = (false, s, nxF L w j) := by rw [hcl]; unfold pF; rw [if_pos h45w, if_neg (by rw [hf]; decide)]
      have e2 : rpF L w n8 (3 - q) q s j = (false, s, nxF L w j) := by rw [e7, rpF, e1]; rfl
      rw [e2]
      exact ⟨rfl, g85, v85, T85, rfl⟩
    refine x_bipush (q := 69) (v := 20) dX5_readsParcel_67 rfl (by decide) ?_
    refine x_goto (q := 85) dX5_readsParcel_69 (by decide) ?_
    exact absurd (h55.symm.trans h64) (by decide)
set_option maxRecDepth 20000 in
set_option maxHeartbeats 4000000 in
theorem c_X5_readsParcel {K : Cx} {L j n8 c : Nat} {w g s : Nat → Int32} {z3 : Int32} {v : Int64} {m : TM} (hT : RS z3 L w j g v) (hL2 : L ≤ 120) (hj : j ≤ L) (hB : ∀ i, i < L → BB (w i) (m.1 54 i)) (hM : ∀ i, i < 40 → m.1 56 i = moL.getD i 0) (hn : s 1 = nI n8) (h8 : n8 < 8) : CQ yX5_readsParcel cX5_readsParcel 5 (some .boolean) 4 85 K [.ref 49, .int (nI c)] (sr (sr (st2 m (v)) 49 (g)) 50 (s)) (fun r1 m1 => r1 = some (.int (bI ((pcF L w n8 c s j).1))) ∧ ∃ g1 v1, RS z3 L w ((pcF L w n8 c s j).2.2) g1 v1 ∧ m1 = sr (sr (st2 m (v1)) 49 (g1)) 50 ((pcF L w n8 c s j).2.1)) := by
  refine ct_ofq (n := 3) (by decide +kernel) rfl rfl ?_
  show XX RX5 cX5_readsParcel 5 (some .boolean) 4 85 K 0 [some (.ref 49), some (.int (nI c)), none, none, none] [] (sr (sr (st2 m (v)) 49 (g)) 50 (s)) (fun r1 m1 => r1 = some (.int (bI ((pcF L w n8 c s j).1))) ∧ ∃ g1 v1, RS z3 L w ((pcF L w n8 c s j).2.2) g1 v1 ∧ m1 = sr (sr (st2 m (v1)) 49 (g1)) 50 ((pcF L w n8 c s j).2.1))
  refine x_aload_n (q := 1) dX5_readsParcel_0 rfl rfl ?_
  refine x_getR (q := 4) dX5_readsParcel_1 rfl fl_X5_9 (or5_s) ?_
  refine x_iconst (q := 5) (v := 1) dX5_readsParcel_4 rfl (by decide) ?_
  refine x_ialdr (q := 6) dX5_readsParcel_5 rfl (ar_50) (ix_nI (k := 1) (by decide) (by decide)) (Nat.zero_add _) ?_
  rw [hn]
  refine x_bipush (q := 8) (v := 8) dX5_readsParcel_6 rfl (by decide) ?_
  refine x_icmp_ne (q := 11) (t := 13) dX5_readsParcel_8 rfl (by decide) (fun h8_ => ?_) (fun h8_ => ?_)
  · refine x_aload_n (q := 14) dX5_readsParcel_13 rfl rfl ?_
    refine x_getR (q := 17) dX5_readsParcel_14 rfl fl_X5_9 (or5_s) ?_
    refine x_iconst (q := 18) (v := 1) dX5_readsParcel_17 rfl (by decide) ?_
    refine x_ialdr (q := 19) dX5_readsParcel_18 rfl (ar_50) (ix_nI (k := 1) (by decide) (by decide)) (Nat.zero_add _) ?_
    rw [hn]
    refine x_istore_n (q := 20) dX5_readsParcel_19 rfl (by decide) rfl rfl ?_
    refine x_aload_n (q := 21) dX5_readsParcel_20 rfl rfl ?_
    refine x_iload_n (q := 22) dX5_readsParcel_21 rfl rfl ?_
    refine x_callV1n (q := 25) dX5_readsParcel_22 rfl ml_X5_106 mv_X5_adds rv5 rfl (c_X5_adds hn h8) (Nat.le_of_ble_eq_true rfl) ⟨by decide, by decide⟩ ?_
    refine x_aload_n (q := 26) dX5_readsParcel_25 rfl rfl ?_
    refine x_callV0u (q := 29) dX5_readsParcel_26 rfl ml_X5_212 mv_X5_nextToken rv5 rfl (c_X5_nextM hT hL2 hj hB) (Nat.le_of_ble_eq_true rfl) ⟨by decide, by decide⟩ (fun m9 h9 => ?_)
    obtain ⟨g26, v26, T26, rfl⟩ := h9
    refine x_iconst (q := 30) (v := 0) dX5_readsParcel_29 rfl (by decide) ?_
    refine x_istore_n (q := 31) dX5_readsParcel_30 rfl (by decide) rfl rfl ?_
    rw [pc_rp]
    exact l_X5_readsParcel hL2 hB hM h8 4 0 _ _ g26 v26 (by omega) (by omega) T26 (nxF_le hj).2
  exact absurd ((jnI_inj (a := n8) (b := 8) (by omega) (by decide)).mp h8_) (by omega)
