/-! what stays true of a coast's row -/
def Iv (n : Nat) (s : Nat → Int32) : Prop := n ≤ 8 ∧ s 1 = nI n ∧ (∃ d, d ≤ 99999 ∧ s 0 = nI d) ∧ (∃ l, l ≤ 9999 ∧ s 4 = nI l) ∧ (∀ k, k < n → (s (12 + 7 * k + 5) = 0 ∨ s (12 + 7 * k + 5) = 1) ∧ ∃ c, c ≤ 6 ∧ s (12 + 7 * k + 0) = nI c) ∧ (∀ j, j < 10 → s (68 + j) = -1 ∨ ∃ k, k < n ∧ s (68 + j) = nI k)
theorem rm6_nI {x : Nat} (h : x < 2147483648) : rm6 (nI x) = nI (x % 6) := pk_rem (d := 6) h (by decide) (by decide)
theorem Iv.td {n : Nat} {s : Nat → Int32} (h : Iv n s) : TD s := by
  obtain ⟨-, -, ⟨d, hd, e0⟩, ⟨l, hl, e4⟩, -⟩ := h
  have e : rm6 (s 0 + s 4) = nI ((d + l) % 6) := by rw [e0, e4, nI_add, rm6_nI (by omega)]
  unfold TD tdx
  rw [e]
  have h6 : (d + l) % 6 < 6 := Nat.mod_lt _ (by decide)
  rw [jnI_clamp (by omega)]
  exact ix_nI h6 (by decide)
theorem minI_nI {a b : Nat} (ha : a < 2147483648) (hb : b < 2147483648) : minI (nI a) (nI b) = nI (min a b) := by
  unfold minI
  by_cases h : b < a
  · rw [if_pos ((jnI_lt hb ha).mpr h), Nat.min_eq_right (by omega)]
  · rw [if_neg (fun q => h ((jnI_lt hb ha).mp q)), Nat.min_eq_left (by omega)]
theorem dly_nI (x : Int32) : ∃ c, c ≤ 2 ∧ dly x = nI c := by
  unfold dly
  split
  · exact ⟨1, by decide, rfl⟩
  · split
    · exact ⟨2, by decide, rfl⟩
    · exact ⟨0, by decide, rfl⟩
theorem laL_nI {s : Nat → Int32} {t : Int32} {l : Nat} (hl : l ≤ 9999) (e : s 4 = nI l) : ∀ j, ∃ l2, l2 ≤ 9999 ∧ laL s t j = nI l2
  | 0 => ⟨l, hl, e⟩
  | j + 1 => by
    obtain ⟨l2, h2, e2⟩ := laL_nI hl e j
    obtain ⟨c, hc, ec⟩ := dly_nI (pf s j 0)
    by_cases hk : tk3 t (s 0) (pf s j)
    · refine ⟨min (l2 + c) 9999, by omega, ?_⟩
      simp only [laL, if_pos hk]
      rw [e2, ec, nI_add, show (9999 : Int32) = nI 9999 from rfl, minI_nI (by omega) (by omega)]
    · exact ⟨l2, h2, by simp only [laL, if_neg hk]; exact e2⟩
theorem dyC_lo {s : Nat → Int32} {n i : Nat} (h : i < 12) (h0 : i ≠ 0) (h3 : i ≠ 3) (h4 : i ≠ 4) : dyC s n i = s i := by
  unfold dyC
  rw [upd_ne h0, dyL_lo h h3 h4]
theorem dyC_0 {s : Nat → Int32} {n : Nat} : dyC s n 0 = minI (s 0 + 1) 99999 := by
  unfold dyC
  rw [upd_self, dyL_lo (by decide) (by decide) (by decide)]
theorem dyC_3 {s : Nat → Int32} {n : Nat} : dyC s n 3 = amL s (tdF s) n := by
  unfold dyC
  rw [upd_ne (by decide), (dyL_all n).2.2.1]
theorem dyC_4 {s : Nat → Int32} {n : Nat} : dyC s n 4 = laL s (tdF s) n := by
  unfold dyC
  rw [upd_ne (by decide), (dyL_all n).2.2.2]
theorem dyC_p {s : Nat → Int32} {n k f : Nat} (hk : k < n) (hf : f < 7) : dyC s n (12 + 7 * k + f) = stp (tdF s) (s 0) (pf s k) f := by
  unfold dyC
  rw [upd_ne (by omega), (dyL_all n).2.1 k hk f hf]
theorem dyC_hi {s : Nat → Int32} {n i : Nat} (h : 12 + 7 * n ≤ i) : dyC s n i = s i := by
  unfold dyC
  rw [upd_ne (by omega), (dyL_all n).1 i h]
theorem Iv.day {n : Nat} {s : Nat → Int32} (h : Iv n s) : Iv n (dyC s n) := by
  obtain ⟨h8, e1, ⟨d, hd, e0⟩, ⟨l, hl, e4⟩, hp, hs⟩ := h
  refine ⟨h8, by rw [dyC_lo (by decide) (by decide) (by decide) (by decide), e1], ⟨min (d + 1) 99999, by omega, ?_⟩, ?_, fun k hk => ?_, fun j hj => ?_⟩
  · rw [dyC_0, e0, nI_1, show (99999 : Int32) = nI 99999 from rfl, minI_nI (by omega) (by omega)]
  · rw [dyC_4]
    exact laL_nI hl e4 n
  · rw [dyC_p hk (by decide), dyC_p hk (by decide), stp_keep.1, stp_keep.2.2]
    exact hp k hk
  · rw [dyC_hi (by omega)]
    exact hs j hj
theorem Iv.days {n : Nat} : ∀ (c : Nat) {s : Nat → Int32}, Iv n s → Iv n (dysC n c s)
  | 0, _, h => h
  | c + 1, _, h => Iv.days c h.day
theorem dysC_s {n : Nat} : ∀ (c : Nat) (s : Nat → Int32), dysC n (c + 1) s = dyC (dysC n c s) n
  | 0, _ => rfl
  | c + 1, s => dysC_s c (dyC s n)
/-! the world sees only what has a place -/
def Ag (m m' : TM) : Prop := m.2 = m'.2 ∧ ∀ o, o < 62 → ∀ k, k < ln o → isI o k = true → rdI m o k = rdI m' o k
theorem ag_ws {K : Cx} {m m' : TM} (h : Ag m m') : wsOf K m = wsOf K m' := by
  apply List.ext_getElem?
  intro i
  by_cases h2 : i < 62
  · rw [ws_get h2, ws_get h2]
    have e : cellOf K m i = cellOf K m' i := by
      by_cases h6 : kd i < 6
      · rw [cell_obj h6, cell_obj h6]
        refine congrArg (fun z => Sum.inr (kd i, z)) (List.map_congr_left fun j hj => congrArg (vmp K) ?_)
        have hj' : j < ln i := List.mem_range.mp hj
        by_cases hf : fk (kd i) j = 0
        · rw [VL_int h6 hf, VL_int h6 hf, h.2 i h2 j hj' (by simp [isI, h6, hf])]
        · simp [VL, hf, h.1]
      · by_cases h9 : kd i < 9
        · rw [cell_arr h6 h9, cell_arr h6 h9]
          refine congrArg (fun z => Sum.inl (kcA K (kd i), ln i, Sum.inl z)) (funext fun j => ?_)
          by_cases hj : j < ln i
          · rw [if_pos hj, if_pos hj, h.2 i h2 j hj (by simp [isI, h6, h9]; omega)]
          · rw [if_neg hj, if_neg hj]
        · rw [cell_rarr h9, cell_rarr h9]
    rw [e]
  · have h3 : ∀ n : TM, (wsOf K n)[i]? = none := fun n => by simp [wsOf]; omega
    rw [h3, h3]
def rsz (r : Nat) : Nat := if r = 1 ∨ r = 13 ∨ r = 25 ∨ r = 50 ∨ r = 51 ∨ r = 52 then 78 else if r = 38 ∨ r = 54 then 120 else if r = 43 ∨ r = 60 then 160 else if r = 61 ∨ r = 56 then 40 else if r = 40 ∨ r = 53 then 7 else if r = 55 then 70 else if r = 57 then 20 else if r = 41 ∨ r = 42 ∨ r = 58 ∨ r = 59 then 4 else 20
set_option maxRecDepth 100000 in
theorem lc_rsz : ∀ o, o < 62 → ∀ k, k < ln o → isI o k = true → (lc o k).2 < rsz (lc o k).1 := by decide +kernel
theorem ag_of {m m' : TM} (h2 : m.2 = m'.2) (h : ∀ r i, i < rsz r → m.1 r i = m'.1 r i) : Ag m m' := ⟨h2, fun o ho k hk hi => h _ _ (lc_rsz o ho k hk hi)⟩
/-- a row may be changed beyond its length -/
theorem ag_row {m : TM} {r : Nat} {f g : Nat → Int32} (h : ∀ i, i < rsz r → f i = g i) : Ag (sr m r f) (sr m r g) := by
  refine ag_of rfl fun a i hi => ?_
  unfold sr
  dsimp only
  by_cases e : a = r
  · subst e
    rw [if_pos rfl, if_pos rfl, h i hi]
  · rw [if_neg e, if_neg e]
theorem x_ag {own : String} {cc : ByteArray} {mL : Nat} {rt : Option FieldType} {fr lo : Nat} {K : Cx} {pc : Nat} {ls : List (Option Value)} {st : List Value} {m m' : TM} {Q : Option Value → TM → Prop} (h : Ag m m') (kk : XX own cc mL rt fr lo K pc ls st m' Q) : XX own cc mL rt fr lo K pc ls st m Q := by
  intro p e s mi args below meth c H locs arr C hP hD hS hL
  rw [ag_ws h] at hP hD
  exact kk p e s mi args below meth c H locs arr C hP hD hS hL
theorem dX0_passDays_0 : decode cX0_passDays 0 = .ok (.iconst 0, 1) := by decide +kernel
theorem dX0_passDays_1 : decode cX0_passDays 1 = .ok (.istore_n 2, 1) := by decide +kernel
theorem dX0_passDays_2 : decode cX0_passDays 2 = .ok (.iload_n 2, 1) := by decide +kernel
theorem dX0_passDays_3 : decode cX0_passDays 3 = .ok (.iload_n 1, 1) := by decide +kernel
theorem dX0_passDays_4 : decode cX0_passDays 4 = .ok (.if_icmp .ge 13, 3) := by decide +kernel
theorem dX0_passDays_7 : decode cX0_passDays 7 = .ok (.aload_n 0, 1) := by decide +kernel
theorem dX0_passDays_8 : decode cX0_passDays 8 = .ok (.invokevirtual 58, 3) := by decide +kernel
theorem dX0_passDays_11 : decode cX0_passDays 11 = .ok (.iinc 2 1, 3) := by decide +kernel
theorem dX0_passDays_14 : decode cX0_passDays 14 = .ok (.goto (-12), 3) := by decide +kernel
theorem dX0_passDays_17 : decode cX0_passDays 17 = .ok (.return_, 1) := by decide +kernel
set_option maxRecDepth 20000 in
set_option maxHeartbeats 4000000 in
theorem l_X0_passDays {K : Cx} {b n8 c : Nat} {m : TM} (hb : isC b) (hc : c ≤ 1000) : ∀ (n : Nat) (j : Nat) (s : Nat → Int32), c - j < n → j ≤ c → Iv n8 s → XX RX0 cX0_passDays 3 none 4 87 K 2 [some (.ref b), some (.int (nI c)), some (.int (nI j))] [] (sr m b s) (fun r1 m1 => r1 = none ∧ m1 = sr m b (dysC n8 (c - j) s)) := by
  intro n
  induction n with
  | zero => intro j s hlt; exact absurd hlt (Nat.not_lt_zero _)
  | succ n ih =>
    intro j s hlt hj hI
    refine x_iload_n (q := 3) dX0_passDays_2 rfl rfl ?_
    refine x_iload_n (q := 4) dX0_passDays_3 rfl rfl ?_
    refine x_icmp_ge (q := 7) (t := 17) dX0_passDays_4 rfl (by decide) (fun h4 => ?_) (fun h4 => ?_)
    · refine x_return dX0_passDays_17 rfl ?_
      have e : j = c := Nat.le_antisymm hj (lp_stop rfl (by omega) (by omega) h4)
      subst e
      exact ⟨rfl, by rw [Nat.sub_self]; rfl⟩
    have hjn : j < c := lp_go rfl (by omega) (by omega) h4
    refine x_aload_n (q := 8) dX0_passDays_7 rfl rfl ?_
    refine x_callV0n (q := 11) dX0_passDays_8 rfl ml_X0_58 mv_X0_passDay (rv0 hb) rfl (c_X0_passDay hb hI.2.1 hI.1 hI.td) (Nat.le_of_ble_eq_true rfl) ⟨by decide, by decide⟩ ?_
    refine x_iinc (q := 14) (v := nI (j + 1)) dX0_passDays_11 rfl rfl (jnI_s j) (by decide) rfl rfl ?_
    refine x_goto (q := 2) dX0_passDays_14 (by decide) ?_
    have e : c - j = (c - (j + 1)) + 1 := by omega
    rw [e]
    exact ih (j + 1) (dyC s n8) (by omega) (by omega) hI.day
set_option maxRecDepth 20000 in
set_option maxHeartbeats 4000000 in
theorem c_X0_passDays {K : Cx} {b n8 c : Nat} {s : Nat → Int32} {m : TM} (hb : isC b) (hc : c ≤ 1000) (hI : Iv n8 s) : CT yX0_passDays cX0_passDays 3 none 4 87 K [.ref b, .int (nI c)] (sr m b s) none (sr m b (dysC n8 c s)) := by
  refine ct_ofd (n := 1) (by decide +kernel) rfl rfl ?_
  show XX RX0 cX0_passDays 3 none 4 87 K 0 [some (.ref b), some (.int (nI c)), none] [] (sr m b s) (fun r1 m1 => r1 = none ∧ m1 = sr m b (dysC n8 c s))
  refine x_iconst (q := 1) (v := 0) dX0_passDays_0 rfl (by decide) ?_
  refine x_istore_n (q := 2) dX0_passDays_1 rfl (by decide) rfl rfl ?_
  exact l_X0_passDays hb hc (c + 1) 0 s (by omega) (by omega) hI
