/-! A DAY, parcel by parcel -/
def pf (s : Nat → Int32) (k : Nat) : Nat → Int32 := fun f => s (12 + 7 * k + f)
theorem pf_upd {s : Nat → Int32} {k c : Nat} {v : Int32} : pf (upd s (12 + 7 * k + c) v) k = upd (pf s k) c v := by
  funext f
  unfold pf upd
  by_cases h : f = c
  · subst h; simp
  · have h2 : ¬ 12 + 7 * k + f = 12 + 7 * k + c := by omega
    simp [h, h2]
theorem pf_lo {s : Nat → Int32} {k i : Nat} {v : Int32} (h : i < 12) : pf (upd s i v) k = pf s k := by
  funext f
  unfold pf
  exact upd_ne (by omega)
def trp (p : Nat → Int32) : Nat → Int32 := upd (upd p 6 (minI (p 6 + 1) 9999)) 1 (minI (p 1 + mvC (p 0)) 20)
def wap (p : Nat → Int32) : Nat → Int32 := if las (p 0) < minI (p 3 + 1) 9999 then upd (upd p 3 (minI (p 3 + 1) 9999)) 4 2 else upd p 3 (minI (p 3 + 1) 9999)
def tkp (t d : Int32) (p : Nat → Int32) : Bool := sg (p 0) (p 1) (p 2) (p 6) d t
def mep (t d : Int32) (p : Nat → Int32) : Nat → Int32 := if tkp t d p = true then upd p 4 1 else if tch (p 1) t = true then trp p else p
def mtp (t d : Int32) (p : Nat → Int32) : Nat → Int32 := if p 4 = 0 then (if p 5 = 0 then mep t d p else p) else p
def wtp (p : Nat → Int32) : Nat → Int32 := if p 4 = 0 then wap p else p
/-- a parcel's day -/
def stp (t d : Int32) (p : Nat → Int32) : Nat → Int32 := wtp (mtp t d p)
/-- it is taken on it -/
def tk3 (t d : Int32) (p : Nat → Int32) : Prop := p 4 = 0 ∧ p 5 = 0 ∧ tkp t d p = true
theorem pf_trn {s : Nat → Int32} {k : Nat} : pf (trn s k) k = trp (pf s k) := by
  unfold trn trp
  rw [pf_upd, pf_upd]
  rfl
theorem pf_wat {s : Nat → Int32} {k : Nat} : pf (wat s k) k = wap (pf s k) := by
  unfold wat wap
  by_cases h : las (s (12 + 7 * k + 0)) < minI (s (12 + 7 * k + 3) + 1) 9999
  · rw [if_pos h, if_pos (show las (pf s k 0) < minI (pf s k 3 + 1) 9999 from h), pf_upd, pf_upd]
    rfl
  · rw [if_neg h, if_neg (show ¬ las (pf s k 0) < minI (pf s k 3 + 1) 9999 from h), pf_upd]
    rfl
theorem pf_meF {s : Nat → Int32} {k : Nat} {t : Int32} : pf (meF s k t) k = mep t (s 0) (pf s k) := by
  unfold meF mep
  by_cases h : sg (s (12 + 7 * k + 0)) (s (12 + 7 * k + 1)) (s (12 + 7 * k + 2)) (s (12 + 7 * k + 6)) (s 0) t = true
  · rw [if_pos h, if_pos (show tkp t (s 0) (pf s k) = true from h), pf_lo (by decide), pf_lo (by decide), pf_upd]
  · rw [if_neg h, if_neg (show ¬ tkp t (s 0) (pf s k) = true from h)]
    by_cases h2 : tch (s (12 + 7 * k + 1)) t = true
    · rw [if_pos h2, if_pos (show tch (pf s k 1) t = true from h2), pf_trn]
    · rw [if_neg h2, if_neg (show ¬ tch (pf s k 1) t = true from h2)]
theorem pf_mtC {u : Nat → Int32} {j : Nat} {t : Int32} : pf (mtC u t j) j = mtp t (u 0) (pf u j) := by
  unfold mtC mtp
  by_cases h : u (12 + 7 * j + 4) = 0
  · rw [if_pos h, if_pos (show pf u j 4 = 0 from h)]
    by_cases h2 : u (12 + 7 * j + 5) = 0
    · rw [if_pos h2, if_pos (show pf u j 5 = 0 from h2), pf_meF]
    · rw [if_neg h2, if_neg (show ¬ pf u j 5 = 0 from h2)]
  · rw [if_neg h, if_neg (show ¬ pf u j 4 = 0 from h)]
def wt1 (u : Nat → Int32) (j : Nat) : Nat → Int32 := if u (12 + 7 * j + 4) = 0 then wat u j else u
theorem pf_wt1 {u : Nat → Int32} {j : Nat} : pf (wt1 u j) j = wtp (pf u j) := by
  unfold wt1 wtp
  by_cases h : u (12 + 7 * j + 4) = 0
  · rw [if_pos h, if_pos (show pf u j 4 = 0 from h), pf_wat]
  · rw [if_neg h, if_neg (show ¬ pf u j 4 = 0 from h)]
theorem stC_wt {u : Nat → Int32} {j : Nat} {t : Int32} : stC u t j = wt1 (mtC u t j) j := rfl
theorem pf_stC {u : Nat → Int32} {j : Nat} {t : Int32} : pf (stC u t j) j = stp t (u 0) (pf u j) := by rw [stC_wt, pf_wt1, pf_mtC]; rfl
theorem trn_out {s : Nat → Int32} {k i : Nat} (h : i < 12 + 7 * k ∨ 12 + 7 * k + 7 ≤ i) : trn s k i = s i := by
  unfold trn
  rw [upd_ne (by omega), upd_ne (by omega)]
theorem wat_out {s : Nat → Int32} {k i : Nat} (h : i < 12 + 7 * k ∨ 12 + 7 * k + 7 ≤ i) : wat s k i = s i := by
  unfold wat
  split
  · rw [upd_ne (by omega), upd_ne (by omega)]
  · rw [upd_ne (by omega)]
theorem meF_out {s : Nat → Int32} {k i : Nat} {t : Int32} (h3 : i ≠ 3) (h4 : i ≠ 4) (h : i < 12 + 7 * k ∨ 12 + 7 * k + 7 ≤ i) : meF s k t i = s i := by
  unfold meF
  split
  · rw [upd_ne h4, upd_ne h3, upd_ne (by omega)]
  · split
    · exact trn_out h
    · rfl
theorem mtC_out {s : Nat → Int32} {k i : Nat} {t : Int32} (h3 : i ≠ 3) (h4 : i ≠ 4) (h : i < 12 + 7 * k ∨ 12 + 7 * k + 7 ≤ i) : mtC s t k i = s i := by
  unfold mtC
  split
  · split
    · exact meF_out h3 h4 h
    · rfl
  · rfl
theorem wt1_out {s : Nat → Int32} {k i : Nat} (h : i < 12 + 7 * k ∨ 12 + 7 * k + 7 ≤ i) : wt1 s k i = s i := by
  unfold wt1
  split
  · exact wat_out h
  · rfl
theorem stC_out {s : Nat → Int32} {k i : Nat} {t : Int32} (h3 : i ≠ 3) (h4 : i ≠ 4) (h : i < 12 + 7 * k ∨ 12 + 7 * k + 7 ≤ i) : stC s t k i = s i := by
  rw [stC_wt, wt1_out h, mtC_out h3 h4 h]
theorem mtC_3 {u : Nat → Int32} {j : Nat} {t : Int32} : (tk3 t (u 0) (pf u j) → mtC u t j 3 = minI (u 3 + pys (pf u j 0) (pf u j 2)) 99999 ∧ mtC u t j 4 = minI (u 4 + dly (pf u j 0)) 9999) ∧ (¬ tk3 t (u 0) (pf u j) → mtC u t j 3 = u 3 ∧ mtC u t j 4 = u 4) := by
  constructor
  · rintro ⟨h1, h2, h3⟩
    have e : mtC u t j = meF u j t := by unfold mtC; rw [if_pos (show u (12 + 7 * j + 4) = 0 from h1), if_pos (show u (12 + 7 * j + 5) = 0 from h2)]
    rw [e]
    unfold meF
    rw [if_pos (show sg (u (12 + 7 * j + 0)) (u (12 + 7 * j + 1)) (u (12 + 7 * j + 2)) (u (12 + 7 * j + 6)) (u 0) t = true from h3)]
    exact ⟨by rw [upd_ne (by decide), upd_self]; rfl, by rw [upd_self]; rfl⟩
  · intro h
    unfold mtC
    split
    · rename_i h1
      split
      · rename_i h2
        unfold meF
        split
        · rename_i h3
          exact absurd ⟨h1, h2, h3⟩ h
        · split
          · exact ⟨trn_lo (by decide), trn_lo (by decide)⟩
          · exact ⟨rfl, rfl⟩
      · exact ⟨rfl, rfl⟩
    · exact ⟨rfl, rfl⟩
noncomputable def amL (s : Nat → Int32) (t : Int32) : Nat → Int32
  | 0 => s 3
  | j + 1 => by
    classical
    exact if tk3 t (s 0) (pf s j) then minI (amL s t j + pys (pf s j 0) (pf s j 2)) 99999 else amL s t j
noncomputable def laL (s : Nat → Int32) (t : Int32) : Nat → Int32
  | 0 => s 4
  | j + 1 => by
    classical
    exact if tk3 t (s 0) (pf s j) then minI (laL s t j + dly (pf s j 0)) 9999 else laL s t j
/-- what the class's loop makes of a row -/
theorem dyL_all {s : Nat → Int32} {t : Int32} : ∀ j, (∀ i, 12 + 7 * j ≤ i → dyL s t j i = s i) ∧ (∀ k, k < j → ∀ f, f < 7 → dyL s t j (12 + 7 * k + f) = stp t (s 0) (pf s k) f) ∧ dyL s t j 3 = amL s t j ∧ dyL s t j 4 = laL s t j
  | 0 => ⟨fun _ _ => rfl, fun k hk => absurd hk (Nat.not_lt_zero k), rfl, rfl⟩
  | j + 1 => by
    obtain ⟨h1, h2, h3, h4⟩ := dyL_all (s := s) (t := t) j
    have h0 : dyL s t j 0 = s 0 := dyL_lo (by decide) (by decide) (by decide) j
    have hp : pf (dyL s t j) j = pf s j := funext fun f => h1 _ (by omega)
    refine ⟨fun i hi => ?_, fun k hk f hf => ?_, ?_, ?_⟩
    · show stC (dyL s t j) t j i = s i
      rw [stC_out (by omega) (by omega) (by omega), h1 i (by omega)]
    · show stC (dyL s t j) t j (12 + 7 * k + f) = _
      by_cases hkj : k = j
      · subst hkj
        have e := congrFun (pf_stC (u := dyL s t k) (j := k) (t := t)) f
        rw [h0, hp] at e
        exact e
      · rw [stC_out (by omega) (by omega) (by omega)]
        exact h2 k (by omega) f hf
    · show stC (dyL s t j) t j 3 = _
      rw [stC_wt, wt1_out (by omega)]
      by_cases hk : tk3 t (s 0) (pf s j)
      · have e := mtC_3 (u := dyL s t j) (j := j) (t := t)
        rw [h0, hp] at e
        rw [(e.1 hk).1, h3]
        simp [amL, hk]
      · have e := mtC_3 (u := dyL s t j) (j := j) (t := t)
        rw [h0, hp] at e
        rw [(e.2 hk).1, h3]
        simp [amL, hk]
    · show stC (dyL s t j) t j 4 = _
      rw [stC_wt, wt1_out (by omega)]
      by_cases hk : tk3 t (s 0) (pf s j)
      · have e := mtC_3 (u := dyL s t j) (j := j) (t := t)
        rw [h0, hp] at e
        rw [(e.1 hk).2, h4]
        simp [laL, hk]
      · have e := mtC_3 (u := dyL s t j) (j := j) (t := t)
        rw [h0, hp] at e
        rw [(e.2 hk).2, h4]
        simp [laL, hk]
/-- the reference's two loops -/
def mL1 (s : Nat → Int32) (t : Int32) : Nat → Nat → Int32
  | 0 => s
  | j + 1 => mtC (mL1 s t j) t j
def mL2 (r : Nat → Int32) : Nat → Nat → Int32
  | 0 => r
  | j + 1 => wt1 (mL2 r j) j
theorem mL1_lo {s : Nat → Int32} {t : Int32} {i : Nat} (h : i < 12) (h3 : i ≠ 3) (h4 : i ≠ 4) : ∀ j, mL1 s t j i = s i
  | 0 => rfl
  | j + 1 => by rw [mL1, mtC_lo h h3 h4, mL1_lo h h3 h4 j]
theorem mL1_all {s : Nat → Int32} {t : Int32} : ∀ j, (∀ i, 12 + 7 * j ≤ i → mL1 s t j i = s i) ∧ (∀ k, k < j → ∀ f, f < 7 → mL1 s t j (12 + 7 * k + f) = mtp t (s 0) (pf s k) f) ∧ mL1 s t j 3 = amL s t j ∧ mL1 s t j 4 = laL s t j
  | 0 => ⟨fun _ _ => rfl, fun k hk => absurd hk (Nat.not_lt_zero k), rfl, rfl⟩
  | j + 1 => by
    obtain ⟨h1, h2, h3, h4⟩ := mL1_all (s := s) (t := t) j
    have h0 : mL1 s t j 0 = s 0 := mL1_lo (by decide) (by decide) (by decide) j
    have hp : pf (mL1 s t j) j = pf s j := funext fun f => h1 _ (by omega)
    have e := mtC_3 (u := mL1 s t j) (j := j) (t := t)
    rw [h0, hp] at e
    refine ⟨fun i hi => ?_, fun k hk f hf => ?_, ?_, ?_⟩
    · show mtC (mL1 s t j) t j i = s i
      rw [mtC_out (by omega) (by omega) (by omega), h1 i (by omega)]
    · show mtC (mL1 s t j) t j (12 + 7 * k + f) = _
      by_cases hkj : k = j
      · subst hkj
        have e := congrFun (pf_mtC (u := mL1 s t k) (j := k) (t := t)) f
        rw [h0, hp] at e
        exact e
      · rw [mtC_out (by omega) (by omega) (by omega)]
        exact h2 k (by omega) f hf
    · show mtC (mL1 s t j) t j 3 = _
      by_cases hk : tk3 t (s 0) (pf s j)
      · rw [(e.1 hk).1, h3]
        simp [amL, hk]
      · rw [(e.2 hk).1, h3]
        simp [amL, hk]
    · show mtC (mL1 s t j) t j 4 = _
      by_cases hk : tk3 t (s 0) (pf s j)
      · rw [(e.1 hk).2, h4]
        simp [laL, hk]
      · rw [(e.2 hk).2, h4]
        simp [laL, hk]
theorem mL2_lo {r : Nat → Int32} {i : Nat} (h : i < 12) : ∀ j, mL2 r j i = r i
  | 0 => rfl
  | j + 1 => by rw [mL2, wt1_out (by omega), mL2_lo h j]
theorem mL2_all {r : Nat → Int32} : ∀ j, (∀ i, 12 + 7 * j ≤ i → mL2 r j i = r i) ∧ (∀ k, k < j → ∀ f, f < 7 → mL2 r j (12 + 7 * k + f) = wtp (pf r k) f)
  | 0 => ⟨fun _ _ => rfl, fun k hk => absurd hk (Nat.not_lt_zero k)⟩
  | j + 1 => by
    obtain ⟨h1, h2⟩ := mL2_all (r := r) j
    have hp : pf (mL2 r j) j = pf r j := funext fun f => h1 _ (by omega)
    refine ⟨fun i hi => ?_, fun k hk f hf => ?_⟩
    · show wt1 (mL2 r j) j i = r i
      rw [wt1_out (by omega), h1 i (by omega)]
    · show wt1 (mL2 r j) j (12 + 7 * k + f) = _
      by_cases hkj : k = j
      · subst hkj
        have e := congrFun (pf_wt1 (u := mL2 r k) (j := k)) f
        rw [hp] at e
        exact e
      · rw [wt1_out (by omega)]
        exact h2 k (by omega) f hf
theorem wtp_congr {p q : Nat → Int32} (h : ∀ f, f < 7 → p f = q f) : ∀ f, f < 7 → wtp p f = wtp q f := by
  intro f hf
  have h0 := h 0 (by decide)
  have h3 := h 3 (by decide)
  have h4 := h 4 (by decide)
  have hff := h f hf
  unfold wtp wap
  rw [h0, h3, h4]
  split
  · split
    · unfold upd
      rw [hff]
    · unfold upd
      rw [hff]
  · exact hff
/-- two rows are one if they agree below 12, in the first n parcels and beyond them -/
theorem row_ext {s u : Nat → Int32} (n : Nat) (h1 : ∀ i, i < 12 → s i = u i) (h2 : ∀ k, k < n → ∀ f, f < 7 → s (12 + 7 * k + f) = u (12 + 7 * k + f)) (h3 : ∀ i, 12 + 7 * n ≤ i → s i = u i) : s = u := by
  funext i
  by_cases a : i < 12
  · exact h1 i a
  · by_cases b : 12 + 7 * n ≤ i
    · exact h3 i b
    · have h := h2 ((i - 12) / 7) (by omega) ((i - 12) % 7) (by omega)
      have e : 12 + 7 * ((i - 12) / 7) + (i - 12) % 7 = i := by omega
      rwa [e] at h
theorem mL_dyL {s : Nat → Int32} {t : Int32} {n : Nat} : mL2 (mL1 s t n) n = dyL s t n := by
  obtain ⟨a1, a2, a3, a4⟩ := mL1_all (s := s) (t := t) n
  obtain ⟨b1, b2⟩ := mL2_all (r := mL1 s t n) n
  obtain ⟨c1, c2, c3, c4⟩ := dyL_all (s := s) (t := t) n
  refine row_ext n (fun i hi => ?_) (fun k hk f hf => ?_) (fun i hi => ?_)
  · rw [mL2_lo hi]
    by_cases h3 : i = 3
    · subst h3; rw [a3, c3]
    · by_cases h4 : i = 4
      · subst h4; rw [a4, c4]
      · rw [mL1_lo hi h3 h4, dyL_lo hi h3 h4]
  · rw [b2 k hk f hf, c2 k hk f hf]
    exact wtp_congr (p := pf (mL1 s t n) k) (q := mtp t (s 0) (pf s k)) (fun g hg => a2 k hk g hg) f hf
  · rw [b1 i hi, a1 i hi, c1 i hi]
/-! what a day leaves as it was -/
theorem mtp_keep {t d : Int32} {p : Nat → Int32} : mtp t d p 0 = p 0 ∧ mtp t d p 2 = p 2 ∧ mtp t d p 5 = p 5 := by
  unfold mtp mep trp
  refine ⟨?_, ?_, ?_⟩ <;> (repeat' split) <;> simp [upd]
theorem wtp_keep {p : Nat → Int32} : wtp p 0 = p 0 ∧ wtp p 2 = p 2 ∧ wtp p 5 = p 5 := by
  unfold wtp wap
  refine ⟨?_, ?_, ?_⟩ <;> (repeat' split) <;> simp [upd]
theorem stp_keep {t d : Int32} {p : Nat → Int32} : stp t d p 0 = p 0 ∧ stp t d p 2 = p 2 ∧ stp t d p 5 = p 5 := by
  unfold stp
  exact ⟨wtp_keep.1.trans mtp_keep.1, wtp_keep.2.1.trans mtp_keep.2.1, wtp_keep.2.2.trans mtp_keep.2.2⟩
theorem stp_congr {t d : Int32} {p q : Nat → Int32} (h : ∀ f, f < 7 → p f = q f) : ∀ f, f < 7 → stp t d p f = stp t d q f := by
  refine wtp_congr fun f hf => ?_
  have h0 := h 0 (by decide)
  have h1 := h 1 (by decide)
  have h2 := h 2 (by decide)
  have h4 := h 4 (by decide)
  have h5 := h 5 (by decide)
  have h6 := h 6 (by decide)
  have hff := h f hf
  unfold mtp mep trp tkp
  rw [h0, h1, h2, h4, h5, h6]
  repeat' split
  all_goals first | exact hff | (unfold upd; rw [hff])
