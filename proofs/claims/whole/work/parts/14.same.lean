/-! two rows of a coast are the same but for parcels that there aren't -/
def Eqv (n : Nat) (s u : Nat → Int32) : Prop := ∀ i, i < 78 → ¬ (12 + 7 * n ≤ i ∧ i < 68) → s i = u i
theorem Eqv.rf {n : Nat} {s : Nat → Int32} : Eqv n s s := fun _ _ _ => rfl
theorem Eqv.sy {n : Nat} {s u : Nat → Int32} (h : Eqv n s u) : Eqv n u s := fun i a b => (h i a b).symm
theorem Eqv.tr {n : Nat} {s u v : Nat → Int32} (h : Eqv n s u) (h2 : Eqv n u v) : Eqv n s v := fun i a b => (h i a b).trans (h2 i a b)
theorem Eqv.lo {n i : Nat} {s u : Nat → Int32} (h : Eqv n s u) (hi : i < 12) : s i = u i := h i (by omega) (by omega)
theorem Eqv.pp {n k f : Nat} {s u : Nat → Int32} (h : Eqv n s u) (h8 : n ≤ 8) (hk : k < n) (hf : f < 7) : s (12 + 7 * k + f) = u (12 + 7 * k + f) := h _ (by omega) (by omega)
theorem Eqv.sp {n j : Nat} {s u : Nat → Int32} (h : Eqv n s u) (hj : j < 10) : s (68 + j) = u (68 + j) := h _ (by omega) (by omega)
theorem Eqv.of {n : Nat} {s u : Nat → Int32} (h1 : ∀ i, i < 12 → s i = u i) (h2 : ∀ k, k < n → ∀ f, f < 7 → s (12 + 7 * k + f) = u (12 + 7 * k + f)) (h3 : ∀ j, j < 10 → s (68 + j) = u (68 + j)) : Eqv n s u := by
  intro i hi hn
  by_cases a : i < 12
  · exact h1 i a
  · by_cases b : 68 ≤ i
    · have := h3 (i - 68) (by omega)
      rwa [show 68 + (i - 68) = i by omega] at this
    · have h := h2 ((i - 12) / 7) (by omega) ((i - 12) % 7) (by omega)
      rwa [show 12 + 7 * ((i - 12) / 7) + (i - 12) % 7 = i by omega] at h
theorem Eqv.iv {n : Nat} {s u : Nat → Int32} (h : Eqv n s u) (hI : Iv n s) : Iv n u := by
  obtain ⟨h8, e1, hd, hl, hp, hs⟩ := hI
  refine ⟨h8, by rw [← h.lo (by decide), e1], by rw [← h.lo (by decide)]; exact hd, by rw [← h.lo (by decide)]; exact hl, fun k hk => ?_, fun j hj => ?_⟩
  · rw [← h.pp h8 hk (by decide), ← h.pp h8 hk (by decide)]
    exact hp k hk
  · rw [← h.sp hj]
    exact hs j hj
theorem Eqv.td {n : Nat} {s u : Nat → Int32} (h : Eqv n s u) (ht : TD s) : tdF s = tdF u := by
  have e : tdx s = tdx u := by unfold tdx; rw [h.lo (by decide), h.lo (by decide)]
  have hx := ht.2.2
  unfold tdF
  rw [← e, h.lo (by omega), h.lo (by decide)]
theorem tk3_congr {t d : Int32} {p q : Nat → Int32} (h : ∀ f, f < 7 → p f = q f) : tk3 t d p ↔ tk3 t d q := by
  unfold tk3 tkp
  rw [h 0 (by decide), h 1 (by decide), h 2 (by decide), h 4 (by decide), h 5 (by decide), h 6 (by decide)]
theorem amL_congr {n : Nat} {t : Int32} {s u : Nat → Int32} (h : Eqv n s u) (h8 : n ≤ 8) : ∀ j, j ≤ n → amL s t j = amL u t j
  | 0, _ => h.lo (by decide)
  | j + 1, hj => by
    have e := amL_congr (t := t) h h8 j (by omega)
    have hp : ∀ f, f < 7 → pf s j f = pf u j f := fun f hf => h.pp h8 (by omega) hf
    have e0 : s 0 = u 0 := h.lo (by decide)
    by_cases hk : tk3 t (s 0) (pf s j)
    · have hk2 : tk3 t (u 0) (pf u j) := by rw [← e0]; exact (tk3_congr hp).mp hk
      simp only [amL, if_pos hk, if_pos hk2]
      rw [e, hp 0 (by decide), hp 2 (by decide)]
    · have hk2 : ¬ tk3 t (u 0) (pf u j) := by rw [← e0]; exact fun q => hk ((tk3_congr hp).mpr q)
      simp only [amL, if_neg hk, if_neg hk2]
      exact e
theorem laL_congr {n : Nat} {t : Int32} {s u : Nat → Int32} (h : Eqv n s u) (h8 : n ≤ 8) : ∀ j, j ≤ n → laL s t j = laL u t j
  | 0, _ => h.lo (by decide)
  | j + 1, hj => by
    have e := laL_congr (t := t) h h8 j (by omega)
    have hp : ∀ f, f < 7 → pf s j f = pf u j f := fun f hf => h.pp h8 (by omega) hf
    have e0 : s 0 = u 0 := h.lo (by decide)
    by_cases hk : tk3 t (s 0) (pf s j)
    · have hk2 : tk3 t (u 0) (pf u j) := by rw [← e0]; exact (tk3_congr hp).mp hk
      simp only [laL, if_pos hk, if_pos hk2]
      rw [e, hp 0 (by decide)]
    · have hk2 : ¬ tk3 t (u 0) (pf u j) := by rw [← e0]; exact fun q => hk ((tk3_congr hp).mpr q)
      simp only [laL, if_neg hk, if_neg hk2]
      exact e
theorem Eqv.day {n : Nat} {s u : Nat → Int32} (h : Eqv n s u) (hI : Iv n s) : Eqv n (dyC s n) (dyC u n) := by
  have h8 := hI.1
  have et := h.td hI.td
  refine Eqv.of (fun i hi => ?_) (fun k hk f hf => ?_) (fun j hj => ?_)
  · by_cases a0 : i = 0
    · subst a0; rw [dyC_0, dyC_0, h.lo (by decide)]
    · by_cases a3 : i = 3
      · subst a3; rw [dyC_3, dyC_3, et]; exact amL_congr h h8 n (Nat.le_refl n)
      · by_cases a4 : i = 4
        · subst a4; rw [dyC_4, dyC_4, et]; exact laL_congr h h8 n (Nat.le_refl n)
        · rw [dyC_lo hi a0 a3 a4, dyC_lo hi a0 a3 a4, h.lo hi]
  · rw [dyC_p hk hf, dyC_p hk hf, et, h.lo (i := 0) (by decide)]
    exact stp_congr (fun g hg => h.pp h8 hk hg) f hf
  · rw [dyC_hi (by omega), dyC_hi (by omega), h.sp hj]
theorem Eqv.days {n : Nat} : ∀ (c : Nat) {s u : Nat → Int32}, Eqv n s u → Iv n s → Eqv n (dysC n c s) (dysC n c u)
  | 0, _, _, h, _ => h
  | c + 1, _, _, h, hI => Eqv.days c (h.day hI) hI.day
theorem thF_congr {n : Nat} {x : Int32} {s u : Nat → Int32} (h : Eqv n s u) (h8 : n ≤ 8) : ∀ j, j ≤ n → thF s x j = thF u x j
  | 0, _ => rfl
  | j + 1, hj => by unfold thF; rw [h.pp h8 (by omega) (by decide), thF_congr h h8 j (by omega)]
theorem lyF_congr {n : Nat} {x : Int32} {s u : Nat → Int32} (h : Eqv n s u) (h8 : n ≤ 8) : ∀ j, j ≤ n → lyF s x j = lyF u x j
  | 0, _ => rfl
  | j + 1, hj => by unfold lyF; rw [h.pp h8 (by omega) (by decide), h.pp h8 (by omega) (by decide), lyF_congr h h8 j (by omega)]
theorem weF_congr {n : Nat} {s u : Nat → Int32} (h : Eqv n s u) (h8 : n ≤ 8) : ∀ j, j ≤ n → weF s j = weF u j
  | 0, _ => rfl
  | j + 1, hj => by unfold weF; rw [h.pp h8 (by omega) (by decide), h.pp h8 (by omega) (by decide), weF_congr h h8 j (by omega)]
theorem tld_congr {n k : Nat} {x : Int32} {s u : Nat → Int32} (h : Eqv n s u) (h8 : n ≤ 8) (hk : k < n) : tld s k x = tld u k x := by
  unfold tld
  rw [h.pp h8 hk (by decide), h.pp h8 hk (by decide), h.pp h8 hk (by decide), h.pp h8 hk (by decide), h.pp h8 hk (by decide), h.pp h8 hk (by decide), h.pp h8 hk (by decide)]
/-- a write that both see -/
theorem eqv_upd {n i : Nat} {v : Int32} {s u : Nat → Int32} (h : Eqv n s u) : Eqv n (upd s i v) (upd u i v) := by
  intro j a b
  by_cases e : j = i
  · subst e; rw [upd_self, upd_self]
  · rw [upd_ne e, upd_ne e, h j a b]
/-- the row of a coast that has become as another -/
theorem bcL_all {s u : Nat → Int32} : ∀ j, (∀ k, k < j → ∀ f, f < 7 → bcL s u j (12 + 7 * k + f) = u (12 + 7 * k + f)) ∧ (∀ i, 12 + 7 * j ≤ i → bcL s u j i = s i)
  | 0 => ⟨fun k hk => absurd hk (Nat.not_lt_zero k), fun _ _ => rfl⟩
  | j + 1 => by
    obtain ⟨h1, h2⟩ := bcL_all (s := s) (u := u) j
    have hin : ∀ f, f < 7 → bcP (bcL s u j) u j j (12 + 7 * j + f) = u (12 + 7 * j + f) := by
      intro f hf
      unfold bcP
      match f, hf with
      | 0, _ => rw [upd_ne (by omega), upd_ne (by omega), upd_ne (by omega), upd_ne (by omega), upd_ne (by omega), upd_ne (by omega), upd_self]
      | 1, _ => rw [upd_ne (by omega), upd_ne (by omega), upd_ne (by omega), upd_ne (by omega), upd_ne (by omega), upd_self]
      | 2, _ => rw [upd_ne (by omega), upd_ne (by omega), upd_ne (by omega), upd_ne (by omega), upd_self]
      | 3, _ => rw [upd_ne (by omega), upd_ne (by omega), upd_ne (by omega), upd_self]
      | 4, _ => rw [upd_ne (by omega), upd_ne (by omega), upd_self]
      | 5, _ => rw [upd_ne (by omega), upd_self]
      | 6, _ => rw [upd_self]
      | g + 7, h => exact absurd h (by omega)
    have hout : ∀ i, (i < 12 + 7 * j ∨ 12 + 7 * j + 7 ≤ i) → bcP (bcL s u j) u j j i = bcL s u j i := by
      intro i hi
      unfold bcP
      rw [upd_ne (by omega), upd_ne (by omega), upd_ne (by omega), upd_ne (by omega), upd_ne (by omega), upd_ne (by omega), upd_ne (by omega)]
    refine ⟨fun k hk f hf => ?_, fun i hi => ?_⟩
    · show bcP (bcL s u j) u j j (12 + 7 * k + f) = _
      by_cases e : k = j
      · subst e; exact hin f hf
      · rw [hout _ (by omega)]
        exact h1 k (by omega) f hf
    · show bcP (bcL s u j) u j j i = _
      rw [hout _ (by omega), h2 i (by omega)]
theorem bcF_eqv {n : Nat} {s u : Nat → Int32} (h8 : n ≤ 8) : Eqv n (bcF s u n) u := by
  unfold bcF
  refine Eqv.of (fun i hi => ?_) (fun k hk f hf => ?_) (fun j hj => ?_)
  · have e : cpR (bcL (bc0 s u) u n) u 68 68 10 i = bcL (bc0 s u) u n i := by unfold cpR; rw [if_neg (by omega)]
    rw [e, bcL_lo hi]
    unfold bc0
    by_cases a1 : i = 1
    · subst a1; rw [upd_self]
    rw [upd_ne a1]
    by_cases a2 : i = 2
    · subst a2; rw [upd_self]
    rw [upd_ne a2]
    by_cases a0 : i = 0
    · subst a0; rw [upd_self]
    rw [upd_ne a0]
    by_cases a3 : i = 3
    · subst a3; rw [upd_self]
    rw [upd_ne a3]
    by_cases a5 : i = 5
    · subst a5; rw [upd_self]
    rw [upd_ne a5]
    by_cases a4 : i = 4
    · subst a4; rw [upd_self]
    rw [upd_ne a4]
    unfold cpR
    rw [if_pos (by omega)]
    exact congrArg u (by omega)
  · have e : cpR (bcL (bc0 s u) u n) u 68 68 10 (12 + 7 * k + f) = bcL (bc0 s u) u n (12 + 7 * k + f) := by unfold cpR; rw [if_neg (by omega)]
    rw [e]
    exact (bcL_all n).1 k hk f hf
  · unfold cpR
    rw [if_pos (by omega)]
    exact congrArg u (by omega)
