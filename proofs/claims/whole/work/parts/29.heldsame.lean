/-! held back: the class's set is the reference's -/
def tkd (w : Nat → Int32) (k : Nat) : Prop := tk3 (tdF w) (w 0) (pf w k) ∧ ¬ dly (pf w k 0) ≤ 0
theorem dly_pos {x : Int32} {c : Nat} (hc : c ≤ 2) (e : dly x = nI c) : (¬ dly x ≤ 0) ↔ 0 < c := by
  rw [e]
  have : c = 0 ∨ c = 1 ∨ c = 2 := by omega
  rcases this with h | h | h <;> subst h <;> decide
theorem dly_c (x : Int32) : ∃ c, c ≤ 2 ∧ dly x = nI c := by
  unfold dly
  split
  · exact ⟨1, by decide, rfl⟩
  · split
    · exact ⟨2, by decide, rfl⟩
    · exact ⟨0, by decide, rfl⟩
/-- LATE in a day -/
theorem laL_mo {s : Nat → Int32} {t : Int32} {l : Nat} (hl : l ≤ 9999) (e : s 4 = nI l) : ∀ j, ∃ l2, l ≤ l2 ∧ l2 ≤ 9999 ∧ laL s t j = nI l2 ∧ (l ≤ 9998 → (l2 = l ↔ ∀ k, k < j → ¬ (tk3 t (s 0) (pf s k) ∧ ¬ dly (pf s k 0) ≤ 0)))
  | 0 => ⟨l, Nat.le_refl l, hl, e, fun _ => ⟨fun _ k hk => absurd hk (Nat.not_lt_zero k), fun _ => rfl⟩⟩
  | j + 1 => by
    obtain ⟨l2, h1, h2, e2, h3⟩ := laL_mo (t := t) hl e j
    obtain ⟨c, hc, ec⟩ := dly_c (pf s j 0)
    have hp := dly_pos hc ec
    by_cases hk : tk3 t (s 0) (pf s j)
    · refine ⟨min (l2 + c) 9999, by omega, by omega, ?_, fun h9 => ⟨fun q k hkj => ?_, fun q => ?_⟩⟩
      · simp only [laL, if_pos hk]
        rw [e2, ec, nI_add, show (9999 : Int32) = nI 9999 from rfl, minI_nI (by omega) (by omega)]
      · by_cases hkk : k = j
        · subst hkk
          intro r
          have := hp.mp r.2
          omega
        · exact (h3 h9).mp (by omega) k (by omega)
      · have a1 := (h3 h9).mpr (fun k hk2 => q k (by omega))
        have a2 : ¬ 0 < c := fun r => q j (by omega) ⟨hk, hp.mpr r⟩
        omega
    · refine ⟨l2, h1, h2, by simp only [laL, if_neg hk]; exact e2, fun h9 => ⟨fun q k hkj => ?_, fun q => (h3 h9).mpr (fun k hk2 => q k (by omega))⟩⟩
      by_cases hkk : k = j
      · subst hkk
        exact fun r => hk r.1
      · exact (h3 h9).mp q k (by omega)
theorem dy_mo {n l : Nat} {w : Nat → Int32} (hl : l ≤ 9999) (e : w 4 = nI l) : ∃ l2, l ≤ l2 ∧ l2 ≤ 9999 ∧ dyC w n 4 = nI l2 ∧ (l ≤ 9998 → (l2 = l ↔ ∀ k, k < n → ¬ tkd w k)) := by
  rw [dyC_4]
  exact laL_mo hl e n
theorem dys_mo {n : Nat} : ∀ (c l : Nat) (w : Nat → Int32), l ≤ 9999 → w 4 = nI l → ∃ l2, l ≤ l2 ∧ l2 ≤ 9999 ∧ dysC n c w 4 = nI l2
  | 0, l, w, hl, e => ⟨l, Nat.le_refl l, hl, e⟩
  | c + 1, l, w, hl, e => by
    obtain ⟨l2, h1, h2, e2, -⟩ := dy_mo (n := n) hl e
    obtain ⟨l3, h3, h4, e3⟩ := dys_mo c l2 (dyC w n) h2 e2
    exact ⟨l3, by omega, h4, e3⟩
/-- a parcel that lay is taken behind the day exactly if it is taken on it -/
theorem stp_4 {t d : Int32} {p : Nat → Int32} : (p 4 = 0 ∧ stp t d p 4 = 1) ↔ tk3 t d p := by
  unfold tk3
  by_cases h4 : p 4 = 0
  · by_cases h5 : p 5 = 0
    · by_cases ht : tkp t d p = true
      · have e : stp t d p = upd p 4 1 := by
          unfold stp mtp mep
          rw [if_pos h4, if_pos h5, if_pos ht]
          unfold wtp
          rw [if_neg (by rw [upd_self]; decide)]
        rw [e, upd_self]
        exact ⟨fun _ => ⟨h4, h5, ht⟩, fun _ => ⟨h4, rfl⟩⟩
      · refine ⟨fun q => absurd q.2 ?_, fun q => absurd q.2.2 ht⟩
        unfold stp mtp mep
        rw [if_pos h4, if_pos h5, if_neg ht]
        have hw : ∀ q : Nat → Int32, q 4 = 0 → ¬ wtp q 4 = 1 := by
          intro q hq
          unfold wtp
          rw [if_pos hq]
          unfold wap
          split
          · rw [upd_self]; decide
          · rw [upd_ne (by decide), hq]; decide
        split
        · exact hw _ (by unfold trp; rw [upd_ne (by decide), upd_ne (by decide)]; exact h4)
        · exact hw _ h4
    · refine ⟨fun q => absurd q.2 ?_, fun q => absurd q.2.1 h5⟩
      unfold stp mtp
      rw [if_pos h4, if_neg h5]
      unfold wtp
      rw [if_pos h4]
      unfold wap
      split
      · rw [upd_self]; decide
      · rw [upd_ne (by decide), h4]; decide
  · exact ⟨fun q => absurd q.1 h4, fun q => absurd q.1 h4⟩
/-! sets as numbers -/
theorem thF_bits {s : Nat → Int32} {x : Int32} : ∀ j, j ≤ 8 → ∃ y, y < 2 ^ j ∧ thF s x j = nI y ∧ ∀ k, y.testBit k = true ↔ (k < j ∧ s (12 + 7 * k + 4) = x)
  | 0, _ => ⟨0, by decide, rfl, fun k => ⟨fun q => by simp at q, fun q => absurd q.1 (Nat.not_lt_zero k)⟩⟩
  | j + 1, hj => by
    obtain ⟨y, hy, e, hb⟩ := thF_bits (s := s) (x := x) j (by omega)
    unfold thF
    split
    · rename_i h
      refine ⟨y ||| 2 ^ j, Nat.or_lt_two_pow (by rw [Nat.pow_succ]; omega) (Nat.pow_lt_pow_right (by decide) (by omega)), by rw [e, sh1 (by omega), fa_or], fun k => ?_⟩
      rw [Nat.testBit_or, Bool.or_eq_true, hb k, Nat.testBit_two_pow, decide_eq_true_iff]
      constructor
      · rintro (q | q)
        · exact ⟨by omega, q.2⟩
        · subst q; exact ⟨by omega, h⟩
      · intro q
        by_cases hk : k = j
        · exact Or.inr hk.symm
        · exact Or.inl ⟨by omega, q.2⟩
    · rename_i h
      refine ⟨y, by rw [Nat.pow_succ]; omega, e, fun k => ?_⟩
      rw [hb k]
      constructor
      · exact fun q => ⟨by omega, q.2⟩
      · intro q
        by_cases hk : k = j
        · subst hk; exact absurd q.2 h
        · exact ⟨by omega, q.2⟩
theorem deF_bits {s : Nat → Int32} {X : Nat} : ∀ j, j ≤ 8 → ∃ y, y < 2 ^ j ∧ deF s (nI X) j = nI y ∧ ∀ k, y.testBit k = true ↔ (k < j ∧ (¬ dly (s (12 + 7 * k + 0)) ≤ 0) ∧ X.testBit k = true)
  | 0, _ => ⟨0, by decide, rfl, fun k => ⟨fun q => by simp at q, fun q => absurd q.1 (Nat.not_lt_zero k)⟩⟩
  | j + 1, hj => by
    obtain ⟨y, hy, e, hb⟩ := deF_bits (s := s) (X := X) j (by omega)
    unfold deF
    split
    · rename_i h
      refine ⟨y, by rw [Nat.pow_succ]; omega, e, fun k => ?_⟩
      rw [hb k]
      constructor
      · exact fun q => ⟨by omega, q.2⟩
      · intro q
        by_cases hk : k = j
        · subst hk; exact absurd h q.2.1
        · exact ⟨by omega, q.2⟩
    · rename_i h
      refine ⟨y ||| (X &&& 2 ^ j), Nat.or_lt_two_pow (by rw [Nat.pow_succ]; omega) (Nat.and_lt_two_pow _ (Nat.pow_lt_pow_right (by decide) (by omega))), by rw [e, sh1 (by omega), fa_and, fa_or], fun k => ?_⟩
      rw [Nat.testBit_or, Bool.or_eq_true, hb k, Nat.testBit_and, Bool.and_eq_true, Nat.testBit_two_pow, decide_eq_true_iff]
      constructor
      · rintro (q | q)
        · exact ⟨by omega, q.2⟩
        · have hk := q.2
          subst hk
          exact ⟨by omega, h, q.1⟩
      · intro q
        by_cases hk : k = j
        · exact Or.inr ⟨q.2.2, hk.symm⟩
        · exact Or.inl ⟨by omega, q.2⟩
/-- what a day of the class's trial adds -/
theorem de_day {n : Nat} {v : Nat → Int32} (h8 : n ≤ 8) : ∃ d, d < 256 ∧ deF (dyC v n) (thF v 0 n &&& thF (dyC v n) 1 n) n = nI d ∧ ∀ k, d.testBit k = true ↔ (k < n ∧ tkd v k) := by
  obtain ⟨y1, h1, e1, b1⟩ := thF_bits (s := v) (x := 0) n h8
  obtain ⟨y2, h2, e2, b2⟩ := thF_bits (s := dyC v n) (x := 1) n h8
  rw [e1, e2, fa_and]
  obtain ⟨d, hd, ed, bd⟩ := deF_bits (s := dyC v n) (X := y1 &&& y2) n h8
  refine ⟨d, Nat.lt_of_lt_of_le hd (p2_256 h8), ed, fun k => ?_⟩
  rw [bd k, Nat.testBit_and, Bool.and_eq_true, b1 k, b2 k]
  constructor
  · rintro ⟨hk, q1, q2, q3⟩
    rw [dyC_p hk (by decide), stp_keep.1] at q1
    have q4 := q3.2
    rw [dyC_p hk (by decide)] at q4
    exact ⟨hk, stp_4.mp ⟨q2.2, q4⟩, q1⟩
  · rintro ⟨hk, q1, q2⟩
    have q3 := stp_4.mpr q1
    rw [dyC_p hk (by decide), dyC_p hk (by decide), stp_keep.1]
    exact ⟨hk, q2, ⟨hk, q3.1⟩, hk, q3.2⟩
/-! the reference's trial with a set held back beside the class's trial -/
def Sm (n x : Nat) (u v : Nat → Int32) : Prop := (∀ i, i < 12 → i ≠ 3 → u i = v i) ∧ ∀ k, k < n → (x.testBit k = true → u (12 + 7 * k + 5) = 1) ∧ (x.testBit k = false → ∀ f, f < 7 → u (12 + 7 * k + f) = v (12 + 7 * k + f))
theorem Sm.td {n x : Nat} {u v : Nat → Int32} (h : Sm n x u v) (hI : Iv n u) : tdF u = tdF v := by
  have e0 := h.1 0 (by decide) (by decide)
  have e4 := h.1 4 (by decide) (by decide)
  have e5 := h.1 5 (by decide) (by decide)
  have ht := hI.td
  have e : tdx u = tdx v := by unfold tdx; rw [e0, e4]
  have h6 : tdx u < 6 := ht.2.2
  unfold tdF
  rw [← e, e5, h.1 (6 + tdx u) (by omega) (by omega)]
theorem Sm.tk {n x k : Nat} {u v : Nat → Int32} (h : Sm n x u v) (hI : Iv n u) (hk : k < n) : tkd u k ↔ (tkd v k ∧ x.testBit k = false) := by
  have et := h.td hI
  have e0 := h.1 0 (by decide) (by decide)
  cases hx : x.testBit k with
  | true =>
    refine ⟨fun q => ?_, fun q => absurd q.2 (by decide)⟩
    have := (h.2 k hk).1 hx
    have q5 : u (12 + 7 * k + 5) = 0 := q.1.2.1
    rw [this] at q5
    exact absurd q5 (by decide)
  | false =>
    have hp : ∀ f, f < 7 → pf u k f = pf v k f := (h.2 k hk).2 hx
    unfold tkd
    rw [et, e0, tk3_congr hp, hp 0 (by decide)]
    exact ⟨fun q => ⟨q, rfl⟩, fun q => q.1⟩
theorem Sm.dy {n x : Nat} {u v : Nat → Int32} (h : Sm n x u v) (hI : Iv n u) (h8 : n ≤ 8) (hu : dyC u n 4 = u 4) : Sm n x (dyC u n) (upd (dyC v n) 4 (v 4)) := by
  have et := h.td hI
  have e0 := h.1 0 (by decide) (by decide)
  refine ⟨fun i hi h3 => ?_, fun k hk => ⟨fun hx => ?_, fun hx f hf => ?_⟩⟩
  · by_cases h4 : i = 4
    · subst h4
      rw [upd_self, hu]
      exact h.1 4 (by decide) (by decide)
    · rw [upd_ne h4]
      by_cases hz : i = 0
      · subst hz
        rw [dyC_0, dyC_0, e0]
      · rw [dyC_lo hi hz h3 h4, dyC_lo hi hz h3 h4]
        exact h.1 i hi h3
  · rw [dyC_p hk (by decide), stp_keep.2.2]
    exact (h.2 k hk).1 hx
  · rw [upd_ne (by omega), dyC_p hk hf, dyC_p hk hf, et, e0]
    exact stp_congr ((h.2 k hk).2 hx) f hf
def Hb (n8 : Nat) (L0 : Int32) (f : Nat) (v : Nat → Int32) (A D : Nat) (B : Nat → Prop) : Prop :=
  hbS n8 L0 f v (nI A) = nI D ∧ D < 256 ∧ (∀ k, D.testBit k = true ↔ (A.testBit k = true ∨ B k)) ∧ (∀ k, B k → k < n8) ∧ ∀ x u, Sm n8 x u v → Iv n8 u → (dysC n8 f u 4 = L0 ↔ ∀ k, B k → x.testBit k = true)
theorem hb_days {n8 l : Nat} (h8 : n8 ≤ 8) (hl : l ≤ 9998) : ∀ (f : Nat) (v : Nat → Int32) (A : Nat), A < 256 → Iv n8 v → v 4 = nI l → ∃ D B, Hb n8 (nI l) f v A D B
  | 0, v, A, hA, hI, ev => ⟨A, fun _ => False, rfl, hA, fun k => ⟨Or.inl, fun q => q.elim id False.elim⟩, fun _ q => q.elim, fun x u hS hu => ⟨fun _ _ q => q.elim, fun _ => by
      show u 4 = nI l
      rw [hS.1 4 (by decide) (by decide), ev]⟩⟩
  | f + 1, v, A, hA, hI, ev => by
    obtain ⟨d, hd, ed, bd⟩ := de_day (v := v) h8
    obtain ⟨l2, m1, m2, m3, m4⟩ := dy_mo (n := n8) (w := v) (by omega) ev
    have m5 := m4 hl
    have hI2 : Iv n8 (upd (dyC v n8) 4 (nI l)) := iv_late hI.day (by omega) rfl
    have hor : A ||| d < 256 := Nat.or_lt_two_pow (n := 8) hA hd
    obtain ⟨D, B, q1, q2, q3, q4, q5⟩ := hb_days h8 hl f (upd (dyC v n8) 4 (nI l)) (A ||| d) hor hI2 upd_self
    refine ⟨D, fun k => (k < n8 ∧ tkd v k) ∨ B k, ?_, q2, fun k => ?_, fun k q => q.elim And.left (q4 k), fun x u hS hu => ?_⟩
    · unfold hbS
      by_cases he : dyC v n8 4 = nI l
      · rw [if_pos he]
        have hz : d = 0 := by
          have e2 : l2 = l := (jnI_inj (by omega) (by omega)).mp (m3.symm.trans he)
          apply Nat.eq_of_testBit_eq
          intro k
          rw [Nat.zero_testBit]
          cases hb : d.testBit k with
          | false => rfl
          | true => exact absurd ((bd k).mp hb).2 (m5.mp e2 k ((bd k).mp hb).1)
        rw [upd_same he, hz, Nat.or_zero] at q1
        exact q1
      · rw [if_neg he, ed, fa_or]
        exact q1
    · rw [q3 k, Nat.testBit_or, Bool.or_eq_true, bd k]
      exact or_assoc
    · have e4 : u 4 = nI l := by rw [hS.1 4 (by decide) (by decide), ev]
      obtain ⟨l3, n1, n2, n3, n4⟩ := dy_mo (n := n8) (w := u) (by omega) e4
      have n5 := n4 hl
      show dysC n8 f (dyC u n8) 4 = nI l ↔ _
      by_cases hall : ∀ k, k < n8 → tkd v k → x.testBit k = true
      · have e3 : l3 = l := n5.mpr (fun k hk q => by
          have q2 := (hS.tk hu hk).mp q
          rw [hall k hk q2.1] at q2
          exact absurd q2.2 (by decide))
        subst e3
        have hS2 := hS.dy hu h8 (by rw [n3, e4])
        rw [ev] at hS2
        rw [q5 x _ hS2 hu.day]
        constructor
        · intro q k hk
          rcases hk with hk | hk
          · exact hall k hk.1 hk.2
          · exact q k hk
        · exact fun q k hk => q k (Or.inr hk)
      · constructor
        · intro q
          exfalso
          obtain ⟨l4, p1, p2, p3⟩ := dys_mo (n := n8) f l3 (dyC u n8) n2 n3
          have e4 : l4 = l := (jnI_inj (by omega) (by omega)).mp (p3.symm.trans q)
          have e3 : l3 = l := by omega
          apply hall
          intro k hk hv
          cases hb : x.testBit k with
          | true => rfl
          | false => exact absurd ((hS.tk hu hk).mpr ⟨hv, hb⟩) (n5.mp e3 k hk)
        · intro q
          exact absurd (fun k hk hv => q k (Or.inl ⟨hk, hv⟩)) hall
theorem hb_days9 {n8 : Nat} : ∀ (f : Nat) (v : Nat → Int32), v 4 = nI 9999 → hbS n8 (nI 9999) f v 0 = 0
  | 0, _, _ => rfl
  | f + 1, v, ev => by
    obtain ⟨l2, m1, m2, m3, -⟩ := dy_mo (n := n8) (w := v) (by omega) ev
    have e : l2 = 9999 := by omega
    subst e
    unfold hbS
    rw [if_pos m3]
    exact hb_days9 f _ m3
/-! the search -/
set_option maxRecDepth 100000 in
theorem bt_sub : ∀ D, D < 256 → ∀ x, x < 256 → D &&& x = D → x = D ∨ bt 9 D < bt 9 x := by decide +kernel
theorem hb_after {lw : Nat → Int32} {L0 : Int32} {D : Nat} {n : Nat} (hv : ∀ x, x < n → lw x = L0 → x = D ∨ bt 9 D < bt 9 x) : ∀ f j, j + f = n → hbB lw L0 f j (some D) = some D
  | 0, _, _ => rfl
  | f + 1, j, h => by
    unfold hbB
    have e : nx lw L0 j (some D) = some D := by
      show (if bt 9 j < bt 9 D then (if lw j = L0 then some j else some D) else some D) = some D
      split
      · rename_i h1
        split
        · rename_i h2
          have := hv j (by omega) h2
          rcases this with q | q
          · rw [q]
          · omega
        · rfl
      · rfl
    rw [e]
    exact hb_after hv f (j + 1) (by omega)
theorem hb_find {lw : Nat → Int32} {L0 : Int32} {D : Nat} {n : Nat} (hD : lw D = L0) (hv : ∀ x, x < n → lw x = L0 → x = D ∨ bt 9 D < bt 9 x) : ∀ f j b, j + f = n → j ≤ D → D < n → (∀ c, b = some c → bt 9 D < bt 9 c) → hbB lw L0 f j b = some D
  | 0, j, b, h, h1, h2, _ => absurd h2 (by omega)
  | f + 1, j, b, h, h1, h2, hb => by
    unfold hbB
    by_cases hj : j = D
    · subst hj
      have e : nx lw L0 j b = some j := by
        cases b with
        | none => exact if_pos hD
        | some c => exact (if_pos (hb c rfl)).trans (if_pos hD)
      rw [e]
      exact hb_after hv f (j + 1) (by omega)
    · refine hb_find hD hv f (j + 1) _ (by omega) (by omega) h2 (fun c hc => ?_)
      cases b with
      | none =>
        replace hc : (if lw j = L0 then some j else none) = some c := hc
        split at hc
        · rename_i h3
          cases hc
          exact (hv j (by omega) h3).resolve_left hj
        · cases hc
      | some c2 =>
        replace hc : (if bt 9 j < bt 9 c2 then (if lw j = L0 then some j else some c2) else some c2) = some c := hc
        split at hc
        · split at hc
          · rename_i h3
            cases hc
            exact (hv j (by omega) h3).resolve_left hj
          · exact hb c hc
        · exact hb c hc
/-! both together -/
theorem hdF_bits {n x : Nat} {s : Nat → Int32} (h : Iv n s) : ∀ j, j ≤ n → (∀ i, (∀ k, k < j → i ≠ 12 + 7 * k + 5) → hdF s x j i = s i) ∧ ∀ k, k < j → hdF s x j (12 + 7 * k + 5) = if x.testBit k = true then 1 else s (12 + 7 * k + 5)
  | 0, _ => ⟨fun _ _ => rfl, fun k hk => absurd hk (Nat.not_lt_zero k)⟩
  | j + 1, hj => by
    obtain ⟨h1, h2⟩ := hdF_bits (x := x) h j (by omega)
    refine ⟨fun i hi => ?_, fun k hk => ?_⟩
    · show upd _ _ _ i = s i
      rw [upd_ne (hi j (by omega))]
      exact h1 i (fun k hk => hi k (by omega))
    · show upd _ _ _ _ = _
      by_cases hkj : k = j
      · subst hkj
        rw [upd_self, h1 _ (fun q hq => by omega)]
        rcases (h.2.2.2.2.1 k (by omega)).1 with e | e <;> rw [e] <;> split <;> decide
      · rw [upd_ne (by omega)]
        exact h2 k (by omega)
theorem hb_same {n8 N : Nat} {s t z : Nat → Int32} (hI : Iv n8 s) (hE : Eqv n8 s t) : ∃ D, D < 256 ∧ hbS n8 (s 4) N (bcF z s n8) 0 = nI D ∧ hbB (lwF t n8 N) (t 4) (2 ^ n8) 0 none = some D := by
  have h8 := hI.1
  have hT : Iv n8 t := hE.iv hI
  have hV : Iv n8 (bcF z s n8) := iv_bc hI
  have hEv : Eqv n8 (bcF z s n8) t := (bcF_eqv h8).tr hE
  have e4 : s 4 = t 4 := hE.lo (by decide)
  obtain ⟨l, hl, el⟩ := hI.2.2.2.1
  have ev4 : bcF z s n8 4 = nI l := by rw [(bcF_eqv h8).lo (by decide), el]
  have h256 := p2_256 h8
  have hSm : ∀ x, Sm n8 x (hdF t x n8) (bcF z s n8) := by
    intro x
    obtain ⟨b1, b2⟩ := hdF_bits (x := x) hT n8 (Nat.le_refl _)
    refine ⟨fun i hi h3 => ?_, fun k hk => ⟨fun hx => ?_, fun hx f hf => ?_⟩⟩
    · rw [b1 i (fun k hk => by omega), hEv.lo hi]
    · rw [b2 k hk, if_pos hx]
    · by_cases h5 : f = 5
      · subst h5
        rw [b2 k hk, if_neg (by rw [hx]; decide), hEv.pp h8 hk (by decide)]
      · rw [b1 _ (fun q hq => by omega), hEv.pp h8 hk hf]
  by_cases h9 : l ≤ 9998
  · obtain ⟨D, B, q1, q2, q3, q4, q5⟩ := hb_days h8 h9 N (bcF z s n8) 0 (by decide) hV ev4
    have q3b : ∀ k, D.testBit k = true ↔ B k := fun k => by rw [q3 k, Nat.zero_testBit]; exact ⟨fun q => q.elim (fun r => absurd r (by decide)) id, Or.inr⟩
    have hlw : ∀ x, lwF t n8 N x = t 4 ↔ ∀ k, B k → x.testBit k = true := fun x => by
      rw [← e4, el]
      exact q5 x _ (hSm x) (hdF_iv hT n8 (Nat.le_refl _))
    have hDn : D < 2 ^ n8 := by
      apply Nat.lt_pow_two_of_testBit
      intro k hk
      cases hb : D.testBit k with
      | false => rfl
      | true => exact absurd (q4 k ((q3b k).mp hb)) (by omega)
    refine ⟨D, q2, by rw [el]; exact q1, hb_find ((hlw D).mpr (fun k hk => (q3b k).mpr hk)) (n := 2 ^ n8) (fun x hx hv => ?_) (2 ^ n8) 0 none (Nat.zero_add _) (Nat.zero_le _) hDn (fun c q => by cases q)⟩
    refine bt_sub D q2 x (by omega) ?_
    apply Nat.eq_of_testBit_eq
    intro k
    rw [Nat.testBit_and]
    cases hb : D.testBit k with
    | false => rfl
    | true => rw [(hlw x).mp hv k ((q3b k).mp hb)]; rfl
  · have e9 : l = 9999 := by omega
    subst e9
    have hlw : ∀ x, lwF t n8 N x = t 4 := fun x => by
      obtain ⟨b1, -⟩ := hdF_bits (x := x) hT n8 (Nat.le_refl _)
      obtain ⟨l4, p1, p2, p3⟩ := dys_mo (n := n8) N 9999 (hdF t x n8) (by omega) (by rw [b1 4 (fun k hk => by omega), ← e4, el])
      rw [← e4, el]
      unfold lwF
      rw [p3, show l4 = 9999 by omega]
    refine ⟨0, by decide, by rw [el]; exact hb_days9 N _ ev4, hb_find (hlw 0) (n := 2 ^ n8) (fun x hx _ => ?_) (2 ^ n8) 0 none (Nat.zero_add _) (Nat.le_refl _) (Nat.two_pow_pos _) (fun c q => by cases q)⟩
    exact bt_sub 0 (by decide) x (by omega) (Nat.zero_and x)
