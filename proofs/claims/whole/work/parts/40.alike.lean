/-! the calls, alike: those that look and those that set -/
theorem op_tide {K : Cx} {m : TM} (hR : Rel m) (a : Int32) (b : Int32) : OQ yX4_tide cX4_tide 4 2 44 yX5_tide cX5_tide 4 2 42 (some .int) K [.int a, .int b] m := by
  obtain ⟨n, hS⟩ := id hR.1
  have hI := hS.1
  have hE := hS.2
  have hI5 := hS.five
  have h8 := hI.1
  have e1 := Rel.eq1 hS
  have f50 : ∀ w, (fnd m w).1 50 = m.1 50 := fun w => fnd_ne (by decide)
  have f13 : ∀ X, (sr m 13 X).1 50 = m.1 50 := fun X => sr_ne (by decide)
  have f1 : ∀ X, (sr m 1 X).1 50 = m.1 50 := fun X => sr_ne (by decide)
  have hI5f : ∀ w, Iv n ((fnd m w).1 50) := fun w => by rw [f50]; exact hI5
  have hI5t : ∀ X, Iv n ((sr m 13 X).1 50) := fun X => by rw [f13]; exact hI5
  have hI5s : ∀ X, Iv n ((sr m 1 X).1 50) := fun X => by rw [f1]; exact hI5
  have h4 := c_X4_tide (K := K) (i := a) (v := b) (m := m)
  by_cases hb : (outI a 0 5 || outI b 0 20) = true
  · have h5 := c_X5_tide (K := K) (i := a) (v := b) (m := fnd m 0)
    simp only [if_pos hb] at h4 h5
    exact oq_dd h4 h5 rfl (rel_no hR (by decide))
  · have h5 := c_X5_tide (K := K) (i := a) (v := b) (m := sr m 1 (upd (m.1 1) (6 + cl a) b))
    simp only [if_neg hb, f1] at h4 h5
    obtain ⟨c, -, hc, rfl⟩ := out_rng (a := 0) (b := 5) (by decide) (by decide) (or_f hb).1
    have ec : cl (nI c) = c := jnI_clamp (by omega)
    rw [ec] at h4 h5
    exact oq_dd h4 h5 (congrArg Value.int (hE.lo (by omega)).symm) (rel_s hR ⟨n, hS.lo (by omega) (by omega) (by omega) (by omega)⟩)
theorem op_listed {K : Cx} {m : TM} (hR : Rel m) (a : Int32) : OQ yX4_listed cX4_listed 2 2 44 yX5_listed cX5_listed 2 2 42 (some .int) K [.int a] m := by
  obtain ⟨n, hS⟩ := id hR.1
  have hI := hS.1
  have hE := hS.2
  have hI5 := hS.five
  have h8 := hI.1
  have e1 := Rel.eq1 hS
  have f50 : ∀ w, (fnd m w).1 50 = m.1 50 := fun w => fnd_ne (by decide)
  have f13 : ∀ X, (sr m 13 X).1 50 = m.1 50 := fun X => sr_ne (by decide)
  have f1 : ∀ X, (sr m 1 X).1 50 = m.1 50 := fun X => sr_ne (by decide)
  have hI5f : ∀ w, Iv n ((fnd m w).1 50) := fun w => by rw [f50]; exact hI5
  have hI5t : ∀ X, Iv n ((sr m 13 X).1 50) := fun X => by rw [f13]; exact hI5
  have hI5s : ∀ X, Iv n ((sr m 1 X).1 50) := fun X => by rw [f1]; exact hI5
  have h4 := c_X4_listed (K := K) (i := a) (m := m)
  by_cases hb : outI a 0 5 = true
  · have h5 := c_X5_listed (K := K) (i := a) (m := fnd m 0)
    simp only [if_pos hb] at h4 h5
    exact oq_dd h4 h5 rfl (rel_no hR (by decide))
  · have h5 := c_X5_listed (K := K) (i := a) (m := m)
    simp only [if_neg hb] at h4 h5
    obtain ⟨c, -, hc, rfl⟩ := out_rng (a := 0) (b := 5) (by decide) (by decide) (Bool.eq_false_iff.mpr hb)
    have ec : cl (nI c) = c := jnI_clamp (by omega)
    rw [ec] at h4 h5
    exact oq_dd h4 h5 (congrArg Value.int (hE.lo (by omega)).symm) hR
theorem or_f3 {a b c : Bool} (h : ¬ (a || b || c) = true) : a = false ∧ b = false ∧ c = false := by cases a <;> cases b <;> cases c <;> simp_all
theorem and_t {a b : Bool} (h : (a && b) = true) : a = true ∧ b = true := by cases a <;> cases b <;> simp_all
theorem not_f {b : Bool} (h : (!b) = true) : b = false := by cases b <;> simp_all
theorem op_set {K : Cx} {m : TM} (hR : Rel m) (a : Int32) (b : Int32) : OQ yX4_set cX4_set 4 2 44 yX5_set cX5_set 4 1 22 (some .int) K [.int a, .int b] m := by
  obtain ⟨n, hS⟩ := id hR.1
  have hI := hS.1
  have hE := hS.2
  have hI5 := hS.five
  have h8 := hI.1
  have e1 := Rel.eq1 hS
  have f50 : ∀ w, (fnd m w).1 50 = m.1 50 := fun w => fnd_ne (by decide)
  have f13 : ∀ X, (sr m 13 X).1 50 = m.1 50 := fun X => sr_ne (by decide)
  have f1 : ∀ X, (sr m 1 X).1 50 = m.1 50 := fun X => sr_ne (by decide)
  have hI5f : ∀ w, Iv n ((fnd m w).1 50) := fun w => by rw [f50]; exact hI5
  have hI5t : ∀ X, Iv n ((sr m 13 X).1 50) := fun X => by rw [f13]; exact hI5
  have hI5s : ∀ X, Iv n ((sr m 1 X).1 50) := fun X => by rw [f1]; exact hI5
  have h4 := c_X4_set (K := K) (x := a) (v := b) (m := m)
  by_cases h0 : (decide (a = 0) && !outI b 0 9999) = true
  · have h5 := c_X5_set (K := K) (x := a) (v := b) (m := sr m 1 (upd (m.1 1) 4 b))
    simp only [if_pos h0, f1] at h4 h5
    obtain ⟨c, -, hc, rfl⟩ := out_rng (a := 0) (b := 9999) (by decide) (by decide) (not_f (and_t h0).2)
    exact oq_dd h4 h5 (congrArg Value.int (hE.lo (by omega)).symm) (rel_s hR ⟨n, hI.late hc, eqv_upd hE⟩)
  · by_cases h1 : (decide (a = 1) && !outI b 0 9) = true
    · have h5 := c_X5_set (K := K) (x := a) (v := b) (m := sr m 1 (upd (m.1 1) 5 b))
      simp only [if_neg h0, if_pos h1, f1] at h4 h5
      exact oq_dd h4 h5 (congrArg Value.int (hE.lo (by omega)).symm) (rel_s hR ⟨n, hS.lo (by omega) (by omega) (by omega) (by omega)⟩)
    · have h5 := c_X5_set (K := K) (x := a) (v := b) (m := fnd m 0)
      simp only [if_neg h0, if_neg h1] at h4 h5
      exact oq_dd h4 h5 rfl (rel_no hR (by decide))
theorem op_parcel {K : Cx} {m : TM} (hR : Rel m) (a : Int32) (b : Int32) : OQ yX4_parcel cX4_parcel 4 2 44 yX5_parcel cX5_parcel 3 2 46 (some .int) K [.int a, .int b] m := by
  obtain ⟨n, hS⟩ := id hR.1
  have hI := hS.1
  have hE := hS.2
  have hI5 := hS.five
  have h8 := hI.1
  have e1 := Rel.eq1 hS
  have f50 : ∀ w, (fnd m w).1 50 = m.1 50 := fun w => fnd_ne (by decide)
  have f13 : ∀ X, (sr m 13 X).1 50 = m.1 50 := fun X => sr_ne (by decide)
  have f1 : ∀ X, (sr m 1 X).1 50 = m.1 50 := fun X => sr_ne (by decide)
  have hI5f : ∀ w, Iv n ((fnd m w).1 50) := fun w => by rw [f50]; exact hI5
  have hI5t : ∀ X, Iv n ((sr m 13 X).1 50) := fun X => by rw [f13]; exact hI5
  have hI5s : ∀ X, Iv n ((sr m 1 X).1 50) := fun X => by rw [f1]; exact hI5
  by_cases hn : n = 8
  · subst hn
    have h4 := c_X4_parcelN (K := K) (x := a) (v := b) (m := m) hI.2.1
    by_cases hb : (outI a 0 6 || outI b 0 20) = true
    · have h5 := c_X5_parcelN (K := K) (x := a) (v := b) (m := fnd m 0) (hI5f 0).2.1
      simp only [if_pos hb] at h4 h5
      exact oq_dd h4 h5 rfl (rel_no hR (by decide))
    · have h5 := c_X5_parcelN (K := K) (x := a) (v := b) (m := fnd m 1) (hI5f 1).2.1
      simp only [if_neg hb] at h4 h5
      exact oq_dd h4 h5 rfl (rel_no hR (by decide))
  · have hn8 : n < 8 := by omega
    have h4 := c_X4_parcel (K := K) (x := a) (v := b) (m := m) hI.2.1 hn8
    by_cases hb : (outI a 0 6 || outI b 0 20) = true
    · have h5 := c_X5_parcel (K := K) (x := a) (v := b) (m := fnd m 0) (hI5f 0).2.1 hn8
      simp only [if_pos hb] at h4 h5
      exact oq_dd h4 h5 rfl (rel_no hR (by decide))
    · simp only [if_neg hb] at h4
      have h5 := c_X5_parcel (K := K) (x := a) (v := b) (m := sr m 1 (upd (upd (newF (m.1 1) n a) 1 (nI (n + 1))) (12 + 7 * n + 1) b)) (hI5s _).2.1 hn8
      simp only [if_neg hb, f1] at h5
      obtain ⟨c, -, hc, rfl⟩ := out_rng (a := 0) (b := 6) (by decide) (by decide) (or_f hb).1
      have hn1 : IE (n + 1) (lyN (m.1 1) n c) (lyN (m.1 50) n c) := ⟨hI.new hn8 hc, hE.new hn8⟩
      exact oq_dd h4 h5 rfl (rel_s hR ⟨n + 1, hn1.par (by omega) (by decide) (by decide) (fun q => absurd q (by decide))⟩)
theorem op_of {K : Cx} {m : TM} (hR : Rel m) (a : Int32) (b : Int32) : OQ yX4_of cX4_of 3 2 44 yX5_of cX5_of 3 2 44 (some .int) K [.int a, .int b] m := by
  obtain ⟨n, hS⟩ := id hR.1
  have hI := hS.1
  have hE := hS.2
  have hI5 := hS.five
  have h8 := hI.1
  have e1 := Rel.eq1 hS
  have f50 : ∀ w, (fnd m w).1 50 = m.1 50 := fun w => fnd_ne (by decide)
  have f13 : ∀ X, (sr m 13 X).1 50 = m.1 50 := fun X => sr_ne (by decide)
  have f1 : ∀ X, (sr m 1 X).1 50 = m.1 50 := fun X => sr_ne (by decide)
  have hI5f : ∀ w, Iv n ((fnd m w).1 50) := fun w => by rw [f50]; exact hI5
  have hI5t : ∀ X, Iv n ((sr m 13 X).1 50) := fun X => by rw [f13]; exact hI5
  have hI5s : ∀ X, Iv n ((sr m 1 X).1 50) := fun X => by rw [f1]; exact hI5
  have h4 := c_X4_of (K := K) (p := a) (x := b) hI
  by_cases hb : (outI a 0 (m.1 1 1 - 1) || outI b 0 10) = true
  · have h5 := c_X5_of (K := K) (p := a) (x := b) (hI5f 0)
    simp only [f50, e1, if_pos hb] at h4 h5
    exact oq_dd h4 h5 rfl (rel_no hR (by decide))
  · have h5 := c_X5_of (K := K) (p := a) (x := b) hI5
    simp only [e1, if_neg hb] at h4 h5
    have hk := (par_k hI.2.1 h8 (or_f hb).1).2
    exact oq_dd h4 h5 (congrArg Value.int (tld_congr hE h8 hk).symm) hR
theorem chg_ok {f : Nat} {b : Int32} (hf : f < 7) (h : outI b (lst (nI f)) (mst (nI f)) = false) : (f = 0 → ∃ c, c ≤ 6 ∧ b = nI c) ∧ (f = 5 → b = 0 ∨ b = 1) := by
  refine ⟨fun q => ?_, fun q => ?_⟩
  · subst q
    obtain ⟨c, _, h2, h3⟩ := out_rng (a := 0) (b := 6) (by decide) (by decide) h
    exact ⟨c, h2, h3⟩
  · subst q
    obtain ⟨c, _, h2, h3⟩ := out_rng (a := 0) (b := 1) (by decide) (by decide) h
    have : c = 0 ∨ c = 1 := by omega
    rcases this with rfl | rfl
    · exact Or.inl h3
    · exact Or.inr h3
theorem op_change {K : Cx} {m : TM} (hR : Rel m) (a : Int32) (b : Int32) (c : Int32) : OQ yX4_change cX4_change 5 2 44 yX5_change cX5_change 5 2 43 (some .int) K [.int a, .int b, .int c] m := by
  obtain ⟨n, hS⟩ := id hR.1
  have hI := hS.1
  have hE := hS.2
  have hI5 := hS.five
  have h8 := hI.1
  have e1 := Rel.eq1 hS
  have f50 : ∀ w, (fnd m w).1 50 = m.1 50 := fun w => fnd_ne (by decide)
  have f13 : ∀ X, (sr m 13 X).1 50 = m.1 50 := fun X => sr_ne (by decide)
  have f1 : ∀ X, (sr m 1 X).1 50 = m.1 50 := fun X => sr_ne (by decide)
  have hI5f : ∀ w, Iv n ((fnd m w).1 50) := fun w => by rw [f50]; exact hI5
  have hI5t : ∀ X, Iv n ((sr m 13 X).1 50) := fun X => by rw [f13]; exact hI5
  have hI5s : ∀ X, Iv n ((sr m 1 X).1 50) := fun X => by rw [f1]; exact hI5
  have h4 := c_X4_change (K := K) (p := a) (x := b) (v := c) hI
  by_cases hb : (outI a 0 (m.1 1 1 - 1) || outI b 0 6 || outI c (lst b) (mst b)) = true
  · have h5 := c_X5_change (K := K) (p := a) (x := b) (v := c) (hI5f 0)
    simp only [f50, e1, if_pos hb] at h4 h5
    exact oq_dd h4 h5 rfl (rel_no hR (by decide))
  · simp only [if_neg hb] at h4
    have h5 := c_X5_change (K := K) (p := a) (x := b) (v := c) (hI5s (ptF (m.1 1) (cl a) b c))
    simp only [f1, e1, if_neg hb] at h5
    have hk := (par_k hI.2.1 h8 (or_f3 hb).1).2
    obtain ⟨f, -, hf, rfl⟩ := out_rng (a := 0) (b := 6) (by decide) (by decide) (or_f3 hb).2.1
    have hok := chg_ok (by omega) (or_f3 hb).2.2
    have hv : tld (m.1 50) (cl a) (nI f) = tld (m.1 1) (cl a) (nI f) := (tld_congr hE h8 hk).symm
    rw [ptF_get f (by omega)] at h4
    rw [ptF_get f (by omega), ptF_get f (by omega)] at h5
    exact oq_dd h4 h5 (congrArg Value.int hv) (rel_s hR ⟨n, hI.upd_p hk (by omega) hok.1 hok.2, eqv_upd hE⟩)
theorem op_signs {K : Cx} {m : TM} (hR : Rel m) (a : Int32) (b : Int32) : OQ yX4_signs cX4_signs 3 2 44 yX5_signs cX5_signs 3 2 47 (some .int) K [.int a, .int b] m := by
  obtain ⟨n, hS⟩ := id hR.1
  have hI := hS.1
  have hE := hS.2
  have hI5 := hS.five
  have h8 := hI.1
  have e1 := Rel.eq1 hS
  have f50 : ∀ w, (fnd m w).1 50 = m.1 50 := fun w => fnd_ne (by decide)
  have f13 : ∀ X, (sr m 13 X).1 50 = m.1 50 := fun X => sr_ne (by decide)
  have f1 : ∀ X, (sr m 1 X).1 50 = m.1 50 := fun X => sr_ne (by decide)
  have hI5f : ∀ w, Iv n ((fnd m w).1 50) := fun w => by rw [f50]; exact hI5
  have hI5t : ∀ X, Iv n ((sr m 13 X).1 50) := fun X => by rw [f13]; exact hI5
  have hI5s : ∀ X, Iv n ((sr m 1 X).1 50) := fun X => by rw [f1]; exact hI5
  have h4 := c_X4_signs (K := K) (p := a) (t := b) hI
  by_cases hb : (outI a 0 (m.1 1 1 - 1) || outI b 0 29) = true
  · have h5 := c_X5_signs (K := K) (p := a) (t := b) (hI5f 0)
    simp only [f50, e1, if_pos hb] at h4 h5
    exact oq_dd h4 h5 rfl (rel_no hR (by decide))
  · have h5 := c_X5_signs (K := K) (p := a) (t := b) hI5
    simp only [e1, if_neg hb] at h4 h5
    have hk := (par_k hI.2.1 h8 (or_f hb).1).2
    rw [← hE.pp h8 hk (f := 0) (by decide), ← hE.pp h8 hk (f := 1) (by decide), ← hE.pp h8 hk (f := 2) (by decide), ← hE.pp h8 hk (f := 6) (by decide), ← hE.lo (i := 0) (by decide)] at h5
    exact oq_dd h4 h5 rfl hR
theorem op_onLine {K : Cx} {m : TM} (hR : Rel m) (a : Int32) : OQ yX4_onLine cX4_onLine 2 2 44 yX5_onLine cX5_onLine 4 2 42 (some .int) K [.int a] m := by
  obtain ⟨n, hS⟩ := id hR.1
  have hI := hS.1
  have hE := hS.2
  have hI5 := hS.five
  have h8 := hI.1
  have e1 := Rel.eq1 hS
  have f50 : ∀ w, (fnd m w).1 50 = m.1 50 := fun w => fnd_ne (by decide)
  have f13 : ∀ X, (sr m 13 X).1 50 = m.1 50 := fun X => sr_ne (by decide)
  have f1 : ∀ X, (sr m 1 X).1 50 = m.1 50 := fun X => sr_ne (by decide)
  have hI5f : ∀ w, Iv n ((fnd m w).1 50) := fun w => by rw [f50]; exact hI5
  have hI5t : ∀ X, Iv n ((sr m 13 X).1 50) := fun X => by rw [f13]; exact hI5
  have hI5s : ∀ X, Iv n ((sr m 1 X).1 50) := fun X => by rw [f1]; exact hI5
  have h4 := c_X4_onLine (K := K) (x := a) hI
  by_cases hb : outI a 0 20 = true
  · have h5 := c_X5_onLine (K := K) (x := a) (hI5f 0)
    simp only [if_pos hb] at h4 h5
    exact oq_dd h4 h5 rfl (rel_no hR (by decide))
  · have h5 := c_X5_onLine (K := K) (x := a) hI5
    simp only [if_neg hb] at h4 h5
    exact oq_dd h4 h5 (congrArg Value.int (lyF_congr hE h8 n (Nat.le_refl n)).symm) hR
theorem day_le {d c : Nat} (hd : d ≤ 99999) (hc : c ≤ 1000) : (nI d ≤ 99999 - nI c ↔ d + c ≤ 99999) ∧ (nI d + nI c ≤ 99999 ↔ d + c ≤ 99999) := by
  have e1 : nI d + nI c = nI (d + c) := (Int32.ofNat_add d c).symm
  have e2 : (99999 : Int32) - nI c = nI (99999 - c) := by
    have e3 : nI (99999 - c + c) = nI (99999 - c) + nI c := Int32.ofNat_add _ _
    rw [show 99999 - c + c = 99999 by omega] at e3
    rw [show (99999 : Int32) = nI 99999 from rfl, e3]
    exact Int32.add_sub_cancel ..
  rw [e1, e2]
  refine ⟨(jnI_le' (by omega) (by omega)).trans ⟨fun q => by omega, fun q => by omega⟩, ?_⟩
  exact jnI_le' (a := d + c) (b := 99999) (by omega) (by decide)
theorem day_same {n : Nat} {s u : Nat → Int32} {x : Int32} {hi : Nat} (hS : IE n s u) (hh : hi ≤ 60) (h : outI x 1 (nI hi) = false) : (s 0 ≤ 99999 - x ↔ u 0 + x ≤ 99999) ∧ cl x ≤ 60 := by
  obtain ⟨c, _, hc, rfl⟩ := out_rng (a := 1) (b := hi) (by decide) (by omega) h
  obtain ⟨d, hd, e0⟩ := hS.1.2.2.1
  have ec : cl (nI c) = c := jnI_clamp (by omega)
  rw [← hS.2.lo (i := 0) (by decide), e0]
  have h2 := day_le hd (c := c) (by omega)
  exact ⟨h2.1.trans h2.2.symm, by omega⟩
theorem op_go {K : Cx} {m : TM} (hR : Rel m) (a : Int32) : OQ yX4_go cX4_go 2 5 109 yX5_go cX5_go 2 5 113 (some .int) K [.int a] m := by
  obtain ⟨n, hS⟩ := id hR.1
  have hI := hS.1
  have hE := hS.2
  have hI5 := hS.five
  have h8 := hI.1
  have e1 := Rel.eq1 hS
  have f50 : ∀ w, (fnd m w).1 50 = m.1 50 := fun w => fnd_ne (by decide)
  have f13 : ∀ X, (sr m 13 X).1 50 = m.1 50 := fun X => sr_ne (by decide)
  have f1 : ∀ X, (sr m 1 X).1 50 = m.1 50 := fun X => sr_ne (by decide)
  have hI5f : ∀ w, Iv n ((fnd m w).1 50) := fun w => by rw [f50]; exact hI5
  have hI5t : ∀ X, Iv n ((sr m 13 X).1 50) := fun X => by rw [f13]; exact hI5
  have hI5s : ∀ X, Iv n ((sr m 1 X).1 50) := fun X => by rw [f1]; exact hI5
  have h4 := c_X4_go (K := K) (x := a) hI
  by_cases hb : outI a 1 60 = true
  · have h5 := c_X5_go (K := K) (x := a) (hI5f 0)
    simp only [if_pos hb] at h4 h5
    exact oq_dd h4 h5 rfl (rel_no hR (by decide))
  · obtain ⟨hd, hc⟩ := day_same (hi := 60) hS (by decide) (Bool.eq_false_iff.mpr hb)
    by_cases h2 : m.1 1 0 ≤ 99999 - a
    · have h5 := c_X5_go (K := K) (x := a) (hI5s (dysC n (cl a) (m.1 1)))
      simp only [f1, if_neg hb, if_pos h2, if_pos (hd.mp h2)] at h4 h5
      exact oq_dd h4 h5 (congrArg Value.int (thF_congr (hE.days (cl a) hI) h8 n (Nat.le_refl n)).symm) (rel_s hR ⟨n, hI.days (cl a), hE.days (cl a) hI⟩)
    · have h5 := c_X5_go (K := K) (x := a) (hI5f 4)
      simp only [f50, if_neg hb, if_neg h2, if_neg (fun q => h2 (hd.mpr q))] at h4 h5
      exact oq_dd h4 h5 rfl (rel_no hR (by decide))
theorem op_swell {K : Cx} {m : TM} (hR : Rel m) (a : Int32) : OQ yX4_swell cX4_swell 4 4 87 yX5_swell cX5_swell 4 4 91 (some .int) K [.int a] m := by
  obtain ⟨n, hS⟩ := id hR.1
  have hI := hS.1
  have hE := hS.2
  have hI5 := hS.five
  have h8 := hI.1
  have e1 := Rel.eq1 hS
  have f50 : ∀ w, (fnd m w).1 50 = m.1 50 := fun w => fnd_ne (by decide)
  have f13 : ∀ X, (sr m 13 X).1 50 = m.1 50 := fun X => sr_ne (by decide)
  have f1 : ∀ X, (sr m 1 X).1 50 = m.1 50 := fun X => sr_ne (by decide)
  have hI5f : ∀ w, Iv n ((fnd m w).1 50) := fun w => by rw [f50]; exact hI5
  have hI5t : ∀ X, Iv n ((sr m 13 X).1 50) := fun X => by rw [f13]; exact hI5
  have hI5s : ∀ X, Iv n ((sr m 1 X).1 50) := fun X => by rw [f1]; exact hI5
  have h4 := c_X4_swell (K := K) (x := a) hI
  by_cases hb : outI a 1 20 = true
  · have h5 := c_X5_swell (K := K) (x := a) (hI5f 0)
    simp only [if_pos hb] at h4 h5
    exact oq_dd h4 h5 rfl (rel_no hR (by decide))
  · obtain ⟨hd, hc⟩ := day_same (hi := 20) hS (by decide) (Bool.eq_false_iff.mpr hb)
    by_cases h2 : m.1 1 0 ≤ 99999 - a
    · have h5 := c_X5_swell (K := K) (x := a) (hI5s (swF n (cl a) (m.1 1)))
      simp only [f1, if_neg hb, if_pos h2, if_pos (hd.mp h2)] at h4 h5
      exact oq_dd h4 h5 (congrArg Value.int (thF_congr (swF_eqv (cl a) hE hI) h8 n (Nat.le_refl n)).symm) (rel_s hR ⟨n, hI.sw (cl a), swF_eqv (cl a) hE hI⟩)
    · have h5 := c_X5_swell (K := K) (x := a) (hI5f 4)
      simp only [f50, if_neg hb, if_neg h2, if_neg (fun q => h2 (hd.mpr q))] at h4 h5
      exact oq_dd h4 h5 rfl (rel_no hR (by decide))
theorem op_now {K : Cx} {m : TM} (hR : Rel m) (a : Int32) : OQ yX4_now cX4_now 2 2 44 yX5_now cX5_now 2 2 45 (some .int) K [.int a] m := by
  obtain ⟨n, hS⟩ := id hR.1
  have hI := hS.1
  have hE := hS.2
  have hI5 := hS.five
  have h8 := hI.1
  have e1 := Rel.eq1 hS
  have f50 : ∀ w, (fnd m w).1 50 = m.1 50 := fun w => fnd_ne (by decide)
  have f13 : ∀ X, (sr m 13 X).1 50 = m.1 50 := fun X => sr_ne (by decide)
  have f1 : ∀ X, (sr m 1 X).1 50 = m.1 50 := fun X => sr_ne (by decide)
  have hI5f : ∀ w, Iv n ((fnd m w).1 50) := fun w => by rw [f50]; exact hI5
  have hI5t : ∀ X, Iv n ((sr m 13 X).1 50) := fun X => by rw [f13]; exact hI5
  have hI5s : ∀ X, Iv n ((sr m 1 X).1 50) := fun X => by rw [f1]; exact hI5
  have h4 := c_X4_now (K := K) (x := a) hI
  have t0 : ∀ x, thF (m.1 50) x n = thF (m.1 1) x n := fun x => (thF_congr hE h8 n (Nat.le_refl n)).symm
  have t1 : weF (m.1 50) n = weF (m.1 1) n := (weF_congr hE h8 n (Nat.le_refl n)).symm
  have t2 : tdF (m.1 50) = tdF (m.1 1) := (hE.td hI.td).symm
  by_cases hb : outI a 0 7 = true
  · have h5 := c_X5_now (K := K) (x := a) (hI5f 0)
    simp only [f50, t0, t1, t2, ← hE.lo (i := 0) (by decide), ← hE.lo (i := 3) (by decide), ← hE.lo (i := 4) (by decide)] at h5
    rw [if_pos hb] at h4 h5
    exact oq_dd h4 h5 rfl (rel_no hR (by decide))
  · have h5 := c_X5_now (K := K) (x := a) hI5
    simp only [t0, t1, t2, ← hE.lo (i := 0) (by decide), ← hE.lo (i := 3) (by decide), ← hE.lo (i := 4) (by decide)] at h5
    rw [if_neg hb] at h4 h5
    exact oq_dd h4 h5 rfl hR
theorem op_seed {K : Cx} {m : TM} (hR : Rel m) (a : Int32) : OQ yX4_seed cX4_seed 3 0 0 yX5_seed cX5_seed 3 0 0 (some .int) K [.int a] m := by
  obtain ⟨n, hS⟩ := id hR.1
  have hI := hS.1
  have hE := hS.2
  have hI5 := hS.five
  have h8 := hI.1
  have e1 := Rel.eq1 hS
  have f50 : ∀ w, (fnd m w).1 50 = m.1 50 := fun w => fnd_ne (by decide)
  have f13 : ∀ X, (sr m 13 X).1 50 = m.1 50 := fun X => sr_ne (by decide)
  have f1 : ∀ X, (sr m 1 X).1 50 = m.1 50 := fun X => sr_ne (by decide)
  have hI5f : ∀ w, Iv n ((fnd m w).1 50) := fun w => by rw [f50]; exact hI5
  have hI5t : ∀ X, Iv n ((sr m 13 X).1 50) := fun X => by rw [f13]; exact hI5
  have hI5s : ∀ X, Iv n ((sr m 1 X).1 50) := fun X => by rw [f1]; exact hI5
  have h4 := c_X4_seed (K := K) (v := a) (m := m)
  have h5 := c_X5_seed (K := K) (v := a) (m := sr m 1 (upd (m.1 1) 2 a))
  simp only [f1] at h5
  exact oq_dd h4 h5 (congrArg Value.int (hE.lo (by decide)).symm) (rel_s hR ⟨n, hS.lo (by omega) (by omega) (by omega) (by omega)⟩)
