/-! the calls, alike: what will be, how to send, told places, odds -/
theorem dys_e {n : Nat} {s u : Nat → Int32} (h : Eqv n s u) (hI : Iv n s) (c : Nat) : Eqv n (dysC n c s) (dysC n c u) := h.days c hI
theorem ansM_50 {m : TM} {n : Nat} {t : Nat → Int32} {r : Option Nat} : (ansM m n t r).1 50 = m.1 50 := by
  cases r with
  | some j => exact sr_ne (by decide)
  | none => show (fnd (sr m 13 _) 3).1 50 = _; rw [fnd_ne (by decide), sr_ne (by decide)]
theorem rel_ans {m : TM} {n : Nat} {t : Nat → Int32} {r : Option Nat} (hR : Rel m) : Rel (ansF (ansM m n t r) r) := by
  cases r with
  | some j => exact rel_as (rel_13 hR)
  | none => exact rel_no2 (rel_13 hR) (by decide)
theorem memC_50 {m : TM} {X : Nat → Int32} {r : Option Nat} : (memC m X r).1 50 = m.1 50 := by
  cases r with
  | some j => exact sr_ne (by decide)
  | none => show (fnd (sr m 13 _) 3).1 50 = _; rw [fnd_ne (by decide), sr_ne (by decide)]
theorem rel_mem {m : TM} {X Y : Nat → Int32} {r : Option Nat} (hR : Rel m) : Rel (memR (memC m X r) Y r) := by
  cases r with
  | some j => exact rel_52 (rel_13 hR)
  | none => exact rel_no2 (rel_13 hR) (by decide)
theorem op_ahead {K : Cx} {m : TM} (hR : Rel m) (a : Int32) (b : Int32) (c : Int32) : OQ yX4_ahead cX4_ahead 6 5 109 yX5_ahead cX5_ahead 5 6 136 (some .int) K [.int a, .int b, .int c] m := by
  obtain ⟨n, hS⟩ := id hR.1
  have hI := hS.1
  have hE := hS.2
  have hI5 := hS.five
  have h8 := hI.1
  have e1 := Rel.eq1 hS
  have f50 : ∀ w, (fnd m w).1 50 = m.1 50 := fun w => fnd_ne (by decide)
  have f13 : ∀ X, (sr m 13 X).1 50 = m.1 50 := fun X => sr_ne (by decide)
  have f1 : ∀ X, (sr m 1 X).1 50 = m.1 50 := fun X => sr_ne (by decide)
  have hI5f : ∀ w, Iv n ((fnd m w).1 50) := fun w => by rw [f50]; exact hI5
  have hI5t : ∀ X, Iv n ((sr m 13 X).1 50) := fun X => by rw [f13]; exact hI5
  have hI5s : ∀ X, Iv n ((sr m 1 X).1 50) := fun X => by rw [f1]; exact hI5
  have hET : Eqv n (T0 m n) (m.1 50) := (bcF_eqv h8).tr hE
  have hIT : Iv n (T0 m n) := iv_bc hI
  have h4 := c_X4_ahead (K := K) (p := a) (x := b) (y := c) hI
  by_cases hb : (outI a 0 (m.1 1 1 - 1) || !tlk b || outI c 0 100) = true
  · have h5 := c_X5_ahead (K := K) (p := a) (x := b) (y := c) (hI5f 0)
    simp only [f50, e1, if_pos hb] at h4 h5
    exact oq_dd h4 h5 rfl (rel_no hR (by decide))
  · simp only [if_neg hb] at h4
    have h5 := c_X5_ahead (K := K) (p := a) (x := b) (y := c) (hI5t (dysC n (cl c) (T0 m n)))
    simp only [f13, e1, if_neg hb] at h5
    have hk := (par_k hI.2.1 h8 (or_f3 hb).1).2
    exact oq_dd h4 h5 (congrArg Value.int (tld_congr (dys_e hET hIT (cl c)) h8 hk).symm) (rel_as (rel_13 hR))
theorem op_sea {K : Cx} {m : TM} (hR : Rel m) (a : Int32) (b : Int32) : OQ yX4_sea cX4_sea 4 5 109 yX5_sea cX5_sea 4 6 136 (some .int) K [.int a, .int b] m := by
  obtain ⟨n, hS⟩ := id hR.1
  have hI := hS.1
  have hE := hS.2
  have hI5 := hS.five
  have h8 := hI.1
  have e1 := Rel.eq1 hS
  have f50 : ∀ w, (fnd m w).1 50 = m.1 50 := fun w => fnd_ne (by decide)
  have f13 : ∀ X, (sr m 13 X).1 50 = m.1 50 := fun X => sr_ne (by decide)
  have f1 : ∀ X, (sr m 1 X).1 50 = m.1 50 := fun X => sr_ne (by decide)
  have hI5f : ∀ w, Iv n ((fnd m w).1 50) := fun w => by rw [f50]; exact hI5
  have hI5t : ∀ X, Iv n ((sr m 13 X).1 50) := fun X => by rw [f13]; exact hI5
  have hI5s : ∀ X, Iv n ((sr m 1 X).1 50) := fun X => by rw [f1]; exact hI5
  have hET : Eqv n (T0 m n) (m.1 50) := (bcF_eqv h8).tr hE
  have hIT : Iv n (T0 m n) := iv_bc hI
  have h4 := c_X4_sea (K := K) (x := a) (y := b) hI
  by_cases hb : (!tlk2 a || outI b 0 100) = true
  · have h5 := c_X5_sea (K := K) (x := a) (y := b) (hI5f 0)
    simp only [if_pos hb] at h4 h5
    exact oq_dd h4 h5 rfl (rel_no hR (by decide))
  · simp only [if_neg hb] at h4
    have h5 := c_X5_sea (K := K) (x := a) (y := b) (hI5t (dysC n (cl b) (T0 m n)))
    have hd := dys_e hET hIT (cl b)
    simp only [f13, if_neg hb, ← hd.lo (i := 3) (by decide), ← hd.lo (i := 4) (by decide), ← hd.td (hIT.days (cl b)).td] at h5
    exact oq_dd h4 h5 rfl (rel_as (rel_13 hR))
theorem op_when {K : Cx} {m : TM} (hR : Rel m) (a : Int32) (b : Int32) : OQ yX4_when cX4_when 5 4 87 yX5_when cX5_when 3 5 114 (some .int) K [.int a, .int b] m := by
  obtain ⟨n, hS⟩ := id hR.1
  have hI := hS.1
  have hE := hS.2
  have hI5 := hS.five
  have h8 := hI.1
  have e1 := Rel.eq1 hS
  have f50 : ∀ w, (fnd m w).1 50 = m.1 50 := fun w => fnd_ne (by decide)
  have f13 : ∀ X, (sr m 13 X).1 50 = m.1 50 := fun X => sr_ne (by decide)
  have f1 : ∀ X, (sr m 1 X).1 50 = m.1 50 := fun X => sr_ne (by decide)
  have hI5f : ∀ w, Iv n ((fnd m w).1 50) := fun w => by rw [f50]; exact hI5
  have hI5t : ∀ X, Iv n ((sr m 13 X).1 50) := fun X => by rw [f13]; exact hI5
  have hI5s : ∀ X, Iv n ((sr m 1 X).1 50) := fun X => by rw [f1]; exact hI5
  have hET : Eqv n (T0 m n) (m.1 50) := (bcF_eqv h8).tr hE
  have hIT : Iv n (T0 m n) := iv_bc hI
  have h4 := c_X4_when (K := K) (p := a) (x := b) hI
  by_cases hb : (outI a 0 (m.1 1 1 - 1) || outI b 1 2) = true
  · have h5 := c_X5_when (K := K) (p := a) (x := b) (hI5f 0)
    simp only [f50, e1, if_pos hb] at h4 h5
    exact oq_dd h4 h5 rfl (rel_no hR (by decide))
  · simp only [if_neg hb] at h4
    have hk := (par_k hI.2.1 h8 (or_f hb).1).2
    have hP : srch (fun q => decide (dysC n q (T0 m n) (12 + 7 * cl a + 4) = b)) 201 0 = srch (fun q => decide (dysC n q (m.1 50) (12 + 7 * cl a + 4) = b)) 201 0 := srch_congr (fun q => by rw [(dys_e hET hIT q).pp h8 hk (f := 4) (by decide)]) 201 0
    have h5 := c_X5_when (K := K) (p := a) (x := b) (n8 := n) (m := ansM m n (T0 m n) (srch (fun q => decide (dysC n q (T0 m n) (12 + 7 * cl a + 4) = b)) 201 0)) (by rw [ansM_50]; exact hI5)
    simp only [ansM_50, e1, if_neg hb, ← hP] at h5
    exact oq_dd h4 h5 rfl (rel_ans hR)
theorem op_cleared {K : Cx} {m : TM} (hR : Rel m) : OQ yX4_cleared cX4_cleared 2 4 87 yX5_cleared cX5_cleared 1 5 114 (some .int) K [] m := by
  obtain ⟨n, hS⟩ := id hR.1
  have hI := hS.1
  have hE := hS.2
  have hI5 := hS.five
  have h8 := hI.1
  have e1 := Rel.eq1 hS
  have f50 : ∀ w, (fnd m w).1 50 = m.1 50 := fun w => fnd_ne (by decide)
  have f13 : ∀ X, (sr m 13 X).1 50 = m.1 50 := fun X => sr_ne (by decide)
  have f1 : ∀ X, (sr m 1 X).1 50 = m.1 50 := fun X => sr_ne (by decide)
  have hI5f : ∀ w, Iv n ((fnd m w).1 50) := fun w => by rw [f50]; exact hI5
  have hI5t : ∀ X, Iv n ((sr m 13 X).1 50) := fun X => by rw [f13]; exact hI5
  have hI5s : ∀ X, Iv n ((sr m 1 X).1 50) := fun X => by rw [f1]; exact hI5
  have hET : Eqv n (T0 m n) (m.1 50) := (bcF_eqv h8).tr hE
  have hIT : Iv n (T0 m n) := iv_bc hI
  have h4 := c_X4_cleared (K := K)  hI
  have hP : srch (fun q => decide (thF (dysC n q (T0 m n)) 0 n = 0)) 201 0 = srch (fun q => decide (thF (dysC n q (m.1 50)) 0 n = 0)) 201 0 := srch_congr (fun q => by rw [thF_congr (dys_e hET hIT q) h8 n (Nat.le_refl n)]) 201 0
  have h5 := c_X5_cleared (K := K)  (n8 := n) (m := ansM m n (T0 m n) (srch (fun q => decide (thF (dysC n q (T0 m n)) 0 n = 0)) 201 0)) (by rw [ansM_50]; exact hI5)
  simp only [ansM_50, ← hP] at h5
  exact oq_dd h4 h5 rfl (rel_ans hR)
theorem op_paid {K : Cx} {m : TM} (hR : Rel m) (a : Int32) : OQ yX4_paid cX4_paid 3 4 87 yX5_paid cX5_paid 2 5 114 (some .int) K [.int a] m := by
  obtain ⟨n, hS⟩ := id hR.1
  have hI := hS.1
  have hE := hS.2
  have hI5 := hS.five
  have h8 := hI.1
  have e1 := Rel.eq1 hS
  have f50 : ∀ w, (fnd m w).1 50 = m.1 50 := fun w => fnd_ne (by decide)
  have f13 : ∀ X, (sr m 13 X).1 50 = m.1 50 := fun X => sr_ne (by decide)
  have f1 : ∀ X, (sr m 1 X).1 50 = m.1 50 := fun X => sr_ne (by decide)
  have hI5f : ∀ w, Iv n ((fnd m w).1 50) := fun w => by rw [f50]; exact hI5
  have hI5t : ∀ X, Iv n ((sr m 13 X).1 50) := fun X => by rw [f13]; exact hI5
  have hI5s : ∀ X, Iv n ((sr m 1 X).1 50) := fun X => by rw [f1]; exact hI5
  have hET : Eqv n (T0 m n) (m.1 50) := (bcF_eqv h8).tr hE
  have hIT : Iv n (T0 m n) := iv_bc hI
  have h4 := c_X4_paid (K := K) (x := a) hI
  by_cases hb : outI a 0 99999 = true
  · have h5 := c_X5_paid (K := K) (x := a) (hI5f 0)
    simp only [f50, e1, if_pos hb] at h4 h5
    exact oq_dd h4 h5 rfl (rel_no hR (by decide))
  · simp only [if_neg hb] at h4
    have hP : srch (fun q => !decide (dysC n q (T0 m n) 3 < a)) 201 0 = srch (fun q => !decide (dysC n q (m.1 50) 3 < a)) 201 0 := srch_congr (fun q => by rw [(dys_e hET hIT q).lo (i := 3) (by decide)]) 201 0
    have h5 := c_X5_paid (K := K) (x := a) (n8 := n) (m := ansM m n (T0 m n) (srch (fun q => !decide (dysC n q (T0 m n) 3 < a)) 201 0)) (by rw [ansM_50]; exact hI5)
    simp only [ansM_50, e1, if_neg hb, ← hP] at h5
    exact oq_dd h4 h5 rfl (rel_ans hR)
theorem op_lineFor {K : Cx} {m : TM} (hR : Rel m) (a : Int32) (b : Int32) : OQ yX4_lineFor cX4_lineFor 5 5 110 yX5_lineFor cX5_lineFor 3 7 161 (some .int) K [.int a, .int b] m := by
  obtain ⟨n, hS⟩ := id hR.1
  have hI := hS.1
  have hE := hS.2
  have hI5 := hS.five
  have h8 := hI.1
  have e1 := Rel.eq1 hS
  have f50 : ∀ w, (fnd m w).1 50 = m.1 50 := fun w => fnd_ne (by decide)
  have f13 : ∀ X, (sr m 13 X).1 50 = m.1 50 := fun X => sr_ne (by decide)
  have f1 : ∀ X, (sr m 1 X).1 50 = m.1 50 := fun X => sr_ne (by decide)
  have hI5f : ∀ w, Iv n ((fnd m w).1 50) := fun w => by rw [f50]; exact hI5
  have hI5t : ∀ X, Iv n ((sr m 13 X).1 50) := fun X => by rw [f13]; exact hI5
  have hI5s : ∀ X, Iv n ((sr m 1 X).1 50) := fun X => by rw [f1]; exact hI5
  by_cases hb : (outI a 0 (m.1 1 1 - 1) || outI b 0 60) = true
  · have h4 := c_X4_lineForB (K := K) (p := a) (y := b) hb
    have h5 := c_X5_lineForB (K := K) (p := a) (y := b) (m := fnd m 0) (by rw [f50, e1]; exact hb)
    exact oq_dd h4 h5 rfl (rel_no hR (by decide))
  · obtain ⟨k, hk, rfl⟩ : ∃ k, k < n ∧ a = nI k := ⟨cl a, (par_k hI.2.1 h8 (or_f hb).1).2, par_nI hI.2.1 h8 (or_f hb).1⟩
    obtain ⟨c, -, hc, rfl⟩ := out_rng (a := 0) (b := 60) (by decide) (by decide) (or_f hb).2
    have h4 := c_X4_lineFor (K := K) hI hk hc
    have hP : srD (fun v => tkn (m.1 1) n k c (12 + 7 * k + 1) (nI v)) 0 21 = srD (fun v => tkn (m.1 50) n k c (12 + 7 * k + 1) (nI v)) 0 21 := srD_congr 21 (fun i hi => tkn_congr hk hE (hI.upd_p hk (by decide) (fun q => absurd q (by decide)) (fun q => absurd q (by decide))))
    have h5 := fun X => c_X5_lineFor (K := K) (n8 := n) (k := k) (c := c) (m := memC m X (srD (fun v => tkn (m.1 1) n k c (12 + 7 * k + 1) (nI v)) 0 21)) (by rw [memC_50]; exact hI5) hk hc
    simp only [memC_50, ← hP] at h5
    exact oq_qq (F := fun X => memC m X (srD (fun v => tkn (m.1 1) n k c (12 + 7 * k + 1) (nI v)) 0 21)) (G := fun X Y => memR (memC m X (srD (fun v => tkn (m.1 1) n k c (12 + 7 * k + 1) (nI v)) 0 21)) Y (srD (fun v => tkn (m.1 1) n k c (12 + 7 * k + 1) (nI v)) 0 21)) h4 h5 rfl (fun X Y => rel_mem hR)
theorem op_weightFor {K : Cx} {m : TM} (hR : Rel m) (a : Int32) (b : Int32) : OQ yX4_weightFor cX4_weightFor 5 5 110 yX5_weightFor cX5_weightFor 3 7 161 (some .int) K [.int a, .int b] m := by
  obtain ⟨n, hS⟩ := id hR.1
  have hI := hS.1
  have hE := hS.2
  have hI5 := hS.five
  have h8 := hI.1
  have e1 := Rel.eq1 hS
  have f50 : ∀ w, (fnd m w).1 50 = m.1 50 := fun w => fnd_ne (by decide)
  have f13 : ∀ X, (sr m 13 X).1 50 = m.1 50 := fun X => sr_ne (by decide)
  have f1 : ∀ X, (sr m 1 X).1 50 = m.1 50 := fun X => sr_ne (by decide)
  have hI5f : ∀ w, Iv n ((fnd m w).1 50) := fun w => by rw [f50]; exact hI5
  have hI5t : ∀ X, Iv n ((sr m 13 X).1 50) := fun X => by rw [f13]; exact hI5
  have hI5s : ∀ X, Iv n ((sr m 1 X).1 50) := fun X => by rw [f1]; exact hI5
  by_cases hb : (outI a 0 (m.1 1 1 - 1) || outI b 0 60) = true
  · have h4 := c_X4_weightForB (K := K) (p := a) (y := b) hb
    have h5 := c_X5_weightForB (K := K) (p := a) (y := b) (m := fnd m 0) (by rw [f50, e1]; exact hb)
    exact oq_dd h4 h5 rfl (rel_no hR (by decide))
  · obtain ⟨k, hk, rfl⟩ : ∃ k, k < n ∧ a = nI k := ⟨cl a, (par_k hI.2.1 h8 (or_f hb).1).2, par_nI hI.2.1 h8 (or_f hb).1⟩
    obtain ⟨c, -, hc, rfl⟩ := out_rng (a := 0) (b := 60) (by decide) (by decide) (or_f hb).2
    have h4 := c_X4_weightFor (K := K) hI hk hc
    have hP : srD (fun v => tkn (m.1 1) n k c (12 + 7 * k + 2) (nI v)) 1 100 = srD (fun v => tkn (m.1 50) n k c (12 + 7 * k + 2) (nI v)) 1 100 := srD_congr 100 (fun i hi => tkn_congr hk hE (hI.upd_p hk (by decide) (fun q => absurd q (by decide)) (fun q => absurd q (by decide))))
    have h5 := fun X => c_X5_weightFor (K := K) (n8 := n) (k := k) (c := c) (m := memC m X (srD (fun v => tkn (m.1 1) n k c (12 + 7 * k + 2) (nI v)) 1 100)) (by rw [memC_50]; exact hI5) hk hc
    simp only [memC_50, ← hP] at h5
    exact oq_qq (F := fun X => memC m X (srD (fun v => tkn (m.1 1) n k c (12 + 7 * k + 2) (nI v)) 1 100)) (G := fun X Y => memR (memC m X (srD (fun v => tkn (m.1 1) n k c (12 + 7 * k + 2) (nI v)) 1 100)) Y (srD (fun v => tkn (m.1 1) n k c (12 + 7 * k + 2) (nI v)) 1 100)) h4 h5 rfl (fun X Y => rel_mem hR)
theorem op_stormFor {K : Cx} {m : TM} (hR : Rel m) (a : Int32) (b : Int32) : OQ yX4_stormFor cX4_stormFor 5 5 110 yX5_stormFor cX5_stormFor 4 6 136 (some .int) K [.int a, .int b] m := by
  obtain ⟨n, hS⟩ := id hR.1
  have hI := hS.1
  have hE := hS.2
  have hI5 := hS.five
  have h8 := hI.1
  have e1 := Rel.eq1 hS
  have f50 : ∀ w, (fnd m w).1 50 = m.1 50 := fun w => fnd_ne (by decide)
  have f13 : ∀ X, (sr m 13 X).1 50 = m.1 50 := fun X => sr_ne (by decide)
  have f1 : ∀ X, (sr m 1 X).1 50 = m.1 50 := fun X => sr_ne (by decide)
  have hI5f : ∀ w, Iv n ((fnd m w).1 50) := fun w => by rw [f50]; exact hI5
  have hI5t : ∀ X, Iv n ((sr m 13 X).1 50) := fun X => by rw [f13]; exact hI5
  have hI5s : ∀ X, Iv n ((sr m 1 X).1 50) := fun X => by rw [f1]; exact hI5
  by_cases hb : (outI a 0 (m.1 1 1 - 1) || outI b 0 60) = true
  · have h4 := c_X4_stormForB (K := K) (p := a) (y := b) hb
    have h5 := c_X5_stormForB (K := K) (p := a) (y := b) (m := fnd m 0) (by rw [f50, e1]; exact hb)
    exact oq_dd h4 h5 rfl (rel_no hR (by decide))
  · obtain ⟨k, hk, rfl⟩ : ∃ k, k < n ∧ a = nI k := ⟨cl a, (par_k hI.2.1 h8 (or_f hb).1).2, par_nI hI.2.1 h8 (or_f hb).1⟩
    obtain ⟨c, -, hc, rfl⟩ := out_rng (a := 0) (b := 60) (by decide) (by decide) (or_f hb).2
    have h4 := c_X4_stormFor (K := K) hI hk hc
    have hP : srch (fun v => tkn (m.1 1) n k c 5 (nI v)) 10 0 = srch (fun v => tkn (m.1 50) n k c 5 (nI v)) 10 0 := srch_congr2 10 0 (fun i hi => tkn_congr hk hE (hI.upd_lo (by decide) (by decide) (by decide) (by decide)))
    have h5 := fun X => c_X5_stormFor (K := K) (n8 := n) (k := k) (c := c) (m := memC m X (srch (fun v => tkn (m.1 1) n k c 5 (nI v)) 10 0)) (by rw [memC_50]; exact hI5) hk hc
    simp only [memC_50, ← hP] at h5
    exact oq_qq (F := fun X => memC m X (srch (fun v => tkn (m.1 1) n k c 5 (nI v)) 10 0)) (G := fun X Y => memR (memC m X (srch (fun v => tkn (m.1 1) n k c 5 (nI v)) 10 0)) Y (srch (fun v => tkn (m.1 1) n k c 5 (nI v)) 10 0)) h4 h5 rfl (fun X Y => rel_mem hR)
theorem op_kindFor {K : Cx} {m : TM} (hR : Rel m) (a : Int32) (b : Int32) : OQ yX4_kindFor cX4_kindFor 7 5 109 yX5_kindFor cX5_kindFor 7 5 113 (some .int) K [.int a, .int b] m := by
  obtain ⟨n, hS⟩ := id hR.1
  have hI := hS.1
  have hE := hS.2
  have hI5 := hS.five
  have h8 := hI.1
  have e1 := Rel.eq1 hS
  have f50 : ∀ w, (fnd m w).1 50 = m.1 50 := fun w => fnd_ne (by decide)
  have f13 : ∀ X, (sr m 13 X).1 50 = m.1 50 := fun X => sr_ne (by decide)
  have f1 : ∀ X, (sr m 1 X).1 50 = m.1 50 := fun X => sr_ne (by decide)
  have hI5f : ∀ w, Iv n ((fnd m w).1 50) := fun w => by rw [f50]; exact hI5
  have hI5t : ∀ X, Iv n ((sr m 13 X).1 50) := fun X => by rw [f13]; exact hI5
  have hI5s : ∀ X, Iv n ((sr m 1 X).1 50) := fun X => by rw [f1]; exact hI5
  by_cases hb : (outI a 0 (m.1 1 1 - 1) || outI b 0 60) = true
  · have h4 := c_X4_kindForB (K := K) (p := a) (y := b) hb
    have h5 := c_X5_kindForB (K := K) (p := a) (y := b) (m := fnd m 0) (by rw [f50, e1]; exact hb)
    exact oq_dd h4 h5 rfl (rel_no hR (by decide))
  · obtain ⟨k, hk, rfl⟩ : ∃ k, k < n ∧ a = nI k := ⟨cl a, (par_k hI.2.1 h8 (or_f hb).1).2, par_nI hI.2.1 h8 (or_f hb).1⟩
    obtain ⟨c, -, hc, rfl⟩ := out_rng (a := 0) (b := 60) (by decide) (by decide) (or_f hb).2
    have h4 := c_X4_kindFor (K := K) hI hk hc
    have hP : kfF (kfA (m.1 1) n k c) 7 = kfF (kfA (m.1 50) n k c) 7 := kfF_congr 7 (fun i hi => ((eqv_upd hE).days c (hI.upd_p hk (by decide) (fun _ => ⟨i, by omega, rfl⟩) (fun q => absurd q (by decide)))).lo (by decide))
    have h5 := fun X => c_X5_kindFor (K := K) (n8 := n) (k := k) (c := c) (hI5t X) hk hc
    simp only [f13, ← hP] at h5
    exact oq_qq (F := fun X => sr m 13 X) (G := fun X Y => sr (sr m 13 X) 52 Y) h4 h5 rfl (fun X Y => rel_52 (rel_13 hR))
theorem op_holdBack {K : Cx} {m : TM} (hR : Rel m) (a : Int32) : OQ yX4_holdBack cX4_holdBack 5 4 87 yX5_holdBack cX5_holdBack 5 6 136 (some .int) K [.int a] m := by
  obtain ⟨n, hS⟩ := id hR.1
  have hI := hS.1
  have hE := hS.2
  have hI5 := hS.five
  have h8 := hI.1
  have e1 := Rel.eq1 hS
  have f50 : ∀ w, (fnd m w).1 50 = m.1 50 := fun w => fnd_ne (by decide)
  have f13 : ∀ X, (sr m 13 X).1 50 = m.1 50 := fun X => sr_ne (by decide)
  have f1 : ∀ X, (sr m 1 X).1 50 = m.1 50 := fun X => sr_ne (by decide)
  have hI5f : ∀ w, Iv n ((fnd m w).1 50) := fun w => by rw [f50]; exact hI5
  have hI5t : ∀ X, Iv n ((sr m 13 X).1 50) := fun X => by rw [f13]; exact hI5
  have hI5s : ∀ X, Iv n ((sr m 1 X).1 50) := fun X => by rw [f1]; exact hI5
  by_cases hb : outI a 0 20 = true
  · exact oq_dd (c_X4_holdBackB (K := K) hb) (c_X5_holdBackB (K := K) hb) rfl (rel_no hR (by decide))
  · obtain ⟨c, -, hc, rfl⟩ := out_rng (a := 0) (b := 20) (by decide) (by decide) (Bool.eq_false_iff.mpr hb)
    obtain ⟨D, hD, d1, d2⟩ := hb_same (N := c) (z := m.1 13) hI hE
    have h4 := c_X4_holdBack (K := K) (N := c) hI hc
    rw [d1] at h4
    have h5 := fun X => c_X5_holdBack (K := K) (N := c) (D := D) (hI5t X) hc hD (by rw [f13]; exact d2)
    exact oq_qq (F := fun X => sr m 13 X) (G := fun X Y => sr (sr m 13 X) 52 Y) h4 h5 rfl (fun X Y => rel_52 (rel_13 hR))
theorem op_fits {K : Cx} {m : TM} (hR : Rel m) (a : Int32) (b : Int32) : OQ yX4_fits cX4_fits 3 6 138 yX5_fits cX5_fits 4 5 118 (some .int) K [.int a, .int b] m := by
  obtain ⟨n, hS⟩ := id hR.1
  have hI := hS.1
  have hE := hS.2
  have hI5 := hS.five
  have h8 := hI.1
  have e1 := Rel.eq1 hS
  have f50 : ∀ w, (fnd m w).1 50 = m.1 50 := fun w => fnd_ne (by decide)
  have f13 : ∀ X, (sr m 13 X).1 50 = m.1 50 := fun X => sr_ne (by decide)
  have f1 : ∀ X, (sr m 1 X).1 50 = m.1 50 := fun X => sr_ne (by decide)
  have hI5f : ∀ w, Iv n ((fnd m w).1 50) := fun w => by rw [f50]; exact hI5
  have hI5t : ∀ X, Iv n ((sr m 13 X).1 50) := fun X => by rw [f13]; exact hI5
  have hI5s : ∀ X, Iv n ((sr m 1 X).1 50) := fun X => by rw [f1]; exact hI5
  by_cases ha : outI a 0 3 = true
  · exact oq_dd (c_X4_fitsA (K := K) ha) (c_X5_fitsA (K := K) ha) rfl (rel_no hR (by decide))
  obtain ⟨s, -, hs, rfl⟩ := out_rng (a := 0) (b := 3) (by decide) (by decide) (Bool.eq_false_iff.mpr ha)
  have hs4 : s < 4 := by omega
  obtain ⟨hH, hN⟩ := hR.2.2.2.2.1
  obtain ⟨hb1, hb2, z, hz40, hz⟩ := hH s hs4
  by_cases h0 : m.1 41 s = 0
  · exact oq_dd (c_X4_fitsB (K := K) hs4 h0) (c_X5_fitsB (K := K) (m := fnd m 5) hs4 (by rw [fnd_ne (by decide), ← hb1]; exact h0)) rfl (rel_no hR (by decide))
  have h05 : ¬ m.1 58 s = 0 := by rw [← hb1]; exact h0
  by_cases hp : outI b 0 (m.1 1 1 - 1) = true
  · exact oq_dd (c_X4_fitsP (K := K) hs4 h0 hp) (c_X5_fitsP (K := K) (m := fnd m 0) hs4 (by rw [fnd_ne (by decide)]; exact h05) (by rw [f50, e1]; exact hp)) rfl (rel_no hR (by decide))
  obtain ⟨k, hk, rfl⟩ : ∃ k, k < n ∧ b = nI k := ⟨cl b, (par_k hI.2.1 h8 (Bool.eq_false_iff.mpr hp)).2, par_nI hI.2.1 h8 (Bool.eq_false_iff.mpr hp)⟩
  have h4 := c_X4_fits (K := K) hI hk hs4 hz hz40 h0
  have hP : fsF (fun v => atF n k (fun q => m.1 43 (40 * s + q)) z 0 (upd (m.1 1) (12 + 7 * k + 1) (nI v))) 21 = fsF (fun v => atF n k (fun q => m.1 60 (40 * s + q)) z 0 (upd (m.1 50) (12 + 7 * k + 1) (nI v))) 21 := fsF_congr 21 (fun i hi => atF_congr hk z 0 (fun j _ hj => hN _ (by omega)) (eqv_upd hE) (hI.upd_p hk (by decide) (fun q => absurd q (by decide)) (fun q => absurd q (by decide))))
  have h5 := fun X => c_X5_fits (K := K) (hI5t X) hk hs4 (z := z) (by rw [sr_ne (by decide), ← hb2]; exact hz) hz40 (by rw [sr_ne (by decide)]; exact h05)
  have g60 : ∀ X, (sr m 13 X).1 60 = m.1 60 := fun X => sr_ne (by decide)
  simp only [f13, g60, ← hP] at h5
  exact oq_qq (F := fun X => sr m 13 X) (G := fun X Y => sr (sr m 13 X) 52 Y) h4 h5 rfl (fun X Y => rel_52 (rel_13 hR))
theorem op_kinds {K : Cx} {m : TM} (hR : Rel m) (a : Int32) (b : Int32) : OQ yX4_kinds cX4_kinds 3 6 138 yX5_kinds cX5_kinds 4 5 118 (some .int) K [.int a, .int b] m := by
  obtain ⟨n, hS⟩ := id hR.1
  have hI := hS.1
  have hE := hS.2
  have hI5 := hS.five
  have h8 := hI.1
  have e1 := Rel.eq1 hS
  have f50 : ∀ w, (fnd m w).1 50 = m.1 50 := fun w => fnd_ne (by decide)
  have f13 : ∀ X, (sr m 13 X).1 50 = m.1 50 := fun X => sr_ne (by decide)
  have f1 : ∀ X, (sr m 1 X).1 50 = m.1 50 := fun X => sr_ne (by decide)
  have hI5f : ∀ w, Iv n ((fnd m w).1 50) := fun w => by rw [f50]; exact hI5
  have hI5t : ∀ X, Iv n ((sr m 13 X).1 50) := fun X => by rw [f13]; exact hI5
  have hI5s : ∀ X, Iv n ((sr m 1 X).1 50) := fun X => by rw [f1]; exact hI5
  by_cases ha : outI a 0 3 = true
  · exact oq_dd (c_X4_kindsA (K := K) ha) (c_X5_kindsA (K := K) ha) rfl (rel_no hR (by decide))
  obtain ⟨s, -, hs, rfl⟩ := out_rng (a := 0) (b := 3) (by decide) (by decide) (Bool.eq_false_iff.mpr ha)
  have hs4 : s < 4 := by omega
  obtain ⟨hH, hN⟩ := hR.2.2.2.2.1
  obtain ⟨hb1, hb2, z, hz40, hz⟩ := hH s hs4
  by_cases h0 : m.1 41 s = 0
  · exact oq_dd (c_X4_kindsB (K := K) hs4 h0) (c_X5_kindsB (K := K) (m := fnd m 5) hs4 (by rw [fnd_ne (by decide), ← hb1]; exact h0)) rfl (rel_no hR (by decide))
  have h05 : ¬ m.1 58 s = 0 := by rw [← hb1]; exact h0
  by_cases hp : outI b 0 (m.1 1 1 - 1) = true
  · exact oq_dd (c_X4_kindsP (K := K) hs4 h0 hp) (c_X5_kindsP (K := K) (m := fnd m 0) hs4 (by rw [fnd_ne (by decide)]; exact h05) (by rw [f50, e1]; exact hp)) rfl (rel_no hR (by decide))
  obtain ⟨k, hk, rfl⟩ : ∃ k, k < n ∧ b = nI k := ⟨cl b, (par_k hI.2.1 h8 (Bool.eq_false_iff.mpr hp)).2, par_nI hI.2.1 h8 (Bool.eq_false_iff.mpr hp)⟩
  have h4 := c_X4_kinds (K := K) hI hk hs4 hz hz40 h0
  have hP : fsF (fun v => atF n k (fun q => m.1 43 (40 * s + q)) z 0 (upd (m.1 1) (12 + 7 * k + 0) (nI v))) 7 = fsF (fun v => atF n k (fun q => m.1 60 (40 * s + q)) z 0 (upd (m.1 50) (12 + 7 * k + 0) (nI v))) 7 := fsF_congr 7 (fun i hi => atF_congr hk z 0 (fun j _ hj => hN _ (by omega)) (eqv_upd hE) (hI.upd_p hk (by decide) (fun q => ⟨i, by omega, rfl⟩) (fun q => absurd q (by decide))))
  have h5 := fun X => c_X5_kinds (K := K) (hI5t X) hk hs4 (z := z) (by rw [sr_ne (by decide), ← hb2]; exact hz) hz40 (by rw [sr_ne (by decide)]; exact h05)
  have g60 : ∀ X, (sr m 13 X).1 60 = m.1 60 := fun X => sr_ne (by decide)
  simp only [f13, g60, ← hP] at h5
  exact oq_qq (F := fun X => sr m 13 X) (G := fun X Y => sr (sr m 13 X) 52 Y) h4 h5 rfl (fun X Y => rel_52 (rel_13 hR))
theorem op_odds {K : Cx} {m : TM} (hR : Rel m) (a : Int32) (b : Int32) (c : Int32) : OQ yX4_odds cX4_odds 11 2 44 yX5_odds cX5_odds 15 2 47 (some .long) K [.int a, .int b, .int c] m := by
  obtain ⟨n, hS⟩ := id hR.1
  have hI := hS.1
  have hE := hS.2
  have hI5 := hS.five
  have h8 := hI.1
  have e1 := Rel.eq1 hS
  have f50 : ∀ w, (fnd m w).1 50 = m.1 50 := fun w => fnd_ne (by decide)
  have f13 : ∀ X, (sr m 13 X).1 50 = m.1 50 := fun X => sr_ne (by decide)
  have f1 : ∀ X, (sr m 1 X).1 50 = m.1 50 := fun X => sr_ne (by decide)
  have hI5f : ∀ w, Iv n ((fnd m w).1 50) := fun w => by rw [f50]; exact hI5
  have hI5t : ∀ X, Iv n ((sr m 13 X).1 50) := fun X => by rw [f13]; exact hI5
  have hI5s : ∀ X, Iv n ((sr m 1 X).1 50) := fun X => by rw [f1]; exact hI5
  by_cases hb : (outI a 0 (m.1 1 1 - 1) || outI b 0 13 || outI c 0 1) = true
  · exact oq_dd (c_X4_oddsB (K := K) hb) (c_X5_oddsB (K := K) (m := fnd m 0) (by rw [f50, e1]; exact hb)) rfl (rel_no hR (by decide))
  · obtain ⟨k, hk, rfl⟩ : ∃ k, k < n ∧ a = nI k := ⟨cl a, (par_k hI.2.1 h8 (or_f3 hb).1).2, par_nI hI.2.1 h8 (or_f3 hb).1⟩
    obtain ⟨q, -, hq, rfl⟩ := out_rng (a := 0) (b := 13) (by decide) (by decide) (or_f3 hb).2.1
    have h4 := c_X4_odds (K := K) (w := c) hI hk hq (or_f3 hb).2.2
    have h5 := c_X5_odds (K := K) (w := c) hI5 hk hq (or_f3 hb).2.2
    rw [← hE.pp h8 hk (f := 0) (by decide), ← hE.pp h8 hk (f := 1) (by decide), ← hE.pp h8 hk (f := 2) (by decide), ← hE.pp h8 hk (f := 6) (by decide), ← hE.lo (i := 0) (by decide)] at h5
    exact oq_dd h4 h5 rfl hR
