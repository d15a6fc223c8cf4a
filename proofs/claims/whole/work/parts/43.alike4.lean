/-! the calls, alike: sheets, images, counts -/
theorem shB_ne {m : TM} {s r : Nat} {b n : Int32} (h1 : r ≠ 41) (h2 : r ≠ 42) : (shB m s b n).1 r = m.1 r := by unfold shB; rw [st1_ne h2, st1_ne h1]
theorem shB_41 {m : TM} {s : Nat} {b n : Int32} : (shB m s b n).1 41 = upd (m.1 41) s b := by unfold shB; rw [st1_ne (by decide), st1_at]
theorem shB_42 {m : TM} {s : Nat} {b n : Int32} : (shB m s b n).1 42 = upd (m.1 42) s (if b = 0 then 0 else n) := by unfold shB; rw [st1_at, st1_ne (by decide)]
theorem shM_ne {m : TM} {s r : Nat} {b n : Int32} (h1 : r ≠ 58) (h2 : r ≠ 59) : (shM m s b n).1 r = m.1 r := by unfold shM; rw [st1_ne h2, st1_ne h1]
theorem shM_58 {m : TM} {s : Nat} {b n : Int32} : (shM m s b n).1 58 = upd (m.1 58) s b := by unfold shM; rw [st1_ne (by decide), st1_at]
theorem shM_59 {m : TM} {s : Nat} {b n : Int32} : (shM m s b n).1 59 = upd (m.1 59) s (if b = 0 then 0 else n) := by unfold shM; rw [st1_at, st1_ne (by decide)]
theorem upd_both {f g : Nat → Int32} {i : Nat} {v : Int32} (j : Nat) (h : f j = g j) : upd f i v j = upd g i v j := by
  unfold upd
  split
  · rfl
  · exact h
theorem zr_both {f g : Nat → Int32} {a n : Nat} (j : Nat) (h : f j = g j) : zr f a n j = zr g a n j := by
  unfold zr
  split
  · rfl
  · exact h
theorem op_sheet {K : Cx} {m : TM} (hR : Rel m) (a : Int32) (b : Int32) (d : Int32) : OQ yX4_sheet cX4_sheet 4 2 44 yX5_sheet cX5_sheet 5 2 42 (some .int) K [.int a, .int b, .int d] m := by
  obtain ⟨hH, hN⟩ := hR.2.2.2.2.1
  have h4 := c_X4_sheet (K := K) (x := a) (b := b) (n := d) (m := m)
  by_cases hb : (outI a 0 3 || !bok b) = true
  · have h5 := c_X5_sheet (K := K) (x := a) (b := b) (n := d) (m := fnd m 0)
    simp only [if_pos hb] at h4 h5
    exact oq_dd h4 h5 rfl (rel_no hR (by decide))
  by_cases h0 : d < 0
  · have h5 := c_X5_sheet (K := K) (x := a) (b := b) (n := d) (m := fnd m 6)
    simp only [if_neg hb, if_pos h0] at h4 h5
    exact oq_dd h4 h5 rfl (rel_no hR (by decide))
  by_cases h40 : 40 < d
  · have h5 := c_X5_sheet (K := K) (x := a) (b := b) (n := d) (m := fnd m 0)
    simp only [if_neg hb, if_neg h0, if_pos h40] at h4 h5
    exact oq_dd h4 h5 rfl (rel_no hR (by decide))
  obtain ⟨c, -, hc, rfl⟩ := out_rng (a := 0) (b := 3) (by decide) (by decide) (or_f hb).1
  have ec : cl (nI c) = c := jnI_clamp (by omega)
  obtain ⟨q, -, hq, rfl⟩ := out_rng (x := d) (a := 0) (b := 40) (by decide) (by decide) (by unfold outI; rw [decide_eq_false (show ¬ d < nI 0 from h0), decide_eq_false (show ¬ nI 40 < d from h40)]; rfl)
  simp only [if_neg hb, if_neg h0, if_neg h40, ec] at h4
  have h5 := c_X5_sheet (K := K) (x := nI c) (b := b) (n := nI q) (m := (sr (shB m c b (nI q)) 43 (zr ((shB m c b (nI q)).1 43) (40 * c) 40)))
  simp only [if_neg hb, if_neg h0, if_neg h40, ec] at h5
  refine oq_dd h4 h5 rfl (rel_H hR (fun r h1 h2 h3 h4 h5 h6 _ => by rw [sr_ne h6, shM_ne h4 h5, sr_ne h3, shB_ne h1 h2]) ⟨fun s hs => ?_, fun i hi => ?_⟩)
  · obtain ⟨a1, a2, z, hz, hz2⟩ := hH s hs
    rw [sr_ne (by decide), shM_ne (by decide) (by decide), sr_ne (by decide), shB_41, sr_ne (by decide), shM_58, sr_ne (by decide), shB_ne (by decide) (by decide), sr_ne (by decide), shM_ne (r := 42) (by decide) (by decide), sr_ne (r := 43) (r' := 42) (by decide), shB_42, sr_ne (by decide), shM_59, sr_ne (by decide), shB_ne (by decide) (by decide)]
    refine ⟨upd_both s a1, upd_both s a2, ?_⟩
    by_cases e : s = c
    · rw [e, upd_self]
      by_cases b0 : b = 0
      · rw [if_pos b0]; exact ⟨0, by decide, rfl⟩
      · rw [if_neg b0]; exact ⟨q, hq, rfl⟩
    · rw [upd_ne e]; exact ⟨z, hz, hz2⟩
  · rw [sr_ne (by decide), shM_ne (by decide) (by decide), sr_at, sr_at, shB_ne (by decide) (by decide), shM_ne (by decide) (by decide), sr_ne (by decide), shB_ne (by decide) (by decide)]
    exact zr_both i (hN i hi)
theorem op_write {K : Cx} {m : TM} (hR : Rel m) (a : Int32) (b : Int32) (c : Int32) : OQ yX4_write cX4_write 5 3 63 yX5_write cX5_write 5 3 63 (some .int) K [.int a, .int b, .int c] m := by
  obtain ⟨hH, hN⟩ := hR.2.2.2.2.1
  by_cases ha : outI a 0 3 = true
  · exact oq_dd (c_X4_writeA (K := K) ha) (c_X5_writeA (K := K) ha) rfl (rel_no hR (by decide))
  obtain ⟨s, -, hs, rfl⟩ := out_rng (a := 0) (b := 3) (by decide) (by decide) (Bool.eq_false_iff.mpr ha)
  have hs4 : s < 4 := by omega
  obtain ⟨hb1, hb2, z, hz40, hz⟩ := hH s hs4
  by_cases h0 : m.1 41 s = 0
  · exact oq_dd (c_X4_writeB (K := K) hs4 h0) (c_X5_writeB (K := K) (m := fnd m 5) hs4 (by rw [fnd_ne (by decide), ← hb1]; exact h0)) rfl (rel_no hR (by decide))
  have h05 : ¬ m.1 58 s = 0 := by rw [← hb1]; exact h0
  have h4 := c_X4_write (K := K) (y := b) (v := c) hs4 h0 hz hz40
  by_cases hb : outI b 0 (nI z - 1) = true
  · have h5 := c_X5_write (K := K) (m := fnd m 0) (s := s) (z := z) (y := b) (v := c) (by rw [fnd_ne (by decide)]; exact h05) hs4 (by rw [fnd_ne (by decide), ← hb2]; exact hz) hz40
    simp only [if_pos hb] at h4 h5
    exact oq_dd h4 h5 rfl (rel_no hR (by decide))
  simp only [if_neg hb] at h4
  have h5 := c_X5_write (K := K) (m := st1 m 43 (40 * s + cl b) (nrw (m.1 41 s) c)) (s := s) (z := z) (y := b) (v := c) (by rw [st1_ne (by decide)]; exact h05) hs4 (by rw [st1_ne (by decide), ← hb2]; exact hz) hz40
  have g58 : (st1 m 43 (40 * s + cl b) (nrw (m.1 41 s) c)).1 58 s = m.1 41 s := by rw [st1_ne (by decide)]; exact hb1.symm
  simp only [if_neg hb, g58] at h5
  refine oq_dd h4 h5 rfl (rel_H hR (fun r h1 h2 h3 h4 h5 h6 _ => by rw [st1_ne h6, st1_ne h3]) ⟨fun s hs => ?_, fun i hi => ?_⟩)
  · simp only [st1_ne (r := 60) (r' := 41) (by decide), st1_ne (r := 60) (r' := 42) (by decide), st1_ne (r := 60) (r' := 58) (by decide), st1_ne (r := 60) (r' := 59) (by decide), st1_ne (r := 43) (r' := 41) (by decide), st1_ne (r := 43) (r' := 42) (by decide), st1_ne (r := 43) (r' := 58) (by decide), st1_ne (r := 43) (r' := 59) (by decide)]
    exact hH s hs
  · rw [st1_ne (by decide), st1_at, st1_at, st1_ne (by decide)]
    exact upd_both i (hN i hi)
theorem cpy_ne {m : TM} {a b n r : Nat} (h : r ≠ 43) : (cpy m 43 a 43 b n).1 r = m.1 r := by
  funext v
  exact if_neg (fun q => h q.1)
theorem cpy_at {m : TM} {a b n : Nat} : (cpy m 43 a 43 b n).1 43 = cpR (m.1 43) (m.1 43) a b n := by
  funext v
  unfold cpy cpR
  dsimp only
  by_cases h : b ≤ v ∧ v < b + n
  · rw [if_pos ⟨rfl, h⟩, if_pos h]
  · rw [if_neg (fun q => h q.2), if_neg h]
theorem op_copy {K : Cx} {m : TM} (hR : Rel m) (a : Int32) (b : Int32) (c : Int32) (d : Int32) (e : Int32) : OQ yX4_copy cX4_copy 8 2 44 yX5_copy cX5_copy 7 2 42 (some .int) K [.int a, .int b, .int c, .int d, .int e] m := by
  obtain ⟨hH, hN⟩ := hR.2.2.2.2.1
  have hZ : ∀ s, s < 4 → ∃ z, z ≤ 40 ∧ m.1 42 s = nI z := fun s hs => (hH s hs).2.2
  have hZ5 : ∀ m1 : TM, m1.1 59 = m.1 59 → ∀ s, s < 4 → ∃ z, z ≤ 40 ∧ m1.1 59 s = nI z := fun m1 h s hs => by
    obtain ⟨_, a2, z, hz, hz2⟩ := hH s hs
    exact ⟨z, hz, by rw [h, ← a2]; exact hz2⟩
  have h4 := c_X4_copy (K := K) (x := a) (f := b) (t := c) (g := d) (n := e) hZ
  by_cases hb : (outI a 0 3 || outI c 0 3) = true
  · have h5 := c_X5_copy (K := K) (x := a) (f := b) (t := c) (g := d) (n := e) (m := fnd m 0) (hZ5 _ (fnd_ne (by decide)))
    simp only [if_pos hb] at h4 h5
    exact oq_dd h4 h5 rfl (rel_no hR (by decide))
  obtain ⟨s, -, hs, rfl⟩ := out_rng (a := 0) (b := 3) (by decide) (by decide) (or_f hb).1
  obtain ⟨t, -, ht, rfl⟩ := out_rng (a := 0) (b := 3) (by decide) (by decide) (or_f hb).2
  have es : cl (nI s) = s := jnI_clamp (by omega)
  have et : cl (nI t) = t := jnI_clamp (by omega)
  obtain ⟨s1, s2, zs, hzs, hzs2⟩ := hH s (by omega)
  obtain ⟨t1, t2, zt, hzt, hzt2⟩ := hH t (by omega)
  have g58 : ∀ w, (fnd m w).1 58 = m.1 58 := fun w => fnd_ne (by decide)
  have g59 : ∀ w, (fnd m w).1 59 = m.1 59 := fun w => fnd_ne (by decide)
  by_cases h1 : (decide (m.1 41 s = 0) || decide (m.1 41 t = 0)) = true
  · have h5 := c_X5_copy (K := K) (x := nI s) (f := b) (t := nI t) (g := d) (n := e) (m := fnd m 5) (hZ5 _ (fnd_ne (by decide)))
    simp only [g58, g59, es, et, ← s1, ← t1, ← s2, ← t2, if_neg hb, if_pos h1] at h4 h5
    exact oq_dd h4 h5 rfl (rel_no hR (by decide))
  by_cases h2 : ¬ m.1 41 s = m.1 41 t
  · have h5 := c_X5_copy (K := K) (x := nI s) (f := b) (t := nI t) (g := d) (n := e) (m := fnd m 2) (hZ5 _ (fnd_ne (by decide)))
    simp only [g58, g59, es, et, ← s1, ← t1, ← s2, ← t2, if_neg hb, if_neg h1, if_pos h2] at h4 h5
    exact oq_dd h4 h5 rfl (rel_no hR (by decide))
  by_cases h3 : (hnF (m.1 42 s) b e || hnF (m.1 42 t) d e) = true
  · have h5 := c_X5_copy (K := K) (x := nI s) (f := b) (t := nI t) (g := d) (n := e) (m := fnd m 0) (hZ5 _ (fnd_ne (by decide)))
    simp only [g58, g59, es, et, ← s1, ← t1, ← s2, ← t2, if_neg hb, if_neg h1, if_neg h2, if_pos h3] at h4 h5
    exact oq_dd h4 h5 rfl (rel_no hR (by decide))
  simp only [es, et, if_neg hb, if_neg h1, if_neg h2, if_neg h3] at h4
  have h5 := c_X5_copy (K := K) (x := nI s) (f := b) (t := nI t) (g := d) (n := e) (m := cpy m 43 (40 * s + cl b) 43 (40 * t + cl d) (cl e)) (hZ5 _ (cpy_ne (by decide)))
  have k58 : (cpy m 43 (40 * s + cl b) 43 (40 * t + cl d) (cl e)).1 58 = m.1 58 := cpy_ne (by decide)
  have k59 : (cpy m 43 (40 * s + cl b) 43 (40 * t + cl d) (cl e)).1 59 = m.1 59 := cpy_ne (by decide)
  have k60 : (cpy m 43 (40 * s + cl b) 43 (40 * t + cl d) (cl e)).1 60 = m.1 60 := cpy_ne (by decide)
  simp only [k58, k59, k60, es, et, ← s1, ← t1, ← s2, ← t2, if_neg hb, if_neg h1, if_neg h2, if_neg h3] at h5
  have hns := hn_f hzs2 hzs (or_f h3).1
  refine oq_dd h4 h5 rfl (rel_H hR (fun r h1 h2 h3 h4 h5 h6 h7 => by rw [sr_ne h6, sr_ne h7, cpy_ne h3]) ⟨fun q hq => ?_, fun i hi => ?_⟩)
  · simp only [sr_ne (r := 60) (r' := 41) (by decide), sr_ne (r := 60) (r' := 42) (by decide), sr_ne (r := 60) (r' := 58) (by decide), sr_ne (r := 60) (r' := 59) (by decide), sr_ne (r := 61) (r' := 41) (by decide), sr_ne (r := 61) (r' := 42) (by decide), sr_ne (r := 61) (r' := 58) (by decide), sr_ne (r := 61) (r' := 59) (by decide), cpy_ne (r := 41) (by decide), cpy_ne (r := 42) (by decide), k58, k59]
    exact hH q hq
  · rw [sr_ne (by decide), sr_ne (by decide), cpy_at, sr_at]
    unfold cpR
    by_cases q : 40 * t + cl d ≤ i ∧ i < 40 * t + cl d + cl e
    · rw [if_pos q, if_pos q]
      exact hN _ (by omega)
    · rw [if_neg q, if_neg q]
      exact hN i hi
theorem jd_congr {s u w w2 : Nat → Int32} {n i : Nat} (h : i < n → s (12 + 7 * i + 1) = u (12 + 7 * i + 1)) (hw : w i = w2 i) : jdP s n w i = jdP u n w2 i := by
  unfold jdP
  by_cases q : i < n
  · have e : (s (12 + 7 * i + 1) = w i) ↔ (u (12 + 7 * i + 1) = w2 i) := by rw [h q, hw]
    rw [decide_eq_decide.mpr e]
  · rw [decide_eq_false q]; rfl
theorem ldR_rel {w w2 : Nat → Int32} {z n : Nat} (hw : ∀ q, q < z → w q = w2 q) : ∀ f j {s u : Nat → Int32}, IE n s u → (ldR w z f j s).1 = (ldR w2 z f j u).1 ∧ IE n (ldR w z f j s).2 (ldR w2 z f j u).2
  | 0, _, _, _, h => ⟨rfl, h⟩
  | f + 1, j, s, u, h => by
    unfold ldR
    by_cases q : j < z ∧ j < 6 ∧ outI (w j) 0 20 = false
    · have q2 : j < z ∧ j < 6 ∧ outI (w2 j) 0 20 = false := by rw [← hw j q.1]; exact q
      rw [if_pos q, if_pos q2, hw j q.1]
      exact ldR_rel hw f (j + 1) (h.lo (by omega) (by omega) (by omega) (by omega))
    · have q2 : ¬ (j < z ∧ j < 6 ∧ outI (w2 j) 0 20 = false) := fun h2 => q (by rw [hw j h2.1]; exact h2)
      rw [if_neg q, if_neg q2]
      exact ⟨rfl, h⟩
theorem op_load {K : Cx} {m : TM} (hR : Rel m) (a : Int32) : OQ yX4_load cX4_load 5 3 63 yX5_load cX5_load 4 3 63 (some .int) K [.int a] m := by
  obtain ⟨n, hS⟩ := id hR.1
  have hI := hS.1
  have hE := hS.2
  have hI5 := hS.five
  have h8 := hI.1
  have e1 := Rel.eq1 hS
  have f50 : ∀ w, (fnd m w).1 50 = m.1 50 := fun w => fnd_ne (by decide)
  have f13 : ∀ X, (sr m 13 X).1 50 = m.1 50 := fun X => sr_ne (by decide)
  have f1 : ∀ X, (sr m 1 X).1 50 = m.1 50 := fun X => sr_ne (by decide)
  have hI5f : ∀ w, Iv n ((fnd m w).1 50) := fun w => by rw [f50]; exact hI5
  have hI5t : ∀ X, Iv n ((sr m 13 X).1 50) := fun X => by rw [f13]; exact hI5
  have hI5s : ∀ X, Iv n ((sr m 1 X).1 50) := fun X => by rw [f1]; exact hI5
  obtain ⟨hH, hN⟩ := hR.2.2.2.2.1
  by_cases ha : outI a 0 3 = true
  · exact oq_dd (c_X4_loadA (K := K) ha) (c_X5_loadA (K := K) ha) rfl (rel_no hR (by decide))
  obtain ⟨s, -, hs, rfl⟩ := out_rng (a := 0) (b := 3) (by decide) (by decide) (Bool.eq_false_iff.mpr ha)
  have hs4 : s < 4 := by omega
  obtain ⟨hb1, hb2, z, hz40, hz⟩ := hH s hs4
  by_cases h0 : m.1 41 s = 0
  · exact oq_dd (c_X4_loadB (K := K) hs4 h0) (c_X5_loadB (K := K) (m := fnd m 5) hs4 (by rw [fnd_ne (by decide), ← hb1]; exact h0)) rfl (rel_no hR (by decide))
  have h05 : ¬ m.1 58 s = 0 := by rw [← hb1]; exact h0
  have hl := ldR_rel (w := fun q => m.1 43 (40 * s + q)) (w2 := fun q => m.1 60 (40 * s + q)) (z := z) (fun q hq => hN _ (by omega)) 7 0 hS
  have h4 := c_X4_load (K := K) h0 hs4 hz hz40
  have h5 := c_X5_load (K := K) (m := sr m 1 (ldR (fun q => m.1 43 (40 * s + q)) z 7 0 (m.1 1)).2) (s := s) (z := z) (by rw [sr_ne (by decide)]; exact h05) hs4 (by rw [sr_ne (by decide), ← hb2]; exact hz) hz40
  have g60 : ∀ X, (sr m 1 X).1 60 = m.1 60 := fun X => sr_ne (by decide)
  simp only [f1, g60] at h5
  exact oq_dd h4 h5 (by rw [hl.1]) (rel_s hR ⟨n, hl.2⟩)
theorem op_judge {K : Cx} {m : TM} (hR : Rel m) (a : Int32) : OQ yX4_judge cX4_judge 5 3 63 yX5_judge cX5_judge 4 3 63 (some .int) K [.int a] m := by
  obtain ⟨n, hS⟩ := id hR.1
  have hI := hS.1
  have hE := hS.2
  have hI5 := hS.five
  have h8 := hI.1
  have e1 := Rel.eq1 hS
  have f50 : ∀ w, (fnd m w).1 50 = m.1 50 := fun w => fnd_ne (by decide)
  have f13 : ∀ X, (sr m 13 X).1 50 = m.1 50 := fun X => sr_ne (by decide)
  have f1 : ∀ X, (sr m 1 X).1 50 = m.1 50 := fun X => sr_ne (by decide)
  have hI5f : ∀ w, Iv n ((fnd m w).1 50) := fun w => by rw [f50]; exact hI5
  have hI5t : ∀ X, Iv n ((sr m 13 X).1 50) := fun X => by rw [f13]; exact hI5
  have hI5s : ∀ X, Iv n ((sr m 1 X).1 50) := fun X => by rw [f1]; exact hI5
  obtain ⟨hH, hN⟩ := hR.2.2.2.2.1
  by_cases ha : outI a 0 3 = true
  · exact oq_dd (c_X4_judgeA (K := K) ha) (c_X5_judgeA (K := K) ha) rfl (rel_no hR (by decide))
  obtain ⟨s, -, hs, rfl⟩ := out_rng (a := 0) (b := 3) (by decide) (by decide) (Bool.eq_false_iff.mpr ha)
  have hs4 : s < 4 := by omega
  obtain ⟨hb1, hb2, z, hz40, hz⟩ := hH s hs4
  by_cases h0 : m.1 41 s = 0
  · exact oq_dd (c_X4_judgeB (K := K) hs4 h0) (c_X5_judgeB (K := K) (m := fnd m 5) hs4 (by rw [fnd_ne (by decide), ← hb1]; exact h0)) rfl (rel_no hR (by decide))
  have h05 : ¬ m.1 58 s = 0 := by rw [← hb1]; exact h0
  have h4 := c_X4_judge (K := K) h0 hs4 hz hz40 hI
  have h5 := c_X5_judge (K := K) (s := s) (z := z) h05 hs4 (by rw [← hb2]; exact hz) hz40 hI5
  have hP : srch (fun q => jdP (m.1 50) n (fun q => m.1 60 (40 * s + q)) q) z 0 = srch (fun q => jdP (m.1 1) n (fun q => m.1 43 (40 * s + q)) q) z 0 := srch_congr2 z 0 (fun i hi => (jd_congr (i := i) (w := fun q => m.1 43 (40 * s + q)) (w2 := fun q => m.1 60 (40 * s + q)) (fun q => hE.pp h8 q (f := 1) (by decide)) (hN (40 * s + i) (by omega))).symm)
  rw [hP] at h5
  exact oq_dd h4 h5 rfl hR
theorem op_image {K : Cx} {m : TM} (hR : Rel m) : OQ yX4_image cX4_image 1 2 52 yX5_image cX5_image 2 0 0 (some .int) K [] m := by
  obtain ⟨n, hS⟩ := id hR.1
  have hI := hS.1
  have hE := hS.2
  have hI5 := hS.five
  have h8 := hI.1
  have e1 := Rel.eq1 hS
  have f50 : ∀ w, (fnd m w).1 50 = m.1 50 := fun w => fnd_ne (by decide)
  have f13 : ∀ X, (sr m 13 X).1 50 = m.1 50 := fun X => sr_ne (by decide)
  have f1 : ∀ X, (sr m 1 X).1 50 = m.1 50 := fun X => sr_ne (by decide)
  have hI5f : ∀ w, Iv n ((fnd m w).1 50) := fun w => by rw [f50]; exact hI5
  have hI5t : ∀ X, Iv n ((sr m 13 X).1 50) := fun X => by rw [f13]; exact hI5
  have hI5s : ∀ X, Iv n ((sr m 1 X).1 50) := fun X => by rw [f1]; exact hI5
  have h4 := c_X4_image (K := K) hI
  have h5 := c_X5_image (K := K) (m := (st1 (sr m 25 (bcF (m.1 25) (m.1 1) n)) 0 3 1))
  have k50 : ((st1 (sr m 25 (bcF (m.1 25) (m.1 1) n)) 0 3 1)).1 50 = m.1 50 := by rw [st1_ne (by decide), sr_ne (by decide)]
  rw [k50] at h5
  refine oq_dd h4 h5 rfl (rel_K hR (fun r h1 h2 h3 h4 => by rw [st1_ne h3, sr_ne h4, st1_ne h1, sr_ne h2]) (by rw [st1_at, upd_ne (by decide), sr_ne (by decide), st1_ne (by decide), sr_ne (by decide)]) ⟨?_, fun _ => ⟨n, ?_⟩⟩)
  · rw [st1_ne (by decide), sr_ne (by decide), st1_at, upd_self, st1_at, upd_self]
  · rw [st1_ne (by decide), sr_ne (by decide), st1_ne (by decide), sr_at, st1_ne (by decide), sr_at]
    exact ⟨iv_bc hI, (bcF_eqv h8).tr hE⟩
theorem op_undo {K : Cx} {m : TM} (hR : Rel m) : OQ yX4_undo cX4_undo 1 2 52 yX5_undo cX5_undo 2 1 21 (some .int) K [] m := by
  obtain ⟨hk1, hk2⟩ := id hR.2.1
  by_cases h0 : m.1 0 3 = 0
  · exact oq_dd (c_X4_undoN (K := K) h0) (c_X5_undoN (K := K) (m := fnd m 3) (by rw [fnd_ne (by decide), ← hk1]; exact h0)) rfl (rel_no hR (by decide))
  obtain ⟨n, hn⟩ := hk2 h0
  have h4 := c_X4_undo (K := K) h0 hn.1
  have h5 := c_X5_undo (K := K) (m := sr m 1 (bcF (m.1 1) (m.1 25) n)) (by rw [sr_ne (by decide), ← hk1]; exact h0)
  have k51 : ∀ X, (sr m 1 X).1 51 = m.1 51 := fun X => sr_ne (by decide)
  simp only [k51] at h5
  exact oq_dd h4 h5 (congrArg Value.int (hn.2.lo (by decide)).symm) (rel_s hR ⟨n, iv_bc hn.1, (bcF_eqv hn.1.1).tr hn.2⟩)
theorem op_tear {K : Cx} {m : TM} (hR : Rel m) : OQ yX4_tear cX4_tear 2 0 0 yX5_tear cX5_tear 2 0 0 (some .int) K [] m := by
  obtain ⟨hk1, hk2⟩ := id hR.2.1
  have h4 := c_X4_tear (K := K) (m := m)
  have h5 := c_X5_tear (K := K) (m := st1 m 0 3 0)
  rw [st1_ne (by decide)] at h5
  refine oq_dd h4 h5 (by rw [hk1]) (rel_K hR (fun r h1 h2 h3 h4 => by rw [st1_ne h3, st1_ne h1]) (by rw [st1_at, upd_ne (by decide), st1_ne (by decide)]) ⟨?_, fun q => absurd ?_ q⟩)
  · rw [st1_ne (by decide), st1_at, upd_self, st1_at, upd_self]
  · rw [st1_ne (by decide), st1_at, upd_self]
theorem op_count {K : Cx} {m : TM} (hR : Rel m) (a : Int32) : OQ yX4_count cX4_count 2 2 44 yX5_count cX5_count 4 2 45 (some .int) K [.int a] m := by
  obtain ⟨n, hS⟩ := id hR.1
  have hI := hS.1
  have hE := hS.2
  have hI5 := hS.five
  have h8 := hI.1
  have e1 := Rel.eq1 hS
  have f50 : ∀ w, (fnd m w).1 50 = m.1 50 := fun w => fnd_ne (by decide)
  have f13 : ∀ X, (sr m 13 X).1 50 = m.1 50 := fun X => sr_ne (by decide)
  have f1 : ∀ X, (sr m 1 X).1 50 = m.1 50 := fun X => sr_ne (by decide)
  have hI5f : ∀ w, Iv n ((fnd m w).1 50) := fun w => by rw [f50]; exact hI5
  have hI5t : ∀ X, Iv n ((sr m 13 X).1 50) := fun X => by rw [f13]; exact hI5
  have hI5s : ∀ X, Iv n ((sr m 1 X).1 50) := fun X => by rw [f1]; exact hI5
  obtain ⟨L, hL2, hL, hL5, hB⟩ := hR.2.2.2.1
  have h4 := c_X4_count (K := K) (x := a) hI
  have t0 : thF (m.1 50) 1 n = thF (m.1 1) 1 n := (thF_congr hE h8 n (Nat.le_refl n)).symm
  have t1 : spM (m.1 50) 10 = spF (m.1 1) 10 := (spM_spF hI5 10 (by decide)).trans (spF_congr hE 10 (by decide)).symm
  by_cases hb : outI a 0 7 = true
  · have h5 := c_X5_count (K := K) (x := a) (hI5f 0)
    simp only [f50, t0, t1, fnd_ne (r := 49) (w := 0) (m := m) (by decide), hL5, ← hE.lo (i := 0) (by decide), ← hE.lo (i := 1) (by decide), ← hE.lo (i := 2) (by decide), ← hE.lo (i := 3) (by decide), ← hE.lo (i := 4) (by decide)] at h5
    simp only [hL] at h4
    rw [if_pos hb] at h4 h5
    exact oq_dd h4 h5 rfl (rel_no hR (by decide))
  · have h5 := c_X5_count (K := K) (x := a) hI5
    simp only [t0, t1, hL5, ← hE.lo (i := 0) (by decide), ← hE.lo (i := 1) (by decide), ← hE.lo (i := 2) (by decide), ← hE.lo (i := 3) (by decide), ← hE.lo (i := 4) (by decide)] at h5
    simp only [hL] at h4
    rw [if_neg hb] at h4 h5
    exact oq_dd h4 h5 rfl hR
theorem op_status {K : Cx} {m : TM} (hR : Rel m) (a : Int32) : OQ yX4_status cX4_status 7 2 44 yX5_status cX5_status 4 1 22 (some .int) K [.int a] m := by
  have hF := hR.2.2.1
  have h4 := c_X4_status (K := K) (x := a) (m := m)
  by_cases hb : outI a (-1) 6 = true
  · have h5 := c_X5_status (K := K) (x := a) (m := fnd m 0)
    simp only [if_pos hb] at h4 h5
    exact oq_dd h4 h5 rfl (rel_no hR (by decide))
  have h5 := c_X5_status (K := K) (x := a) (m := m)
  simp only [if_neg hb] at h4 h5
  have hbf := Bool.eq_false_iff.mpr hb
  by_cases h0 : a < 0
  · have e := out_m2 hbf h0
    subst e
    rw [if_pos h0] at h4
    rw [suM_all] at h5
    exact oq_dd h4 h5 (congrArg Value.int (suF_congr 7 (by decide) hF).symm) hR
  · obtain ⟨c, -, hc, rfl⟩ := out_rng (a := 0) (b := 6) (by decide) (by decide) (out_m1 hbf h0)
    have ec : cl (nI c) = c := jnI_clamp (by omega)
    rw [if_neg h0, ec] at h4
    rw [suM_out (by omega) 7 (by decide), if_pos (by omega)] at h5
    exact oq_dd h4 h5 (congrArg Value.int (hF c (by omega)).symm) hR
