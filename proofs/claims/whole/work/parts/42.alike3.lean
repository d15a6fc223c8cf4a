/-! the calls, alike: texts, spots, sheets, images, counts -/
theorem rel_T {m m' : TM} (h : Rel m) (hr : ∀ r, r ≠ 37 → r ≠ 38 → r ≠ 49 → r ≠ 54 → m'.1 r = m.1 r) (h49 : m'.1 49 3 = m.1 49 3) (hT : RelT m') : Rel m' := by
  have q := fun (r : Nat) (h1 : r ≠ 37 ∧ r ≠ 38 ∧ r ≠ 49 ∧ r ≠ 54) => hr r h1.1 h1.2.1 h1.2.2.1 h1.2.2.2
  obtain ⟨hS, hK, hF, _, hH, hC⟩ := h
  exact ⟨relS_of hS (q 1 (by decide)) (q 50 (by decide)), relK_of hK (q 0 (by decide)) h49 (q 25 (by decide)) (q 51 (by decide)), relF_of hF (q 40 (by decide)) (q 53 (by decide)), hT, relH_of hH (q 41 (by decide)) (q 42 (by decide)) (q 43 (by decide)) (q 58 (by decide)) (q 59 (by decide)) (q 60 (by decide)), relC_of hC (q 55 (by decide)) (q 56 (by decide)) (q 57 (by decide))⟩
theorem rel_K {m m' : TM} (h : Rel m) (hr : ∀ r, r ≠ 0 → r ≠ 25 → r ≠ 49 → r ≠ 51 → m'.1 r = m.1 r) (h49 : m'.1 49 6 = m.1 49 6) (hK : RelK m') : Rel m' := by
  have q := fun (r : Nat) (h1 : r ≠ 0 ∧ r ≠ 25 ∧ r ≠ 49 ∧ r ≠ 51) => hr r h1.1 h1.2.1 h1.2.2.1 h1.2.2.2
  obtain ⟨hS, _, hF, hT, hH, hC⟩ := h
  exact ⟨relS_of hS (q 1 (by decide)) (q 50 (by decide)), hK, relF_of hF (q 40 (by decide)) (q 53 (by decide)), relT_of hT (by rw [q 37 (by decide)]) h49 (q 38 (by decide)) (q 54 (by decide)), relH_of hH (q 41 (by decide)) (q 42 (by decide)) (q 43 (by decide)) (q 58 (by decide)) (q 59 (by decide)) (q 60 (by decide)), relC_of hC (q 55 (by decide)) (q 56 (by decide)) (q 57 (by decide))⟩
theorem rel_H {m m' : TM} (h : Rel m) (hr : ∀ r, r ≠ 41 → r ≠ 42 → r ≠ 43 → r ≠ 58 → r ≠ 59 → r ≠ 60 → r ≠ 61 → m'.1 r = m.1 r) (hH : RelH m') : Rel m' := by
  have q := fun (r : Nat) (h1 : r ≠ 41 ∧ r ≠ 42 ∧ r ≠ 43 ∧ r ≠ 58 ∧ r ≠ 59 ∧ r ≠ 60 ∧ r ≠ 61) => hr r h1.1 h1.2.1 h1.2.2.1 h1.2.2.2.1 h1.2.2.2.2.1 h1.2.2.2.2.2.1 h1.2.2.2.2.2.2
  obtain ⟨hS, hK, hF, hT, _, hC⟩ := h
  exact ⟨relS_of hS (q 1 (by decide)) (q 50 (by decide)), relK_of hK (q 0 (by decide)) (by rw [q 49 (by decide)]) (q 25 (by decide)) (q 51 (by decide)), relF_of hF (q 40 (by decide)) (q 53 (by decide)), relT_of hT (by rw [q 37 (by decide)]) (by rw [q 49 (by decide)]) (q 38 (by decide)) (q 54 (by decide)), hH, relC_of hC (q 55 (by decide)) (q 56 (by decide)) (q 57 (by decide))⟩
theorem and255 (y : Int32) : ∃ c, c < 256 ∧ y &&& 255 = nI c := by
  refine ⟨(y.toBitVec &&& 255#32).toNat, ?_, ?_⟩
  · rw [BitVec.toNat_and]
    exact Nat.lt_of_le_of_lt Nat.and_le_right (by decide)
  · apply Int32.toBitVec.inj
    show y.toBitVec &&& 255#32 = BitVec.ofNat 32 _
    simp
theorem byte_and (y : Int32) : (y &&& 255).toInt8 = y.toInt8 := by
  apply Int8.toBitVec.inj
  show (y.toBitVec &&& 255#32).signExtend 8 = y.toBitVec.signExtend 8
  rw [BitVec.signExtend_eq_setWidth_of_le _ (by decide), BitVec.signExtend_eq_setWidth_of_le _ (by decide), BitVec.setWidth_and]
  have e : (255#32).setWidth 8 = BitVec.allOnes 8 := by decide
  rw [e, BitVec.and_allOnes]
theorem nar8 : ∀ x : Int8, vp_nar .byte x.toInt32 = x.toInt32 := by
  intro x
  show x.toInt32.toInt8.toInt32 = x.toInt32
  rw [Int8.toInt8_toInt32]
theorem bb_feed (y : Int32) : BB (vp_nar .byte y.toInt8.toInt32) (y &&& 255) := by
  obtain ⟨c, hc, e⟩ := and255 y
  refine ⟨c, hc, e, ?_⟩
  rw [nar8, ← e, byte_and]
theorem apM_ne {m : TM} {L r : Nat} {b : Int32} (h1 : r ≠ 37) (h2 : r ≠ 38) : (apM m L b).1 r = m.1 r := by unfold apM; rw [st1_ne h1, st1_ne h2]
theorem apM_38 {m : TM} {L : Nat} {b : Int32} : (apM m L b).1 38 = upd (m.1 38) L (vp_nar .byte b) := by unfold apM; rw [st1_ne (by decide), st1_at]
theorem aqM_ne {m : TM} {L r : Nat} {b : Int32} (h1 : r ≠ 49) (h2 : r ≠ 54) : (aqM m L b).1 r = m.1 r := by unfold aqM; rw [st1_ne h1, st1_ne h2]
theorem aqM_54 {m : TM} {L : Nat} {b : Int32} : (aqM m L b).1 54 = upd (m.1 54) L b := by unfold aqM; rw [st1_ne (by decide), st1_at]
theorem aqM_3 {m : TM} {L : Nat} {b : Int32} : (aqM m L b).1 49 3 = m.1 49 3 := by unfold aqM; rw [st1_at, upd_ne (by decide), st1_ne (by decide)]
theorem fdC_ne {x : Int32} {r : Nat} (h1 : r ≠ 37) (h2 : r ≠ 38) : ∀ j L (m : TM), (fdC x j L m).1 r = m.1 r
  | 0, _, _ => rfl
  | j + 1, L, m => (fdC_ne h1 h2 j (L + 1) _).trans (apM_ne h1 h2)
theorem fdM_ne {x : Int32} {r : Nat} (h1 : r ≠ 49) (h2 : r ≠ 54) : ∀ j L (m : TM), (fdM x j L m).1 r = m.1 r
  | 0, _, _ => rfl
  | j + 1, L, m => (fdM_ne h1 h2 j (L + 1) _).trans (aqM_ne h1 h2)
theorem fdM_3 {x : Int32} : ∀ j L (m : TM), (fdM x j L m).1 49 3 = m.1 49 3
  | 0, _, _ => rfl
  | j + 1, L, m => (fdM_3 j (L + 1) _).trans aqM_3
theorem fdC_L {x : Int32} : ∀ j L (m : TM), m.1 37 1 = nI L → (fdC x j L m).1 37 1 = nI (L + j)
  | 0, _, _, h => h
  | j + 1, L, m, _ => by
    have := fdC_L (x := x) j (L + 1) (apM m L ((x >>> ((8 * nI j) &&& 31)).toInt8.toInt32)) apM_L
    rw [show L + (j + 1) = L + 1 + j by omega]
    exact this
theorem fdM_L {x : Int32} : ∀ j L (m : TM), m.1 49 6 = nI L → (fdM x j L m).1 49 6 = nI (L + j)
  | 0, _, _, h => h
  | j + 1, L, m, _ => by
    have := fdM_L (x := x) j (L + 1) (aqM m L ((x >>> ((8 * nI j) &&& 31)) &&& 255)) aqM_L
    rw [show L + (j + 1) = L + 1 + j by omega]
    exact this
theorem fd_bb {x : Int32} : ∀ j L (m m2 : TM), (∀ i, i < L → BB (m.1 38 i) (m2.1 54 i)) → ∀ i, i < L + j → BB ((fdC x j L m).1 38 i) ((fdM x j L m2).1 54 i)
  | 0, _, _, _, h => h
  | j + 1, L, m, m2, h => by
    intro i hi
    refine fd_bb j (L + 1) _ _ (fun i hi => ?_) i (by omega)
    rw [apM_38, aqM_54]
    by_cases e : i = L
    · rw [e, upd_self, upd_self]; exact bb_feed _
    · rw [upd_ne e, upd_ne e]; exact h i (by omega)
theorem op_feed {K : Cx} {m : TM} (hR : Rel m) (a : Int32) (b : Int32) : OQ yX4_feed cX4_feed 4 2 44 yX5_feed cX5_feed 4 1 22 (some .int) K [.int a, .int b] m := by
  obtain ⟨L, hL2, hL, hL5, hB⟩ := hR.2.2.2.1
  have h4 := c_X4_feed (K := K) (x := a) (n := b) hL hL2
  by_cases hb : outI b 1 4 = true
  · have h5 := c_X5_feed (K := K) (x := a) (n := b) (m := fnd m 0) (by rw [fnd_ne (by decide)]; exact hL5) hL2
    simp only [if_pos hb] at h4 h5
    exact oq_dd h4 h5 rfl (rel_no hR (by decide))
  obtain ⟨c, hc, rfl⟩ := fd_n (Bool.eq_false_iff.mpr hb)
  have ec : cl (nI c) = c := jnI_clamp (by omega)
  by_cases h2 : nI L + nI c ≤ 120
  · have hLc := fd_s hL2 hc h2
    have h5 := c_X5_feed (K := K) (x := a) (n := nI c) (m := fdC a c L m) (by rw [fdC_ne (by decide) (by decide)]; exact hL5) hL2
    simp only [if_neg hb, if_pos h2, ec] at h4 h5
    refine oq_dd h4 h5 rfl (rel_T hR (fun r h1 h2 h3 h4 => by rw [fdM_ne h3 h4, fdC_ne h1 h2]) (by rw [fdM_3, fdC_ne (by decide) (by decide)]) ⟨L + c, hLc, ?_, fdM_L _ _ _ (by rw [fdC_ne (by decide) (by decide)]; exact hL5), ?_⟩)
    · rw [fdM_ne (by decide) (by decide)]
      exact fdC_L _ _ _ hL
    · rw [fdM_ne (r := 38) (by decide) (by decide)]
      exact fd_bb c L m _ (by rw [fdC_ne (by decide) (by decide)]; exact hB)
  · have h5 := c_X5_feed (K := K) (x := a) (n := nI c) (m := fnd m 1) (by rw [fnd_ne (by decide)]; exact hL5) hL2
    simp only [if_neg hb, if_neg h2] at h4 h5
    exact oq_dd h4 h5 rfl (rel_no hR (by decide))
theorem op_wipe {K : Cx} {m : TM} (hR : Rel m) : OQ yX4_wipe cX4_wipe 2 0 0 yX5_wipe cX5_wipe 2 0 0 (some .int) K [] m := by
  obtain ⟨L, hL2, hL, hL5, hB⟩ := hR.2.2.2.1
  have h4 := c_X4_wipe (K := K) (m := m)
  have h5 := c_X5_wipe (K := K) (m := st1 m 37 1 0)
  rw [st1_ne (by decide)] at h5
  refine oq_dd h4 h5 (by rw [hL, hL5]) (rel_T hR (fun r h1 _ h3 _ => by rw [st1_ne h3, st1_ne h1]) (by rw [st1_at, upd_ne (by decide), st1_ne (by decide)]) ⟨0, by decide, ?_, ?_, fun i hi => absurd hi (Nat.not_lt_zero i)⟩)
  · rw [st1_ne (by decide), st1_at]; exact upd_self
  · rw [st1_at]; exact upd_self
theorem op_text {K : Cx} {m : TM} (hR : Rel m) : OQ yX4_text cX4_text 2 10 219 yX5_text cX5_text 3 6 133 (some .int) K [] m := by
  obtain ⟨n, hS⟩ := id hR.1
  have hI := hS.1
  have hE := hS.2
  have hI5 := hS.five
  have h8 := hI.1
  have e1 := Rel.eq1 hS
  have f50 : ∀ w, (fnd m w).1 50 = m.1 50 := fun w => fnd_ne (by decide)
  have f13 : ∀ X, (sr m 13 X).1 50 = m.1 50 := fun X => sr_ne (by decide)
  have f1 : ∀ X, (sr m 1 X).1 50 = m.1 50 := fun X => sr_ne (by decide)
  have hI5f : ∀ w, Iv n ((fnd m w).1 50) := fun w => by rw [f50]; exact hI5
  have hI5t : ∀ X, Iv n ((sr m 13 X).1 50) := fun X => by rw [f13]; exact hI5
  have hI5s : ∀ X, Iv n ((sr m 1 X).1 50) := fun X => by rw [f1]; exact hI5
  obtain ⟨L, hL2, hL, hL5, hB⟩ := hR.2.2.2.1
  have h4 := c_X4_text (K := K) hL hL2 hI
  obtain ⟨t1, t2, n2, hn2⟩ := tl_rel (L := L) (w := m.1 38) 121 1 (j := nxE L (m.1 38) 0) hS
  have han : anT (tlF L (m.1 38) 121 1 (m.1 1) (nxE L (m.1 38) 0)) = anT (tlF L (m.1 38) 121 1 (m.1 50) (nxE L (m.1 38) 0)) := by unfold anT; rw [t1, t2]
  refine ⟨_, _, ⟨_, rfl⟩, h4, fun x hx => ?_⟩
  obtain ⟨n1, g2, s2, c2, hg2, hc1, hc0, rfl⟩ := hx
  have q := fun (r : Nat) (h1 : r ≠ 37 ∧ r ≠ 13 ∧ r ≠ 1) => ((sr_ne (m := sr (sr m 37 g2) 13 s2) (f := c2) h1.2.2).trans (sr_ne (m := sr m 37 g2) (f := s2) h1.2.1)).trans (sr_ne (m := m) (f := g2) h1.1)
  have h5 := c_X5_text (K := K) (L := L) (n8 := n) (w := m.1 38) (m := (sr (sr (sr m 37 g2) 13 s2) 1 c2)) (by rw [q 49 (by decide)]; exact hL5) hL2 (by rw [q 50 (by decide)]; exact hI5) (by rw [q 54 (by decide)]; exact hB) (by rw [q 55 (by decide)]; exact hR.2.2.2.2.2.1) (by rw [q 56 (by decide)]; exact hR.2.2.2.2.2.2.1) (by rw [q 57 (by decide)]; exact hR.2.2.2.2.2.2.2)
  rw [q 50 (by decide), ← han, ← t1] at h5
  refine ⟨_, h5, fun x hx => ?_⟩
  obtain ⟨g1, v1, hg1, hg3, rfl⟩ := hx
  have qq := fun (v : Int64) (Z Y : Nat → Int32) (r : Nat) (h1 : r ≠ 37 ∧ r ≠ 13 ∧ r ≠ 1 ∧ r ≠ 49 ∧ r ≠ 52 ∧ r ≠ 50) => ((sr_ne (m := sr (st2 (sr (sr (sr (sr m 37 g2) 13 s2) 1 c2) 52 Z) v) 49 g1) (f := Y) h1.2.2.2.2.2).trans ((sr_ne (m := st2 (sr (sr (sr (sr m 37 g2) 13 s2) 1 c2) 52 Z) v) (f := g1) h1.2.2.2.1).trans (sr_ne (m := (sr (sr (sr m 37 g2) 13 s2) 1 c2)) (f := Z) h1.2.2.2.2.1))).trans (q r ⟨h1.1, h1.2.1, h1.2.2.1⟩)
  obtain ⟨_, hK, hF, _, hH, hC⟩ := hR
  refine ⟨?_, relK_of hK (qq _ _ _ 0 (by decide)) ?_ (qq _ _ _ 25 (by decide)) (qq _ _ _ 51 (by decide)), relF_of hF (qq _ _ _ 40 (by decide)) (qq _ _ _ 53 (by decide)), ⟨0, by decide, ?_, ?_, fun i hi => absurd hi (Nat.not_lt_zero i)⟩, relH_of hH (qq _ _ _ 41 (by decide)) (qq _ _ _ 42 (by decide)) (qq _ _ _ 43 (by decide)) (qq _ _ _ 58 (by decide)) (qq _ _ _ 59 (by decide)) (qq _ _ _ 60 (by decide)), relC_of hC (qq _ _ _ 55 (by decide)) (qq _ _ _ 56 (by decide)) (qq _ _ _ 57 (by decide))⟩
  · have hc : ∃ n', IE n' c2 (if (tlF L (m.1 38) 121 1 (m.1 1) (nxE L (m.1 38) 0)).1 = true then (tlF L (m.1 38) 121 1 (m.1 50) (nxE L (m.1 38) 0)).2.2 else m.1 50) := by
      cases e : (tlF L (m.1 38) 121 1 (m.1 1) (nxE L (m.1 38) 0)).1 with
      | true =>
        rw [if_pos rfl]
        have h1 := hc1 e
        obtain ⟨_, _, n3, hn3⟩ := tl_rel (L := L) (w := m.1 38) 121 1 (j := nxE L (m.1 38) 0) hS
        have en : n1 = n3 := by
          have z1 := h1.2.iv h1.1
          have z2 := hn3.1
          have z3 : nI n1 = nI n3 := z1.2.1.symm.trans z2.2.1
          have z4 := z1.1
          have z5 := z2.1
          exact (jnI_inj (by omega) (by omega)).mp z3
        subst en
        exact ⟨n1, h1.1, h1.2.tr hn3.2⟩
      | false =>
        rw [if_neg Bool.false_ne_true, hc0 e]
        exact ⟨n, hS⟩
    unfold RelS
    rw [sr_at, sr_ne (by decide), sr_ne (by decide)]
    rw [show (st2 (sr (sr (sr (sr m 37 g2) 13 s2) 1 c2) 52 (m.1 50)) v1).1 1 = c2 from (sr_ne (m := (sr (sr (sr m 37 g2) 13 s2) 1 c2)) (r := 52) (r' := 1) (f := m.1 50) (by decide)).trans sr_at]
    exact hc
  · rw [sr_ne (by decide), sr_at, hg3, q 49 (by decide)]
  · rw [sr_ne (by decide), sr_ne (by decide)]
    show (sr (sr (sr (sr m 37 g2) 13 s2) 1 c2) 52 (m.1 50)).1 37 1 = nI 0
    rw [sr_ne (by decide), sr_ne (by decide), sr_ne (by decide), sr_at]
    exact hg2
  · rw [sr_ne (by decide), sr_at]
    exact hg1
theorem op_hold {K : Cx} {m : TM} (hR : Rel m) (a : Int32) (b : Int32) : OQ yX4_hold cX4_hold 3 2 44 yX5_hold cX5_hold 3 2 43 (some .int) K [.int a, .int b] m := by
  obtain ⟨n, hS⟩ := id hR.1
  have hI := hS.1
  have hE := hS.2
  have hI5 := hS.five
  have h8 := hI.1
  have e1 := Rel.eq1 hS
  have f50 : ∀ w, (fnd m w).1 50 = m.1 50 := fun w => fnd_ne (by decide)
  have f13 : ∀ X, (sr m 13 X).1 50 = m.1 50 := fun X => sr_ne (by decide)
  have f1 : ∀ X, (sr m 1 X).1 50 = m.1 50 := fun X => sr_ne (by decide)
  have hI5f : ∀ w, Iv n ((fnd m w).1 50) := fun w => by rw [f50]; exact hI5
  have hI5t : ∀ X, Iv n ((sr m 13 X).1 50) := fun X => by rw [f13]; exact hI5
  have hI5s : ∀ X, Iv n ((sr m 1 X).1 50) := fun X => by rw [f1]; exact hI5
  have h4 := c_X4_hold (K := K) (x := a) (p := b) (m := m)
  by_cases hb : (outI a 0 9 || (!decide (b = -1) && outI b 0 (m.1 1 1 - 1))) = true
  · have h5 := c_X5_hold (K := K) (x := a) (p := b) (m := fnd m 0)
    simp only [f50, e1, if_pos hb] at h4 h5
    exact oq_dd h4 h5 rfl (rel_no hR (by decide))
  · have h5 := c_X5_hold (K := K) (x := a) (p := b) (m := sr m 1 (upd (m.1 1) (68 + cl a) b))
    simp only [f1, e1, if_neg hb] at h4 h5
    obtain ⟨c, -, hc, rfl⟩ := out_rng (a := 0) (b := 9) (by decide) (by decide) (or_f hb).1
    have ec : cl (nI c) = c := jnI_clamp (by omega)
    rw [ec] at h4 h5
    have hv : b = -1 ∨ ∃ k, k < n ∧ b = nI k := by
      by_cases q : b = -1
      · exact Or.inl q
      · have h2 := (or_f hb).2
        rw [decide_eq_false q] at h2
        exact Or.inr ⟨cl b, (par_k hI.2.1 h8 h2).2, par_nI hI.2.1 h8 h2⟩
    exact oq_dd h4 h5 rfl (rel_s hR ⟨n, hI.spot (by omega) hv, eqv_upd hE⟩)
theorem op_as {K : Cx} {m : TM} (hR : Rel m) (a : Int32) (b : Int32) : OQ yX4_as cX4_as 4 2 44 yX5_as cX5_as 5 2 42 (some .int) K [.int a, .int b] m := by
  obtain ⟨n, hS⟩ := id hR.1
  have hI := hS.1
  have hE := hS.2
  have hI5 := hS.five
  have h8 := hI.1
  have e1 := Rel.eq1 hS
  have f50 : ∀ w, (fnd m w).1 50 = m.1 50 := fun w => fnd_ne (by decide)
  have f13 : ∀ X, (sr m 13 X).1 50 = m.1 50 := fun X => sr_ne (by decide)
  have f1 : ∀ X, (sr m 1 X).1 50 = m.1 50 := fun X => sr_ne (by decide)
  have hI5f : ∀ w, Iv n ((fnd m w).1 50) := fun w => by rw [f50]; exact hI5
  have hI5t : ∀ X, Iv n ((sr m 13 X).1 50) := fun X => by rw [f13]; exact hI5
  have hI5s : ∀ X, Iv n ((sr m 1 X).1 50) := fun X => by rw [f1]; exact hI5
  have h4 := c_X4_as (K := K) (x := a) (v := b) hI
  by_cases hb : (outI a 0 9 || outI b 0 6) = true
  · have h5 := c_X5_as (K := K) (x := a) (v := b) (hI5f 0)
    simp only [if_pos hb] at h4 h5
    exact oq_dd h4 h5 rfl (rel_no hR (by decide))
  obtain ⟨c, -, hc, rfl⟩ := out_rng (a := 0) (b := 9) (by decide) (by decide) (or_f hb).1
  have ec : cl (nI c) = c := jnI_clamp (by omega)
  have es : m.1 50 (68 + c) = m.1 1 (68 + c) := (hE.sp (by omega)).symm
  by_cases h0 : outI (m.1 1 (68 + c)) 0 (m.1 1 1 - 1) = true
  · have h5 := c_X5_as (K := K) (x := nI c) (v := b) (hI5f 5)
    simp only [f50, ec, es, e1, if_neg hb, if_pos h0] at h4 h5
    exact oq_dd h4 h5 rfl (rel_no hR (by decide))
  have hk := (par_k hI.2.1 h8 (Bool.eq_false_iff.mpr h0)).2
  have ep : m.1 50 (12 + 7 * cl (m.1 1 (68 + c)) + 0) = m.1 1 (12 + 7 * cl (m.1 1 (68 + c)) + 0) := (hE.pp h8 hk (by decide)).symm
  by_cases h2 : anc 7 (m.1 1 (12 + 7 * cl (m.1 1 (68 + c)) + 0)) b = true
  · have h5 := c_X5_as (K := K) (x := nI c) (v := b) hI5
    simp only [ec, es, ep, e1, if_neg hb, if_neg h0, if_pos h2] at h4 h5
    exact oq_dd h4 h5 rfl hR
  · have h5 := c_X5_as (K := K) (x := nI c) (v := b) (hI5f 2)
    simp only [f50, ec, es, ep, e1, if_neg hb, if_neg h0, if_neg h2] at h4 h5
    exact oq_dd h4 h5 rfl (rel_no hR (by decide))
