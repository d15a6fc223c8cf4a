/-! the relation of class and reference, and what keeps it -/
def RelS (m : TM) : Prop := ∃ n, IE n (m.1 1) (m.1 50)
def RelK (m : TM) : Prop := m.1 0 3 = m.1 49 3 ∧ (¬ m.1 0 3 = 0 → ∃ n, IE n (m.1 25) (m.1 51))
def RelF (m : TM) : Prop := ∀ i, i < 7 → m.1 40 i = m.1 53 i
def RelT (m : TM) : Prop := ∃ L, L ≤ 120 ∧ m.1 37 1 = nI L ∧ m.1 49 6 = nI L ∧ ∀ i, i < L → BB (m.1 38 i) (m.1 54 i)
def RelH (m : TM) : Prop := (∀ s, s < 4 → m.1 41 s = m.1 58 s ∧ m.1 42 s = m.1 59 s ∧ ∃ z, z ≤ 40 ∧ m.1 42 s = nI z) ∧ ∀ i, i < 160 → m.1 43 i = m.1 60 i
def RelC (m : TM) : Prop := (∀ i, i < 70 → m.1 55 i = ltL.getD i 0) ∧ (∀ i, i < 40 → m.1 56 i = moL.getD i 0) ∧ (∀ i, i < 20 → m.1 57 i = otL.getD i 0)
def Rel (m : TM) : Prop := RelS m ∧ RelK m ∧ RelF m ∧ RelT m ∧ RelH m ∧ RelC m
theorem relS_of {m m' : TM} (h : RelS m) (h1 : m'.1 1 = m.1 1) (h2 : m'.1 50 = m.1 50) : RelS m' := by unfold RelS; rw [h1, h2]; exact h
theorem relK_of {m m' : TM} (h : RelK m) (h1 : m'.1 0 = m.1 0) (h2 : m'.1 49 3 = m.1 49 3) (h3 : m'.1 25 = m.1 25) (h4 : m'.1 51 = m.1 51) : RelK m' := by unfold RelK; rw [h1, h2, h3, h4]; exact h
theorem relT_of {m m' : TM} (h : RelT m) (h1 : m'.1 37 1 = m.1 37 1) (h2 : m'.1 49 6 = m.1 49 6) (h3 : m'.1 38 = m.1 38) (h4 : m'.1 54 = m.1 54) : RelT m' := by unfold RelT; rw [h1, h2, h3, h4]; exact h
theorem relF_of {m m' : TM} (h : RelF m) (h1 : m'.1 40 = m.1 40) (h2 : m'.1 53 = m.1 53) : RelF m' := by unfold RelF; rw [h1, h2]; exact h
theorem relH_of {m m' : TM} (h : RelH m) (h1 : m'.1 41 = m.1 41) (h2 : m'.1 42 = m.1 42) (h3 : m'.1 43 = m.1 43) (h4 : m'.1 58 = m.1 58) (h5 : m'.1 59 = m.1 59) (h6 : m'.1 60 = m.1 60) : RelH m' := by unfold RelH; rw [h1, h2, h3, h4, h5, h6]; exact h
theorem relC_of {m m' : TM} (h : RelC m) (h1 : m'.1 55 = m.1 55) (h2 : m'.1 56 = m.1 56) (h3 : m'.1 57 = m.1 57) : RelC m' := by unfold RelC; rw [h1, h2, h3]; exact h
theorem st1_ne {m : TM} {r r' i : Nat} {x : Int32} (h : r' ≠ r) : (st1 m r i x).1 r' = m.1 r' := by rw [st1_eq, sr_ne h]
theorem st1_at {m : TM} {r i : Nat} {x : Int32} : (st1 m r i x).1 r = upd (m.1 r) i x := by rw [st1_eq, sr_at]
theorem fnd_ne {m : TM} {r w : Nat} (h : r ≠ 40) : (fnd m w).1 r = m.1 r := st1_ne h
theorem fnm_ne {m : TM} {r w : Nat} (h : r ≠ 53) : (fnm m w).1 r = m.1 r := st1_ne h
/-- only rows that are laid aside, and the findings, have changed -/
theorem rel_rows {m m' : TM} (h : Rel m) (hr : ∀ r, r ≠ 40 → r ≠ 53 → r ≠ 13 → r ≠ 52 → r ≠ 61 → m'.1 r = m.1 r) (hf : ∀ i, i < 7 → m'.1 40 i = m'.1 53 i) : Rel m' := by
  have q := fun (r : Nat) (h1 : r ≠ 40 ∧ r ≠ 53 ∧ r ≠ 13 ∧ r ≠ 52 ∧ r ≠ 61) => hr r h1.1 h1.2.1 h1.2.2.1 h1.2.2.2.1 h1.2.2.2.2
  obtain ⟨hS, hK, hF, hT, hH, hC⟩ := h
  exact ⟨relS_of hS (q 1 (by decide)) (q 50 (by decide)), relK_of hK (q 0 (by decide)) (by rw [q 49 (by decide)]) (q 25 (by decide)) (q 51 (by decide)), hf, relT_of hT (by rw [q 37 (by decide)]) (by rw [q 49 (by decide)]) (q 38 (by decide)) (q 54 (by decide)), relH_of hH (q 41 (by decide)) (q 42 (by decide)) (q 43 (by decide)) (q 58 (by decide)) (q 59 (by decide)) (q 60 (by decide)), relC_of hC (q 55 (by decide)) (q 56 (by decide)) (q 57 (by decide))⟩
theorem upd_plus {f g : Nat → Int32} {w : Nat} (hw : w < 7) (h : ∀ i, i < 7 → f i = g i) : ∀ i, i < 7 → upd f w (f w + 1) i = upd g w (g w + 1) i := by
  intro i hi
  unfold upd
  by_cases e : i = w
  · rw [if_pos e, if_pos e, h w hw]
  · rw [if_neg e, if_neg e]; exact h i hi
/-- nothing but rows laid aside -/
theorem rel_13 {m : TM} {X : Nat → Int32} (h : Rel m) : Rel (sr m 13 X) := rel_rows h (fun r _ _ h1 _ _ => sr_ne h1) (by rw [sr_ne (by decide), sr_ne (by decide)]; exact h.2.2.1)
theorem rel_52 {m : TM} {X : Nat → Int32} (h : Rel m) : Rel (sr m 52 X) := rel_rows h (fun r _ _ _ h1 _ => sr_ne h1) (by rw [sr_ne (by decide), sr_ne (by decide)]; exact h.2.2.1)
theorem rel_as {m : TM} (h : Rel m) : Rel (asM m) := rel_52 h
/-- a finding of both -/
theorem rel_no {m : TM} {w : Nat} (h : Rel m) (hw : w < 7) : Rel (fnm (fnd m w) w) := by
  refine rel_rows h (fun r h1 h2 _ _ _ => by rw [fnm_ne h2, fnd_ne h1]) ?_
  rw [fnm_ne (by decide)]
  unfold fnm fnd
  rw [st1_at, st1_at, st1_ne (by decide)]
  exact upd_plus hw h.2.2.1
theorem rel_no2 {m : TM} {w : Nat} {X : Nat → Int32} (h : Rel m) (hw : w < 7) : Rel (fnm (sr (fnd m w) 52 X) w) := by
  refine rel_rows h (fun r h1 h2 _ h3 _ => by rw [fnm_ne h2, sr_ne h3, fnd_ne h1]) ?_
  rw [fnm_ne (by decide), sr_ne (by decide)]
  unfold fnm fnd
  rw [st1_at, sr_ne (by decide), st1_at, st1_ne (by decide)]
  exact upd_plus hw h.2.2.1
/-- both rows -/
theorem rel_s {m : TM} {f g : Nat → Int32} (h : Rel m) (hi : ∃ n, IE n f g) : Rel (sr (sr m 1 f) 50 g) := by
  obtain ⟨hS, hK, hF, hT, hH, hC⟩ := h
  have q := fun (r : Nat) (h1 : r ≠ 1 ∧ r ≠ 50) => (sr_ne (m := sr m 1 f) (f := g) h1.2).trans (sr_ne (m := m) (f := f) h1.1)
  refine ⟨?_, relK_of hK (q 0 (by decide)) (by rw [q 49 (by decide)]) (q 25 (by decide)) (q 51 (by decide)), relF_of hF (q 40 (by decide)) (q 53 (by decide)), relT_of hT (by rw [q 37 (by decide)]) (by rw [q 49 (by decide)]) (q 38 (by decide)) (q 54 (by decide)), relH_of hH (q 41 (by decide)) (q 42 (by decide)) (q 43 (by decide)) (q 58 (by decide)) (q 59 (by decide)) (q 60 (by decide)), relC_of hC (q 55 (by decide)) (q 56 (by decide)) (q 57 (by decide))⟩
  unfold RelS
  rw [sr_ne (by decide), sr_at, sr_at]
  exact hi
/-- an answer is of its type -/
def VK (rt : Option FieldType) (v : Value) : Prop := match rt with
  | some .int => ∃ x, v = .int x
  | some .long => ∃ x, v = .long x
  | _ => True
/-- a call of both, alike -/
def OQ (y4 : MethodName) (c4 : ByteArray) (L4 f4 l4 : Nat) (y5 : MethodName) (c5 : ByteArray) (L5 f5 l5 : Nat) (rt : Option FieldType) (K : Cx) (as : List Value) (m : TM) : Prop :=
  ∃ (v : Value) (Q1 : TM → Prop), VK rt v ∧ CQ y4 c4 L4 rt f4 l4 K (.ref 0 :: as) m (fun r1 m1 => r1 = some v ∧ Q1 m1) ∧ ∀ m1, Q1 m1 → ∃ Q2 : TM → Prop, CQ y5 c5 L5 rt f5 l5 K (.ref 49 :: as) m1 (fun r2 m2 => r2 = some v ∧ Q2 m2) ∧ ∀ m2, Q2 m2 → Rel m2
section OQS
variable {y4 : MethodName} {c4 : ByteArray} {L4 f4 l4 : Nat} {y5 : MethodName} {c5 : ByteArray} {L5 f5 l5 : Nat} {rt : Option FieldType} {K : Cx} {as : List Value} {m m1 m2 : TM} {v v2 : Value}
theorem oq_dd (h4 : CT y4 c4 L4 rt f4 l4 K (.ref 0 :: as) m (some v) m1) (h5 : CT y5 c5 L5 rt f5 l5 K (.ref 49 :: as) m1 (some v2) m2) (hv : v2 = v) (hr : Rel m2) (hk : VK rt v2 := by exact ⟨_, rfl⟩) : OQ y4 c4 L4 f4 l4 y5 c5 L5 f5 l5 rt K as m := by
  subst hv
  exact ⟨v2, fun x => x = m1, hk, h4, fun x hx => ⟨fun z => z = m2, by rw [hx]; exact h5, fun z hz => by rw [hz]; exact hr⟩⟩
theorem oq_qq {F : (Nat → Int32) → TM} {G : (Nat → Int32) → (Nat → Int32) → TM} (h4 : CQ y4 c4 L4 rt f4 l4 K (.ref 0 :: as) m (fun r1 m1 => ∃ X, r1 = some v ∧ m1 = F X)) (h5 : ∀ X, CQ y5 c5 L5 rt f5 l5 K (.ref 49 :: as) (F X) (fun r2 m2 => ∃ Y, r2 = some v2 ∧ m2 = G X Y)) (hv : v2 = v) (hr : ∀ X Y, Rel (G X Y)) (hk : VK rt v2 := by exact ⟨_, rfl⟩) : OQ y4 c4 L4 f4 l4 y5 c5 L5 f5 l5 rt K as m := by
  subst hv
  simp only [exists_and_left] at h4 h5
  exact ⟨v2, fun x => ∃ X, x = F X, hk, h4, fun x hx => by
    obtain ⟨X, rfl⟩ := hx
    exact ⟨fun z => ∃ Y, z = G X Y, h5 X, fun z hz => by obtain ⟨Y, rfl⟩ := hz; exact hr X Y⟩⟩
end OQS
theorem or_f {a b : Bool} (h : ¬ (a || b) = true) : a = false ∧ b = false := by cases a <;> cases b <;> simp_all
theorem Rel.eq1 {m : TM} {n : Nat} (h : IE n (m.1 1) (m.1 50)) : m.1 50 1 = m.1 1 1 := (h.2.lo (by decide)).symm
theorem IE.five {n : Nat} {s u : Nat → Int32} (h : IE n s u) : Iv n u := h.2.iv h.1
theorem Iv.late {n l : Nat} {s : Nat → Int32} (h : Iv n s) (hl : l ≤ 9999) : Iv n (upd s 4 (nI l)) := by
  obtain ⟨a1, a2, a3, a4, a5, a6⟩ := h
  refine ⟨a1, by rw [upd_ne (by decide)]; exact a2, by rw [upd_ne (by decide)]; exact a3, ⟨l, hl, upd_self⟩, fun k hk => ?_, fun j hj => ?_⟩
  · rw [upd_ne (by omega), upd_ne (by omega)]; exact a5 k hk
  · rw [upd_ne (by omega)]; exact a6 j hj
theorem Iv.spot {n j : Nat} {s : Nat → Int32} {v : Int32} (h : Iv n s) (hj : j < 10) (hv : v = -1 ∨ ∃ k, k < n ∧ v = nI k) : Iv n (upd s (68 + j) v) := by
  obtain ⟨a1, a2, a3, a4, a5, a6⟩ := h
  refine ⟨a1, by rw [upd_ne (by omega)]; exact a2, by rw [upd_ne (by omega)]; exact a3, by rw [upd_ne (by omega)]; exact a4, fun k hk => ?_, fun i hi => ?_⟩
  · rw [upd_ne (by omega), upd_ne (by omega)]; exact a5 k hk
  · by_cases e : i = j
    · rw [e, upd_self]; exact hv
    · rw [upd_ne (by omega)]; exact a6 i hi
