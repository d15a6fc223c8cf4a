/-! what holds at the law's start: the strings, the classes -/
def GV : List Cond := flatC (Jvm.Cond.and given_1 narrow_1)
def tmS (i : Nat) : Term := .string "SeaParcels$Tape" (sIdx.getD i 0)
set_option maxRecDepth 100000 in
theorem gv_ex : ∀ i, i < 13 → Cond.exactly (tmS i) "java/lang/String" ∈ GV := by decide +kernel
set_option maxRecDepth 100000 in
theorem gv_co : ∀ i, i < 13 → Cond.eq (.field (tmS i) "java/lang/String" "coder" "B") (.int 0) ∈ GV := by decide +kernel
set_option maxRecDepth 100000 in
theorem gv_ar : ∀ i, i < 13 → Cond.arrayOf (.field (tmS i) "java/lang/String" "value" "[B") .byte ∈ GV := by decide +kernel
set_option maxRecDepth 100000 in
theorem gv_le : ∀ i, i < 13 → Cond.eq (.length (.field (tmS i) "java/lang/String" "value" "[B")) (.int (Int32.ofNat (sLen.getD i 0))) ∈ GV := by decide +kernel
set_option maxRecDepth 100000 in
theorem gv_el : ∀ i, i < 13 → ∀ j, j < sLen.getD i 0 → Cond.eq (.elem (.field (tmS i) "java/lang/String" "value" "[B") (.int (Int32.ofNat j))) (.int ((sByt.getD i []).getD j 0)) ∈ GV := by decide +kernel
/-- the pairs of strings that are said to differ, by their entries -/
def neP (w : Cond) : Option (Nat × Nat) := match w with
  | .not (.eq (.string c a) (.string d b)) => if c = "SeaParcels$Tape" ∧ d = "SeaParcels$Tape" then some (a, b) else none
  | _ => none
theorem neP_is {w : Cond} {a b : Nat} (h : neP w = some (a, b)) : w = .not (.eq (.string "SeaParcels$Tape" a) (.string "SeaParcels$Tape" b)) := by
  unfold neP at h
  split at h
  · split at h
    · rename_i q
      obtain ⟨q1, q2⟩ := q
      cases h
      rw [q1, q2]
    · cases h
  · cases h
def neL : List (Nat × Nat) := [(38, 47), (38, 103), (47, 103), (38, 105), (47, 105), (103, 105), (38, 107), (47, 107), (103, 107), (105, 107), (38, 109), (47, 109), (103, 109), (105, 109), (107, 109), (38, 111), (47, 111), (103, 111), (105, 111), (107, 111), (109, 111), (38, 113), (47, 113), (103, 113), (105, 113), (107, 113), (109, 113), (111, 113), (38, 115), (47, 115), (103, 115), (105, 115), (107, 115), (109, 115), (111, 115), (113, 115), (38, 79), (47, 79), (103, 79), (105, 79), (107, 79), (109, 79), (111, 79), (113, 79), (115, 79), (38, 85), (47, 85), (103, 85), (105, 85), (107, 85), (109, 85), (111, 85), (113, 85), (115, 85), (79, 85), (38, 87), (47, 87), (103, 87), (105, 87), (107, 87), (109, 87), (111, 87), (113, 87), (115, 87), (79, 87), (85, 87), (38, 89), (47, 89), (103, 89), (105, 89), (107, 89), (109, 89), (111, 89), (113, 89), (115, 89), (79, 89), (85, 89), (87, 89)]
set_option maxRecDepth 100000 in
theorem neL_eq : GV.filterMap neP = neL := by decide +kernel
def neHas (a b : Nat) : Bool := neL.any (fun p => p.1 == a && p.2 == b)
theorem neHas_mem {a b : Nat} (h : neHas a b = true) : (a, b) ∈ neL := by
  obtain ⟨p, h1, h2⟩ := List.any_eq_true.mp h
  rw [Bool.and_eq_true, beq_iff_eq, beq_iff_eq] at h2
  obtain ⟨rfl, rfl⟩ := h2
  exact h1
theorem neL_all0 : ∀ i, i < 13 → ∀ j, j < 13 → (decide (i = j) || neHas (sIdx.getD i 0) (sIdx.getD j 0) || neHas (sIdx.getD j 0) (sIdx.getD i 0)) = true := by decide +kernel
theorem neL_all (i : Nat) (hi : i < 13) (j : Nat) (hj : j < 13) (hij : i ≠ j) : (sIdx.getD i 0, sIdx.getD j 0) ∈ neL ∨ (sIdx.getD j 0, sIdx.getD i 0) ∈ neL := by
  have h := neL_all0 i hi j hj
  rw [decide_eq_false hij, Bool.false_or, Bool.or_eq_true] at h
  exact h.elim (fun q => Or.inl (neHas_mem q)) (fun q => Or.inr (neHas_mem q))
theorem neL_gv {a b : Nat} (h : (a, b) ∈ neL) : Cond.not (Cond.eq (.string "SeaParcels$Tape" a) (.string "SeaParcels$Tape" b)) ∈ GV := by
  rw [← neL_eq] at h
  obtain ⟨w, h1, h2⟩ := List.mem_filterMap.mp h
  rw [neP_is h2] at h1
  exact h1
theorem gv_ne : ∀ i, i < 13 → ∀ j, j < 13 → i ≠ j → Cond.not (Cond.eq (tmS i) (tmS j)) ∈ GV ∨ Cond.not (Cond.eq (tmS j) (tmS i)) ∈ GV := fun i hi j hj hij => (neL_all i hi j hj hij).elim (fun h => Or.inl (neL_gv h)) (fun h => Or.inr (neL_gv h))
set_option maxRecDepth 100000 in
theorem gv_st : Cond.eq (.static "java/lang/String" "COMPACT_STRINGS" "Z") (.int 1) ∈ GV ∧ Cond.isRef (.static "jdk/internal/util/Preconditions" "SIOOBE_FORMATTER" "Ljava/util/function/BiFunction;") ∈ GV := by decide +kernel
set_option maxRecDepth 100000 in
theorem tb_str : ∀ k, k < 13 → Cond.stringRef RX3 (sIdx.getD k 0) (sTxt.getD k "") ∈ lw_tbl := by decide +kernel
theorem tb_cs : Cond.laysStatic "java/lang/String" "COMPACT_STRINGS" "Z" ∈ lw_tbl ∧ Cond.laysStatic "jdk/internal/util/Preconditions" "SIOOBE_FORMATTER" "Ljava/util/function/BiFunction;" ∈ lw_tbl ∧ Cond.initialized "java/lang/String" ∈ lw_tbl ∧ Cond.initialized "jdk/internal/util/Preconditions" ∈ lw_tbl := by decide +kernel
theorem sLen_lt : ∀ i, i < 13 → sLen.getD i 0 < 2 ^ 31 := by decide
/-- the strings and statics, for any way to number the cells -/
theorem sk_start {args : Array Value} {s : State} (hgv : (Jvm.Cond.and given_1 narrow_1).before args s = true) (hts : ∀ w ∈ lw_tbl, w.before args s = true) : ∃ (kK kV : Nat → Nat) (kF : Nat), ∀ (l : Launch) (D : va_G) (kad : Nat → Nat) (ca : Nat → ClassId), Sk (l, D, kad, ca, kK, kV, s.heap.size, kF) s s.heap := by
  have hg : ∀ w ∈ GV, w.before args s = true := flat_of_before _ hgv
  have hA : ∀ a : Nat, a < s.heap.size → ¬ (fun q : Nat => s.heap.size ≤ q) a := fun a h => Nat.not_le.mpr h
  obtain ⟨kK, kV, hS, hT⟩ := vk_Sof (args := args) (s := s) (N := 13) (tm := tmS) (len := sLen) (byt := sByt) (A := fun q : Nat => s.heap.size ≤ q) sLen_lt (fun i hi => hg _ (gv_ex i hi)) (fun i hi => hg _ (gv_co i hi)) (fun i hi => hg _ (gv_ar i hi)) (fun i hi => hg _ (gv_le i hi)) (fun i hi j hj => hg _ (gv_el i hi j hj)) (fun i j hi hj hij => (gv_ne i hi j hj hij).elim (fun q => Or.inl (hg _ q)) (fun q => Or.inr (hg _ q))) hA
  have hZ : va_Z "java/lang/String" "COMPACT_STRINGS" "Z" (.int 1) (fun q : Nat => s.heap.size ≤ q) s s.heap := va_Zof (hts _ tb_cs.1) (hts _ tb_cs.2.2.1) (va_eqi (hg _ gv_st.1)) hA
  have hQ : va_Zq "jdk/internal/util/Preconditions" "SIOOBE_FORMATTER" "Ljava/util/function/BiFunction;" (fun q : Nat => s.heap.size ≤ q) s s.heap := va_Zqof (hts _ tb_cs.2.1) (hts _ tb_cs.2.2.2) (hg _ gv_st.2) hA
  have hR : ∀ k, k < 13 → vk_R RX3 (sIdx.getD k 0) (sTxt.getD k "") (kK k) s := fun k hk => vk_R.of (hts _ (tb_str k hk)) (hT k hk)
  rcases hQ with h | ⟨t, h⟩
  · exact ⟨kK, kV, 0, fun l D kad ca => ⟨hS, hR, hZ, Or.inl h⟩⟩
  · exact ⟨kK, kV, t, fun l D kad ca => ⟨hS, hR, hZ, Or.inr h⟩⟩
theorem win_all : ∀ k, k < 6 → ∃ n, Cond.instantiable (RR k) n ∈ WT
  | 0, _ => ⟨_, win_0⟩
  | 1, _ => ⟨_, win_1⟩
  | 2, _ => ⟨_, win_2⟩
  | 3, _ => ⟨_, win_3⟩
  | 4, _ => ⟨_, win_4⟩
  | 5, _ => ⟨_, win_5⟩
  | k + 6, h => absurd h (by omega)
theorem vwCl_lt {k : Nat} {q : vw_C} (h : vwCl[k]? = some q) : k < 6 := (List.getElem?_eq_some_iff.mp h).1
theorem ra_prim {args : Array Value} {s : State} {ty : FieldType} (hty : ∀ C, ty ≠ .object C) (h : (Cond.arrayClass ty).before args s = true) : ∃ cA, ArrOfT s cA ty ∧ va_RA s cA ty := by
  obtain ⟨c, k, comp, h1, h2, h3⟩ := Cond.arrayClass_spec h
  refine ⟨c, fun n z => ⟨fun k h => (by cases h), k, h2, comp, h3⟩, ?_⟩
  cases ty with
  | object C => exact absurd rfl (hty C)
  | _ => exact h1
theorem ra_obj {args : Array Value} {s : State} {C : String} (h : (Cond.arrayOver (.object C)).before args s = true) : ∃ cA, ArrOfT s cA (.object C) ∧ va_RA s cA (.object C) := by
  obtain ⟨comp, c, k, h1, h2, h3, h4, h5⟩ := Cond.arrayOver_spec h
  exact ⟨c, fun n z => ⟨fun k h => (by cases h), k, h3, comp, h4⟩, k, comp, h3, h4, h1, h5⟩
theorem tb_ao : Cond.arrayOver (.object RX1) ∈ lw_tbl ∧ Cond.arrayOver (.object RX2) ∈ lw_tbl ∧ Cond.methodLinkNest RX0 43 yX1_init RX4 ∈ lw_tbl ∧ Cond.methodLinkNest RX4 28 yX3_init RX4 ∈ lw_tbl ∧ Cond.methodLinkNest RX4 43 yX2_init RX4 ∈ lw_tbl := by decide +kernel
theorem nw_start {args : Array Value} {s : State} (hts : ∀ w ∈ lw_tbl, w.before args s = true) : NWs s :=
  ⟨va_AO.of (hts _ tb_ao.1), va_AO.of (hts _ tb_ao.2.1), va_Nw.of rfl (hts _ tb_ao.2.2.1), va_Nw.of rfl (hts _ tb_ao.2.2.2.1), va_Nw.of rfl (hts _ tb_ao.2.2.2.2)⟩
theorem wt_ts {args : Array Value} {s : State} (hts : ∀ w ∈ lw_tbl, w.before args s = true) : ∀ w ∈ WT, w.before args s = true := fun w hw => hts w (List.mem_filter.mp hw).1
theorem k_start {args : Array Value} {s : State} (hts : ∀ w ∈ lw_tbl, w.before args s = true) : ∃ (D : va_G) (ca : Nat → ClassId), va_K D vwCl (tyL ca) s := by
  have hw := wt_ts hts
  have h0 : ∀ k : Nat, ∃ x : ClassId × (Nat → Nat), k < 6 → u_Kn s (RR k) (TT k) (NN k) x.1 x.2 := by
    intro k
    by_cases hk : k < 6
    · obtain ⟨n, hn⟩ := win_all k hk
      obtain ⟨c, iS, h⟩ := u_known (N := NN k) hw (iw k hk) (hw _ hn)
      exact ⟨(c, iS), fun _ => h⟩
    · exact ⟨(0, fun _ => 0), fun h => absurd h hk⟩
  obtain ⟨f, hf⟩ := Classical.axiomOfChoice h0
  obtain ⟨c6, h6⟩ := ra_prim (ty := .byte) (fun C h => by cases h) (hw _ wa_byte)
  obtain ⟨c7, h7⟩ := ra_prim (ty := .char) (fun C h => by cases h) (hw _ wa_char)
  obtain ⟨c8, h8⟩ := ra_prim (ty := .int) (fun C h => by cases h) (hw _ wa_int)
  obtain ⟨c9, h9⟩ := ra_obj (hts _ tb_ao.1)
  obtain ⟨c10, h10⟩ := ra_obj (hts _ tb_ao.2.1)
  refine ⟨(fun k => (f k).1, fun k => (f k).2), fun k => if k = 6 then c6 else if k = 7 then c7 else if k = 8 then c8 else if k = 9 then c9 else c10, fun k q hq => ?_, fun k q hk => ?_⟩
  · have hk := vwCl_lt hq
    have e : q = (RR k, TT k, NN k) := Option.some.inj (hq.symm.trans (vw_at k hk))
    subst e
    exact hf k hk
  · have hk5 : k < 5 := (List.getElem?_eq_some_iff.mp hk).1
    obtain rfl | rfl | rfl | rfl | rfl : k = 0 ∨ k = 1 ∨ k = 2 ∨ k = 3 ∨ k = 4 := by omega
    · cases hk; exact h6
    · cases hk; exact h7
    · cases hk; exact h8
    · cases hk; exact h9
    · cases hk; exact h10
