/-! THE TYPED MEMORY: logical rows of ints, and one long; how the world's cells are read off it -/
abbrev TM : Type := (Nat → Nat → Int32) × Int64
abbrev Cx : Type := Launch × va_G × (Nat → Nat) × (Nat → ClassId) × (Nat → Nat) × (Nat → Nat) × Nat × Nat
def kL (K : Cx) : Launch := K.1
def kD (K : Cx) : va_G := K.2.1
def kad (K : Cx) : Nat → Nat := K.2.2.1
def kcA (K : Cx) : Nat → ClassId := K.2.2.2.1
def kK (K : Cx) : Nat → Nat := K.2.2.2.2.1
def kV (K : Cx) : Nat → Nat := K.2.2.2.2.2.1
def kz (K : Cx) : Nat := K.2.2.2.2.2.2.1
def kF (K : Cx) : Nat := K.2.2.2.2.2.2.2
def AA (K : Cx) : Nat → Prop := fun q => kz K ≤ q
def kdL : List Nat := [4, 0, 8, 9, 8, 1, 1, 1, 1, 1, 1, 1, 1, 0, 8, 9, 8, 1, 1, 1, 1, 1, 1, 1, 1, 0, 8, 9, 8, 1, 1, 1, 1, 1, 1, 1, 1, 3, 6, 10, 8, 2, 8, 2, 8, 2, 8, 2, 8, 5, 8, 8, 8, 8, 8, 7, 7, 7, 8, 8, 8, 8]
def lnL : List Nat := [7, 9, 6, 8, 10, 7, 7, 7, 7, 7, 7, 7, 7, 9, 6, 8, 10, 7, 7, 7, 7, 7, 7, 7, 7, 9, 6, 8, 10, 7, 7, 7, 7, 7, 7, 7, 7, 6, 120, 4, 7, 3, 40, 3, 40, 3, 40, 3, 40, 18, 78, 78, 78, 7, 120, 70, 40, 20, 4, 4, 160, 40]
def alL : List (Nat × Nat) := [(0, 0), (0, 0), (1, 6), (0, 0), (1, 68), (0, 0), (0, 0), (0, 0), (0, 0), (0, 0), (0, 0), (0, 0), (0, 0), (0, 0), (13, 6), (0, 0), (13, 68), (0, 0), (0, 0), (0, 0), (0, 0), (0, 0), (0, 0), (0, 0), (0, 0), (0, 0), (25, 6), (0, 0), (25, 68), (0, 0), (0, 0), (0, 0), (0, 0), (0, 0), (0, 0), (0, 0), (0, 0), (0, 0), (38, 0), (0, 0), (40, 0), (0, 0), (43, 0), (0, 0), (43, 40), (0, 0), (43, 80), (0, 0), (43, 120), (0, 0), (50, 0), (51, 0), (52, 0), (53, 0), (54, 0), (55, 0), (56, 0), (57, 0), (58, 0), (59, 0), (60, 0), (61, 0)]
def fkL : List (List Nat) := [[2, 0, 0, 0, 0, 0, 0, 2, 2], [0, 0, 0, 0, 0, 0, 0], [0, 0, 2], [2, 0, 0, 0, 0, 0], [2, 2, 2, 0, 2, 2, 2], [2, 2, 2, 0, 2, 2, 0, 0, 0, 0, 1, 2, 2, 2, 2, 2, 2, 2]]
def csL : List Nat := [9, 4, 5, 3, 0, 2, 1, 9, 9]
def kd (o : Nat) : Nat := kdL.getD o 99
def ln (o : Nat) : Nat := lnL.getD o 0
def al (o : Nat) : Nat × Nat := alL.getD o (0, 0)
/-- 0: an int, 1: the long, 2: a reference -/
def fk (ci k : Nat) : Nat := (fkL.getD ci []).getD k 0
def cs (k : Nat) : Nat := csL.getD k 99
/-- where an int field lies -/
def ol (ci o k : Nat) : Nat × Nat := match ci with
  | 0 => (o, cs k)
  | 1 => (1 + 12 * ((o - 5) / 12), 12 + 7 * ((o - 5) % 12) + k)
  | 2 => (41 + k, (o - 41) / 2)
  | 3 => (37, k)
  | 4 => (0, k)
  | _ => (49, k)
def rf5L : List Nat := [50, 51, 52, 0, 53, 54, 0, 0, 0, 0, 0, 55, 56, 57, 58, 59, 60, 61]
def rf4L : List Nat := [1, 13, 25, 0, 37, 39, 40]
/-- which object a reference field names -/
def rfc (ci k o : Nat) : Nat := match ci with
  | 0 => match k with
    | 0 => o + 1
    | 7 => o + 2
    | _ => o + 3
  | 4 => rf4L.getD k 0
  | 5 => rf5L.getD k 0
  | _ => o + 1
def rfa (k o j : Nat) : Nat := if k = 9 then o + 2 + j else 41 + 2 * j
def adr (K : Cx) (i : Nat) : Nat := if i < 62 then kad K i else if i < 120 then kK K (i - 100) else if i < 140 then kV K (i - 120) else kF K
def vmp (K : Cx) (v : Value) : Value := match v with
  | .ref i => .ref (adr K i)
  | w => w
def VL (m : TM) (o k : Nat) : Value := if fk (kd o) k = 0 then .int (m.1 (ol (kd o) o k).1 (ol (kd o) o k).2) else if fk (kd o) k = 1 then .long m.2 else .ref (rfc (kd o) k o)
def cellOf (K : Cx) (m : TM) (o : Nat) : va_E :=
  if kd o < 6 then .inr (kd o, (List.range (ln o)).map (fun k => vmp K (VL m o k)))
  else if kd o < 9 then .inl (kcA K (kd o), ln o, .inl (fun j => if j < ln o then m.1 (al o).1 ((al o).2 + j) else 0))
  else .inl (kcA K (kd o), ln o, .inr (.inr (.inr (.inr (fun j => if j < ln o then some (kad K (rfa (kd o) o j)) else none)))))
def wsOf (K : Cx) (m : TM) : va_W := (List.range 62).map (fun o => (kad K o, cellOf K m o))
def tysOf (K : Cx) : List (ClassId × FieldType) := [(kcA K 6, .byte), (kcA K 7, .char), (kcA K 8, .int), (kcA K 9, .object RX1), (kcA K 10, .object RX2)]
def isI (o k : Nat) : Bool := (decide (kd o < 6) && decide (fk (kd o) k = 0)) || (decide (6 ≤ kd o) && decide (kd o < 9))
def lc (o k : Nat) : Nat × Nat := if kd o < 6 then ol (kd o) o k else ((al o).1, (al o).2 + k)
def ilc (q : Nat × Nat) : Nat × Nat :=
  if q.1 = 1 ∨ q.1 = 13 ∨ q.1 = 25 then
    (if q.2 < 6 then (q.1, [4, 6, 5, 3, 1, 2].getD q.2 0) else if q.2 < 12 then (q.1 + 1, q.2 - 6) else if q.2 < 68 then (q.1 + 4 + (q.2 - 12) / 7, (q.2 - 12) % 7) else (q.1 + 3, q.2 - 68))
  else if q.1 = 41 then (41 + 2 * q.2, 0) else if q.1 = 42 then (41 + 2 * q.2, 1) else if q.1 = 43 then (42 + 2 * (q.2 / 40), q.2 % 40) else if q.1 = 0 then (0, q.2) else (q.1, q.2)
set_option maxRecDepth 100000 in
theorem ilc_lc : ∀ o, o < 62 → ∀ k, k < ln o → isI o k = true → ilc (lc o k) = (o, k) := by decide +kernel
theorem lc_inj {o k o' k' : Nat} (ho : o < 62) (hk : k < ln o) (hi : isI o k = true) (ho' : o' < 62) (hk' : k' < ln o') (hi' : isI o' k' = true) (h : lc o' k' = lc o k) : o' = o ∧ k' = k := by
  have e := ilc_lc o' ho' k' hk' hi'
  rw [h, ilc_lc o ho k hk hi] at e
  exact ⟨(Prod.mk.inj e).1.symm, (Prod.mk.inj e).2.symm⟩
def st1 (m : TM) (r i : Nat) (x : Int32) : TM := (fun a b => if a = r ∧ b = i then x else m.1 a b, m.2)
def st2 (m : TM) (x : Int64) : TM := (m.1, x)
/-- a whole row set -/
def sr (m : TM) (r : Nat) (f : Nat → Int32) : TM := (fun a b => if a = r then f b else m.1 a b, m.2)
def rdI (m : TM) (o k : Nat) : Int32 := m.1 (lc o k).1 (lc o k).2
theorem rd_st {m : TM} {o k : Nat} {x : Int32} (ho : o < 62) (hk : k < ln o) (hi : isI o k = true) {o' k' : Nat} (ho' : o' < 62) (hk' : k' < ln o') (hi' : isI o' k' = true) :
    rdI (st1 m (lc o k).1 (lc o k).2 x) o' k' = if o' = o ∧ k' = k then x else rdI m o' k' := by
  unfold rdI st1
  by_cases h : o' = o ∧ k' = k
  · obtain ⟨rfl, rfl⟩ := h
    simp
  · have : ¬ ((lc o' k').1 = (lc o k).1 ∧ (lc o' k').2 = (lc o k).2) := fun q => h (lc_inj ho hk hi ho' hk' hi' (Prod.ext q.1 q.2))
    simp [h, this]
theorem VL_int {m : TM} {o k : Nat} (h6 : kd o < 6) (h : fk (kd o) k = 0) : VL m o k = .int (rdI m o k) := by simp [VL, rdI, lc, h, h6]
theorem cell_obj {K : Cx} {m : TM} {o : Nat} (h : kd o < 6) : cellOf K m o = .inr (kd o, (List.range (ln o)).map (fun k => vmp K (VL m o k))) := by simp [cellOf, h]
theorem cell_arr {K : Cx} {m : TM} {o : Nat} (h : ¬ kd o < 6) (h9 : kd o < 9) : cellOf K m o = .inl (kcA K (kd o), ln o, .inl (fun j => if j < ln o then rdI m o j else 0)) := by simp [cellOf, h, h9, rdI, lc]
theorem cell_rarr {K : Cx} {m : TM} {o : Nat} (h9 : ¬ kd o < 9) : cellOf K m o = .inl (kcA K (kd o), ln o, .inr (.inr (.inr (.inr (fun j => if j < ln o then some (kad K (rfa (kd o) o j)) else none))))) := by
  have h : ¬ kd o < 6 := by omega
  simp [cellOf, h, h9]
theorem ws_get {K : Cx} {m : TM} {o : Nat} (h : o < 62) : (wsOf K m)[o]? = some (kad K o, cellOf K m o) := by simp [wsOf, h]
theorem ws_set {K : Cx} {m m' : TM} {o : Nat} {e : va_E} (h : o < 62) (he : cellOf K m' o = e) (hr : ∀ o', o' < 62 → o' ≠ o → cellOf K m o' = cellOf K m' o') : (wsOf K m).set o (kad K o, e) = wsOf K m' := by
  apply List.ext_getElem?
  intro i
  by_cases hi : i = o
  · subst hi
    rw [List.getElem?_set_self (by simp [wsOf, h]), ws_get h, he]
  · rw [List.getElem?_set_ne (Ne.symm hi)]
    by_cases h2 : i < 62
    · rw [ws_get h2, ws_get h2, hr i h2 hi]
    · have h3 : ∀ n : TM, (wsOf K n)[i]? = none := fun n => by simp [wsOf]; omega
      rw [h3, h3]
theorem ln_obj : ∀ o, o < 62 → kd o < 6 → ln o = NN (kd o) := by decide +kernel
theorem kd_lt : ∀ o, o < 62 → kd o < 11 := by decide +kernel
/-- a write of an int cell leaves every other cell as it was -/
theorem cell_st {K : Cx} {m : TM} {o k : Nat} {x : Int32} (ho : o < 62) (hk : k < ln o) (hi : isI o k = true) : ∀ o', o' < 62 → o' ≠ o → cellOf K m o' = cellOf K (st1 m (lc o k).1 (lc o k).2 x) o' := by
  intro o' ho' hne
  by_cases h6 : kd o' < 6
  · rw [cell_obj h6, cell_obj h6]
    refine congrArg (fun z => Sum.inr (kd o', z)) (List.map_congr_left fun j hj => congrArg (vmp K) ?_)
    have hj' : j < ln o' := List.mem_range.mp hj
    by_cases hf : fk (kd o') j = 0
    · rw [VL_int h6 hf, VL_int h6 hf, rd_st ho hk hi ho' hj' (by simp [isI, h6, hf]), if_neg (fun q => hne q.1)]
    · simp [VL, hf, st1]
  · by_cases h9 : kd o' < 9
    · rw [cell_arr h6 h9, cell_arr h6 h9]
      refine congrArg (fun z => Sum.inl (kcA K (kd o'), ln o', Sum.inl z)) (funext fun j => ?_)
      by_cases hj : j < ln o'
      · rw [if_pos hj, if_pos hj, rd_st ho hk hi ho' hj (by simp [isI, h6, h9]; omega), if_neg (fun q => hne q.1)]
      · rw [if_neg hj, if_neg hj]
    · rw [cell_rarr h9, cell_rarr h9]
theorem ws_put {K : Cx} {m : TM} {o k : Nat} {x : Int32} (ho : o < 62) (hk : k < ln o) (h6 : kd o < 6) (hf : fk (kd o) k = 0) :
    (wsOf K m).set o (kad K o, .inr (kd o, ((List.range (ln o)).map (fun k => vmp K (VL m o k))).set k (.int x))) = wsOf K (st1 m (lc o k).1 (lc o k).2 x) := by
  have hi : isI o k = true := by simp [isI, h6, hf]
  refine ws_set ho ?_ (cell_st ho hk hi)
  rw [cell_obj h6]
  refine congrArg (fun z => Sum.inr (kd o, z)) (List.ext_getElem? fun j => ?_)
  by_cases hj : j < ln o
  · by_cases hjk : j = k
    · subst hjk
      rw [List.getElem?_set_self (by simp [hj]), List.getElem?_map, List.getElem?_range hj, Option.map_some, VL_int h6 hf, rd_st ho hk hi ho hj hi, if_pos ⟨rfl, rfl⟩]
      rfl
    · rw [List.getElem?_set_ne (Ne.symm hjk), List.getElem?_map, List.getElem?_map, List.getElem?_range hj, Option.map_some, Option.map_some]
      refine congrArg (fun z => some (vmp K z)) ?_
      by_cases hg : fk (kd o) j = 0
      · rw [VL_int h6 hg, VL_int h6 hg, rd_st ho hk hi ho hj (by simp [isI, h6, hg]), if_neg (fun q => hjk q.2)]
      · simp [VL, hg, st1]
  · rw [List.getElem?_eq_none (by simp; omega), List.getElem?_eq_none (by simp; omega)]
theorem ws_ast {K : Cx} {m : TM} {o k : Nat} {x : Int32} (ho : o < 62) (hk : k < ln o) (h6 : ¬ kd o < 6) (h9 : kd o < 9) :
    (wsOf K m).set o (kad K o, .inl (kcA K (kd o), ln o, .inl (upd (fun j => if j < ln o then rdI m o j else 0) k x))) = wsOf K (st1 m (lc o k).1 (lc o k).2 x) := by
  have hi : isI o k = true := by simp [isI, h6, h9]; omega
  refine ws_set ho ?_ (cell_st ho hk hi)
  rw [cell_arr h6 h9]
  refine congrArg (fun z => Sum.inl (kcA K (kd o), ln o, Sum.inl z)) (funext fun j => ?_)
  unfold upd
  by_cases hjk : j = k
  · subst hjk
    rw [if_pos hk, if_pos rfl, rd_st ho hk hi ho hk hi, if_pos ⟨rfl, rfl⟩]
  · rw [if_neg hjk]
    dsimp only
    by_cases hj : j < ln o
    · rw [if_pos hj, if_pos hj, rd_st ho hk hi ho hj (by simp [isI, h6, h9]; omega), if_neg (fun q => hjk q.2)]
    · rw [if_neg hj, if_neg hj]
theorem ws_putL {K : Cx} {m : TM} {x : Int64} : (wsOf K m).set 49 (kad K 49, .inr (5, ((List.range 18).map (fun k => vmp K (VL m 49 k))).set 10 (.long x))) = wsOf K (st2 m x) := by
  refine ws_set (by decide) ?_ ?_
  · rw [cell_obj (by decide)]
    refine congrArg (fun z => Sum.inr (5, z)) (List.ext_getElem? fun j => ?_)
    by_cases hj : j < 18
    · by_cases hjk : j = 10
      · subst hjk
        rfl
      · rw [List.getElem?_set_ne (Ne.symm hjk)]
        show ((List.range 18).map _)[j]? = ((List.range 18).map _)[j]?
        rw [List.getElem?_map, List.getElem?_map, List.getElem?_range hj, Option.map_some, Option.map_some]
        have hg : ¬ fk (kd 49) j = 1 := by
          have : ∀ j, j < 18 → ¬ j = 10 → ¬ fk (kd 49) j = 1 := by decide
          exact this j hj hjk
        by_cases h0 : fk (kd 49) j = 0 <;> simp [VL, hg, h0, st2]
    · rw [List.getElem?_eq_none (by simp [ln, lnL]; omega), List.getElem?_eq_none (by simp; omega)]
  · intro o' ho' hne
    by_cases h6 : kd o' < 6
    · rw [cell_obj h6, cell_obj h6]
      refine congrArg (fun z => Sum.inr (kd o', z)) (List.map_congr_left fun j hj => congrArg (vmp K) ?_)
      have hj' : j < ln o' := List.mem_range.mp hj
      have key : ∀ o, o < 62 → o ≠ 49 → kd o < 6 → ∀ j, j < ln o → ¬ fk (kd o) j = 1 := by decide +kernel
      have hg := key o' ho' hne h6 j hj'
      by_cases h0 : fk (kd o') j = 0 <;> simp [VL, hg, h0, st2]
    · by_cases h9 : kd o' < 9
      · rw [cell_arr h6 h9, cell_arr h6 h9]
        rfl
      · rw [cell_rarr h9, cell_rarr h9]
/-! strings and statics -/
def sLen : List Nat := [4, 5, 6, 5, 5, 5, 5, 10, 6, 2, 6, 5, 4]
def sByt : List (List Int32) := [[116, 105, 100, 101], [115, 116, 111, 114, 109], [108, 101, 116, 116, 101, 114], [99, 114, 97, 116, 101], [99, 108, 111, 99, 107], [98, 114, 105, 100, 101], [115, 111, 99, 107, 115], [114, 101, 103, 105, 115, 116, 101, 114, 101, 100], [112, 97, 114, 99, 101, 108], [111, 110], [119, 101, 105, 103, 104, 115], [119, 97, 105, 116, 115], [104, 101, 108, 100]]
def sIdx : List Nat := [38, 47, 103, 105, 107, 109, 111, 113, 115, 79, 85, 87, 89]
def sTxt : List String := ["tide", "storm", "letter", "crate", "clock", "bride", "socks", "registered", "parcel", "on", "weighs", "waits", "held"]
def Sk (K : Cx) (U : State) (H : Heap) : Prop := vk_S 13 sLen sByt (kK K) (kV K) (AA K) U H ∧ (∀ k, k < 13 → vk_R RX3 (sIdx.getD k 0) (sTxt.getD k "") (kK K k) U) ∧ va_Z "java/lang/String" "COMPACT_STRINGS" "Z" (.int 1) (AA K) U H ∧ (va_Z "jdk/internal/util/Preconditions" "SIOOBE_FORMATTER" "Ljava/util/function/BiFunction;" .null (AA K) U H ∨ va_Z "jdk/internal/util/Preconditions" "SIOOBE_FORMATTER" "Ljava/util/function/BiFunction;" (.ref (kF K)) (AA K) U H)
theorem Sk.warm {K : Cx} {s U : State} {H : Heap} (hW : s.WarmedH U.vm) (h : Sk K s H) : Sk K U H :=
  ⟨vk_S.moved hW.alike h.1, fun k hk => vk_R.warm hW (h.2.1 k hk), va_Z.moved hW.alike h.2.2.1, h.2.2.2.elim (fun q => Or.inl (va_Z.moved hW.alike q)) (fun q => Or.inr (va_Z.moved hW.alike q))⟩
theorem Sk.same {K : Cx} {s U : State} {H : Heap} (hv : U.vm = s.vm) (h : Sk K s H) : Sk K U H :=
  ⟨vk_S.moved (by rw [hv]; exact Vm.Alike.refl _) h.1, fun k hk => vk_R.same hv (h.2.1 k hk), va_Z.moved (by rw [hv]; exact Vm.Alike.refl _) h.2.2.1, h.2.2.2.elim (fun q => Or.inl (va_Z.moved (by rw [hv]; exact Vm.Alike.refl _) q)) (fun q => Or.inr (va_Z.moved (by rw [hv]; exact Vm.Alike.refl _) q))⟩
theorem Sk.kept {K : Cx} {s : State} {H H1 : Heap} (h : Sk K s H) (hq : ∀ a : Nat, a < H.size → ¬ AA K a → H1[a]? = H[a]?) : Sk K s H1 :=
  ⟨h.1.kept hq, h.2.1, h.2.2.1.kept hq, h.2.2.2.elim (fun q => Or.inl (q.kept hq)) (fun q => Or.inr (q.kept hq))⟩
/-- what holds of the world at a method's entry -/
def Wd (K : Cx) (m : TM) (U : State) : Prop := va_P (kD K) vwCl (wsOf K m) U.heap ∧ va_D (AA K) (wsOf K m) ∧ va_K (kD K) vwCl (tysOf K) U ∧ Sk K U U.heap
def QQ (K : Cx) (Q : Option Value → TM → Prop) : Array Value → State → Outcome → State → Prop := fun _ st o t => (∃ (r : Option Value) (m' : TM), o = .returned (r.map (vmp K)) ∧ Q r m' ∧ va_P (kD K) vwCl (wsOf K m') t.heap ∧ va_D (AA K) (wsOf K m')) ∧ va_F (AA K) st t
/-- a method's contract -/
def CQ (y : MethodName) (cc : ByteArray) (mL : Nat) (rt : Option FieldType) (fr lo : Nat) (K : Cx) (as : List Value) (m : TM) (Q : Option Value → TM → Prop) : Prop :=
  Met (kL K) y (Cond.code y cc mL rt :: WT) ({ frames := fr, cells := 0, slots := 0, locals := lo }) (va_Pc (as.map (vmp K)) (fun U => Wd K m U)) (QQ K Q) 0 0 (AA K)
/-- deterministic: the answer, and the memory behind it -/
def CT (y : MethodName) (cc : ByteArray) (mL : Nat) (rt : Option FieldType) (fr lo : Nat) (K : Cx) (as : List Value) (m : TM) (r : Option Value) (m' : TM) : Prop := CQ y cc mL rt fr lo K as m (fun r1 m1 => r1 = r ∧ m1 = m')
def XC (own : String) (cc : ByteArray) (mL : Nat) (rt : Option FieldType) (K : Cx) (p : Program) (s : State) (mi : MethodId) (args : Array Value) (meth : Method) (c : Code) : Prop :=
  p.tables.exec = Jvm.exec ∧ c.code = cc ∧ meth.sig.returnType = rt ∧ c.maxLocals = mL ∧ s.vm.findClass own = some mi.cls ∧ (∀ w ∈ WT, w.before args s = true) ∧ meth.locks = false ∧ va_K (kD K) vwCl (tysOf K) s ∧ Sk K s s.heap
def lvOf (K : Cx) (ls : List (Option Value)) : List (Nat × Value) := (List.range ls.length).filterMap (fun i => match ls[i]? with
  | some (some v) => some (i, vmp K v)
  | _ => none)
theorem lvOf_mem {K : Cx} {ls : List (Option Value)} {q : Nat × Value} : q ∈ lvOf K ls ↔ ∃ v, ls[q.1]? = some (some v) ∧ q.2 = vmp K v := by
  unfold lvOf
  rw [List.mem_filterMap]
  constructor
  · rintro ⟨i, hi, h⟩
    cases hl : ls[i]? with
    | none => rw [hl] at h; cases h
    | some w =>
      cases w with
      | none => rw [hl] at h; cases h
      | some v =>
        rw [hl] at h
        cases h
        exact ⟨v, hl, rfl⟩
  · rintro ⟨v, hv, h2⟩
    refine ⟨q.1, List.mem_range.mpr (List.getElem?_eq_some_iff.mp hv).1, ?_⟩
    rw [hv]
    show some (q.1, vmp K v) = some q
    rw [← h2]
def LR (K : Cx) (mL : Nat) (ls : List (Option Value)) (arr : Array Slot) : Prop := lv_has arr mL (lvOf K ls)
theorem LR.get {K : Cx} {mL : Nat} {ls : List (Option Value)} {arr : Array Slot} (h : LR K mL ls arr) {i : Nat} {v : Value} (hv : ls[i]? = some (some v)) : arr[i]? = some (.val (vmp K v)) := h.2.2 (i, vmp K v) (lvOf_mem.mpr ⟨v, hv, rfl⟩)
theorem lv_mono {arr : Array Slot} {n : Nat} {l l' : List (Nat × Value)} (h : lv_has arr n l) (hs : ∀ q ∈ l', q ∈ l) : lv_has arr n l' := ⟨h.1, h.2.1, fun q hq => h.2.2 q (hs q hq)⟩
theorem vmp_cat (K : Cx) (v : Value) : (vmp K v).category = v.category := by cases v <;> rfl
/-- a store to local i keeps what stands before it -/
def stok (ls : List (Option Value)) (i : Nat) : Bool := match i with
  | 0 => true
  | j + 1 => match ls[j]? with
    | some (some w) => w.category == 1
    | _ => true
theorem LR.store {K : Cx} {mL : Nat} {ls : List (Option Value)} {arr : Array Slot} {i : Nat} {v : Value} (hok : stok ls i = true)
    (h : lv_has arr mL ((i, vmp K v) :: (lvOf K ls).filter (fun q => !(q.1 == i) && !(q.1 + 1 == i && q.2.category == 2)))) : LR K mL (ls.set i (some v)) arr := by
  refine lv_mono h fun q hq => ?_
  obtain ⟨w, hw, he⟩ := lvOf_mem.mp hq
  by_cases hqi : q.1 = i
  · rw [hqi] at hw
    have hlt : i < (ls.set i (some v)).length := (List.getElem?_eq_some_iff.mp hw).1
    rw [List.getElem?_set_self (by simpa using hlt)] at hw
    cases hw
    rw [List.mem_cons]
    left
    exact Prod.ext hqi he
  · rw [List.getElem?_set_ne (Ne.symm hqi)] at hw
    refine List.mem_cons_of_mem _ (List.mem_filter.mpr ⟨lvOf_mem.mpr ⟨w, hw, he⟩, ?_⟩)
    have h1 : (q.1 == i) = false := by simp [hqi]
    rw [h1, he, vmp_cat]
    by_cases h2 : q.1 + 1 = i
    · subst h2
      change (match ls[q.1]? with
        | some (some w) => w.category == 1
        | _ => true) = true at hok
      rw [hw] at hok
      have hc : w.category = 1 := by simpa using hok
      simp [hc]
    · simp [h2]
theorem LR.store2 {K : Cx} {mL : Nat} {ls : List (Option Value)} {arr : Array Slot} {i : Nat} {v : Value} (hok : stok ls i = true)
    (h : lv_has arr mL ((i, vmp K v) :: (lvOf K ls).filter (fun q => !(q.1 == i) && (!(q.1 == i + 1) && !(q.1 + 1 == i && q.2.category == 2))))) : LR K mL ((ls.set i (some v)).set (i + 1) none) arr := by
  refine lv_mono h fun q hq => ?_
  obtain ⟨w, hw, he⟩ := lvOf_mem.mp hq
  have hq1 : q.1 ≠ i + 1 := by
    intro e
    rw [e] at hw
    have hlt : i + 1 < ((ls.set i (some v)).set (i + 1) none).length := (List.getElem?_eq_some_iff.mp hw).1
    rw [List.getElem?_set_self (by simpa using hlt)] at hw
    cases hw
  rw [List.getElem?_set_ne (Ne.symm hq1)] at hw
  by_cases hqi : q.1 = i
  · rw [hqi] at hw
    have hlt : i < (ls.set i (some v)).length := (List.getElem?_eq_some_iff.mp hw).1
    rw [List.getElem?_set_self (by simpa using hlt)] at hw
    cases hw
    rw [List.mem_cons]
    left
    exact Prod.ext hqi he
  · rw [List.getElem?_set_ne (Ne.symm hqi)] at hw
    refine List.mem_cons_of_mem _ (List.mem_filter.mpr ⟨lvOf_mem.mpr ⟨w, hw, he⟩, ?_⟩)
    have h1 : (q.1 == i) = false := by simp [hqi]
    have h3 : (q.1 == i + 1) = false := by simp [hq1]
    rw [h1, h3, he, vmp_cat]
    by_cases h2 : q.1 + 1 = i
    · subst h2
      change (match ls[q.1]? with
        | some (some w) => w.category == 1
        | _ => true) = true at hok
      rw [hw] at hok
      have hc : w.category = 1 := by simpa using hok
      simp [hc]
    · simp [h2]
/-- THE JUDGEMENT: from here the method comes to its end with Q -/
def XX (own : String) (cc : ByteArray) (mL : Nat) (rt : Option FieldType) (fr lo : Nat) (K : Cx) (pc : Nat) (ls : List (Option Value)) (st : List Value) (m : TM) (Q : Option Value → TM → Prop) : Prop :=
  ∀ (p : Program) (e : Env) (s : State) (mi : MethodId) (args : Array Value) (below : List Frame) (meth : Method) (c : Code) (H : Heap) (locs : List Loc) (arr : Array Slot),
    XC own cc mL rt K p s mi args meth c → va_P (kD K) vwCl (wsOf K m) H → va_D (AA K) (wsOf K m) → va_S (AA K) s.heap H locs → LR K mL ls arr →
    W p (kL K) e ({ frames := fr, cells := 0, slots := 0, locals := lo }) s mi args below meth c H locs 0 0 (MQ below (QQ K Q) args s 0 0 (AA K)) (F0 mi pc arr (st.map (vmp K)))
