/-! what is told: items of the tape, pure, and the class -/
section CQI
variable {own : String} {cc : ByteArray} {mL : Nat} {rt : Option FieldType} {fr lo : Nat} {K : Cx} {pc q : Nat} {ls : List (Option Value)} {st : List Value} {m : TM} {Q : Option Value → TM → Prop}
theorem x_callV0i {v : Value} {o ci : Nat} {Q1 : TM → Prop} {y : MethodName} {cy : ByteArray} {nL idx f2 l2 : Nat} {ry : Option FieldType} (hd : decode cc pc = .ok (.invokevirtual idx, 3)) (hq : pc + 3 = q) (hl : Cond.methodLink own idx y ∈ WT) (hm : MV y cy nL ry 0) (hv : RV o ci) (hC : RR ci = y.cls) (hc : CQ y cy nL ry f2 l2 K (.ref o :: []) m (fun r1 m1 => r1 = some v ∧ Q1 m1)) (hw : (st.map fun v => v.category).sum ≤ 8) (hR : f2 + 1 ≤ fr ∧ 8 + (nL + 11) + l2 ≤ lo) (kk : ∀ m1, Q1 m1 → XX own cc mL rt fr lo K q ls (v :: st) m1 Q) : XX own cc mL rt fr lo K pc ls (.ref o :: st) m Q :=
  x_callV (as := []) hd hq hl hm hv hC hc rfl rfl hw hR (fun r m1 h => by obtain ⟨rfl, h⟩ := h; exact kk m1 h)
theorem x_callV0u {o ci : Nat} {Q1 : TM → Prop} {y : MethodName} {cy : ByteArray} {nL idx f2 l2 : Nat} {ry : Option FieldType} (hd : decode cc pc = .ok (.invokevirtual idx, 3)) (hq : pc + 3 = q) (hl : Cond.methodLink own idx y ∈ WT) (hm : MV y cy nL ry 0) (hv : RV o ci) (hC : RR ci = y.cls) (hc : CQ y cy nL ry f2 l2 K (.ref o :: []) m (fun r1 m1 => r1 = none ∧ Q1 m1)) (hw : (st.map fun v => v.category).sum ≤ 8) (hR : f2 + 1 ≤ fr ∧ 8 + (nL + 11) + l2 ≤ lo) (kk : ∀ m1, Q1 m1 → XX own cc mL rt fr lo K q ls (st) m1 Q) : XX own cc mL rt fr lo K pc ls (.ref o :: st) m Q :=
  x_callV (as := []) hd hq hl hm hv hC hc rfl rfl hw hR (fun r m1 h => by obtain ⟨rfl, h⟩ := h; exact kk m1 h)
theorem x_callV1i {a1 : Value} {v : Value} {o ci : Nat} {Q1 : TM → Prop} {y : MethodName} {cy : ByteArray} {nL idx f2 l2 : Nat} {ry : Option FieldType} (hd : decode cc pc = .ok (.invokevirtual idx, 3)) (hq : pc + 3 = q) (hl : Cond.methodLink own idx y ∈ WT) (hm : MV y cy nL ry 1) (hv : RV o ci) (hC : RR ci = y.cls) (hc : CQ y cy nL ry f2 l2 K (.ref o :: [a1]) m (fun r1 m1 => r1 = some v ∧ Q1 m1)) (hw : (st.map fun v => v.category).sum ≤ 8) (hR : f2 + 1 ≤ fr ∧ 8 + (nL + 11) + l2 ≤ lo) (kk : ∀ m1, Q1 m1 → XX own cc mL rt fr lo K q ls (v :: st) m1 Q) : XX own cc mL rt fr lo K pc ls (a1 :: .ref o :: st) m Q :=
  x_callV (as := [a1]) hd hq hl hm hv hC hc rfl rfl hw hR (fun r m1 h => by obtain ⟨rfl, h⟩ := h; exact kk m1 h)
theorem x_callV1u {a1 : Value} {o ci : Nat} {Q1 : TM → Prop} {y : MethodName} {cy : ByteArray} {nL idx f2 l2 : Nat} {ry : Option FieldType} (hd : decode cc pc = .ok (.invokevirtual idx, 3)) (hq : pc + 3 = q) (hl : Cond.methodLink own idx y ∈ WT) (hm : MV y cy nL ry 1) (hv : RV o ci) (hC : RR ci = y.cls) (hc : CQ y cy nL ry f2 l2 K (.ref o :: [a1]) m (fun r1 m1 => r1 = none ∧ Q1 m1)) (hw : (st.map fun v => v.category).sum ≤ 8) (hR : f2 + 1 ≤ fr ∧ 8 + (nL + 11) + l2 ≤ lo) (kk : ∀ m1, Q1 m1 → XX own cc mL rt fr lo K q ls (st) m1 Q) : XX own cc mL rt fr lo K pc ls (a1 :: .ref o :: st) m Q :=
  x_callV (as := [a1]) hd hq hl hm hv hC hc rfl rfl hw hR (fun r m1 h => by obtain ⟨rfl, h⟩ := h; exact kk m1 h)
theorem x_callV2i {a1 a2 : Value} {v : Value} {o ci : Nat} {Q1 : TM → Prop} {y : MethodName} {cy : ByteArray} {nL idx f2 l2 : Nat} {ry : Option FieldType} (hd : decode cc pc = .ok (.invokevirtual idx, 3)) (hq : pc + 3 = q) (hl : Cond.methodLink own idx y ∈ WT) (hm : MV y cy nL ry 2) (hv : RV o ci) (hC : RR ci = y.cls) (hc : CQ y cy nL ry f2 l2 K (.ref o :: [a1, a2]) m (fun r1 m1 => r1 = some v ∧ Q1 m1)) (hw : (st.map fun v => v.category).sum ≤ 8) (hR : f2 + 1 ≤ fr ∧ 8 + (nL + 11) + l2 ≤ lo) (kk : ∀ m1, Q1 m1 → XX own cc mL rt fr lo K q ls (v :: st) m1 Q) : XX own cc mL rt fr lo K pc ls (a2 :: a1 :: .ref o :: st) m Q :=
  x_callV (as := [a1, a2]) hd hq hl hm hv hC hc rfl rfl hw hR (fun r m1 h => by obtain ⟨rfl, h⟩ := h; exact kk m1 h)
theorem x_callV2u {a1 a2 : Value} {o ci : Nat} {Q1 : TM → Prop} {y : MethodName} {cy : ByteArray} {nL idx f2 l2 : Nat} {ry : Option FieldType} (hd : decode cc pc = .ok (.invokevirtual idx, 3)) (hq : pc + 3 = q) (hl : Cond.methodLink own idx y ∈ WT) (hm : MV y cy nL ry 2) (hv : RV o ci) (hC : RR ci = y.cls) (hc : CQ y cy nL ry f2 l2 K (.ref o :: [a1, a2]) m (fun r1 m1 => r1 = none ∧ Q1 m1)) (hw : (st.map fun v => v.category).sum ≤ 8) (hR : f2 + 1 ≤ fr ∧ 8 + (nL + 11) + l2 ≤ lo) (kk : ∀ m1, Q1 m1 → XX own cc mL rt fr lo K q ls (st) m1 Q) : XX own cc mL rt fr lo K pc ls (a2 :: a1 :: .ref o :: st) m Q :=
  x_callV (as := [a1, a2]) hd hq hl hm hv hC hc rfl rfl hw hR (fun r m1 h => by obtain ⟨rfl, h⟩ := h; exact kk m1 h)
theorem x_callV3i {a1 a2 a3 : Value} {v : Value} {o ci : Nat} {Q1 : TM → Prop} {y : MethodName} {cy : ByteArray} {nL idx f2 l2 : Nat} {ry : Option FieldType} (hd : decode cc pc = .ok (.invokevirtual idx, 3)) (hq : pc + 3 = q) (hl : Cond.methodLink own idx y ∈ WT) (hm : MV y cy nL ry 3) (hv : RV o ci) (hC : RR ci = y.cls) (hc : CQ y cy nL ry f2 l2 K (.ref o :: [a1, a2, a3]) m (fun r1 m1 => r1 = some v ∧ Q1 m1)) (hw : (st.map fun v => v.category).sum ≤ 8) (hR : f2 + 1 ≤ fr ∧ 8 + (nL + 11) + l2 ≤ lo) (kk : ∀ m1, Q1 m1 → XX own cc mL rt fr lo K q ls (v :: st) m1 Q) : XX own cc mL rt fr lo K pc ls (a3 :: a2 :: a1 :: .ref o :: st) m Q :=
  x_callV (as := [a1, a2, a3]) hd hq hl hm hv hC hc rfl rfl hw hR (fun r m1 h => by obtain ⟨rfl, h⟩ := h; exact kk m1 h)
theorem x_callV3u {a1 a2 a3 : Value} {o ci : Nat} {Q1 : TM → Prop} {y : MethodName} {cy : ByteArray} {nL idx f2 l2 : Nat} {ry : Option FieldType} (hd : decode cc pc = .ok (.invokevirtual idx, 3)) (hq : pc + 3 = q) (hl : Cond.methodLink own idx y ∈ WT) (hm : MV y cy nL ry 3) (hv : RV o ci) (hC : RR ci = y.cls) (hc : CQ y cy nL ry f2 l2 K (.ref o :: [a1, a2, a3]) m (fun r1 m1 => r1 = none ∧ Q1 m1)) (hw : (st.map fun v => v.category).sum ≤ 8) (hR : f2 + 1 ≤ fr ∧ 8 + (nL + 11) + l2 ≤ lo) (kk : ∀ m1, Q1 m1 → XX own cc mL rt fr lo K q ls (st) m1 Q) : XX own cc mL rt fr lo K pc ls (a3 :: a2 :: a1 :: .ref o :: st) m Q :=
  x_callV (as := [a1, a2, a3]) hd hq hl hm hv hC hc rfl rfl hw hR (fun r m1 h => by obtain ⟨rfl, h⟩ := h; exact kk m1 h)
theorem x_callV4i {a1 a2 a3 a4 : Value} {v : Value} {o ci : Nat} {Q1 : TM → Prop} {y : MethodName} {cy : ByteArray} {nL idx f2 l2 : Nat} {ry : Option FieldType} (hd : decode cc pc = .ok (.invokevirtual idx, 3)) (hq : pc + 3 = q) (hl : Cond.methodLink own idx y ∈ WT) (hm : MV y cy nL ry 4) (hv : RV o ci) (hC : RR ci = y.cls) (hc : CQ y cy nL ry f2 l2 K (.ref o :: [a1, a2, a3, a4]) m (fun r1 m1 => r1 = some v ∧ Q1 m1)) (hw : (st.map fun v => v.category).sum ≤ 8) (hR : f2 + 1 ≤ fr ∧ 8 + (nL + 11) + l2 ≤ lo) (kk : ∀ m1, Q1 m1 → XX own cc mL rt fr lo K q ls (v :: st) m1 Q) : XX own cc mL rt fr lo K pc ls (a4 :: a3 :: a2 :: a1 :: .ref o :: st) m Q :=
  x_callV (as := [a1, a2, a3, a4]) hd hq hl hm hv hC hc rfl rfl hw hR (fun r m1 h => by obtain ⟨rfl, h⟩ := h; exact kk m1 h)
theorem x_callV4u {a1 a2 a3 a4 : Value} {o ci : Nat} {Q1 : TM → Prop} {y : MethodName} {cy : ByteArray} {nL idx f2 l2 : Nat} {ry : Option FieldType} (hd : decode cc pc = .ok (.invokevirtual idx, 3)) (hq : pc + 3 = q) (hl : Cond.methodLink own idx y ∈ WT) (hm : MV y cy nL ry 4) (hv : RV o ci) (hC : RR ci = y.cls) (hc : CQ y cy nL ry f2 l2 K (.ref o :: [a1, a2, a3, a4]) m (fun r1 m1 => r1 = none ∧ Q1 m1)) (hw : (st.map fun v => v.category).sum ≤ 8) (hR : f2 + 1 ≤ fr ∧ 8 + (nL + 11) + l2 ≤ lo) (kk : ∀ m1, Q1 m1 → XX own cc mL rt fr lo K q ls (st) m1 Q) : XX own cc mL rt fr lo K pc ls (a4 :: a3 :: a2 :: a1 :: .ref o :: st) m Q :=
  x_callV (as := [a1, a2, a3, a4]) hd hq hl hm hv hC hc rfl rfl hw hR (fun r m1 h => by obtain ⟨rfl, h⟩ := h; exact kk m1 h)
end CQI
abbrev Rd : Type := Bool × (Nat → Int32) × Nat
def andT (r : Rd) (k : (Nat → Int32) → Nat → Rd) : Rd := if r.1 = true then k r.2.1 r.2.2 else r
def nuF (L : Nat) (w : Nat → Int32) (j a b : Nat) : Bool := decide (soF L w j = 2 ∧ a ≤ nvF L w j ∧ nvF L w j ≤ b)
/-- perhaps a word and its number -/
def pF (L : Nat) (w : Nat → Int32) (n f wi a b : Nat) (s : Nat → Int32) (j : Nat) : Rd :=
  if isW L w j wi = true then (if nuF L w (nxF L w j) a b = true then (true, upd s (12 + 7 * n + f) (nI (nvF L w (nxF L w j))), nxF L w (nxF L w j)) else (false, s, nxF L w j)) else (true, s, j)
def hlF (L : Nat) (w : Nat → Int32) (n : Nat) (s : Nat → Int32) (j : Nat) : Rd := if isW L w j 12 = true then (true, upd s (12 + 7 * n + 5) 1, nxF L w j) else (true, s, j)
def pcF (L : Nat) (w : Nat → Int32) (n c : Nat) (s : Nat → Int32) (j : Nat) : Rd :=
  andT (pF L w n 1 9 0 20 (upd (newF s n (nI c)) 1 (nI (n + 1))) (nxF L w j)) (fun s j => andT (pF L w n 2 10 1 99 s j) (fun s j => andT (pF L w n 3 11 0 999 s j) (fun s j => hlF L w n s j)))
def tdR (L : Nat) (w : Nat → Int32) (s : Nat → Int32) (j : Nat) : Rd :=
  if nuF L w j 0 5 = true then (if nuF L w (nxF L w j) 0 20 = true then (true, upd s (6 + nvF L w j) (nI (nvF L w (nxF L w j))), nxF L w (nxF L w j)) else (false, s, nxF L w j)) else (false, s, j)
def smR (L : Nat) (w : Nat → Int32) (s : Nat → Int32) (j : Nat) : Rd :=
  if nuF L w j 0 9 = true then (true, upd s 5 (nI (nvF L w j)), nxF L w j) else (false, s, j)
def kdF (L : Nat) (w : Nat → Int32) (j : Nat) : Nat → Nat → Option Nat
  | 0, _ => none
  | f + 1, c => if isW L w j (wdN (nI c)) = true then some c else kdF L w j f (c + 1)
def kdR (L : Nat) (w : Nat → Int32) (s : Nat → Int32) (j : Nat) (r : Option Nat) : Rd := match r with
  | some c => if cl (s 1) = 8 then (false, s, j) else pcF L w (cl (s 1)) c s j
  | none => (false, s, j)
def itF (L : Nat) (w : Nat → Int32) (s : Nat → Int32) (j : Nat) : Rd :=
  if isW L w j 0 = true then tdR L w s (nxF L w j) else if isW L w j 1 = true then smR L w s (nxF L w j) else kdR L w s j (kdF L w j 7 0)
/-- the whole text: whether it is good, how many items (or where it ended), the row -/
def tlF (L : Nat) (w : Nat → Int32) : Nat → Nat → (Nat → Int32) → Nat → Bool × Nat × (Nat → Int32)
  | 0, _, s, j => (false, j, s)
  | f + 1, i, s, j => let r := itF L w s j
    if r.1 = true then (if soF L w r.2.2 = 0 then (true, i, r.2.1) else if soF L w r.2.2 = 3 then tlF L w f (i + 1) r.2.1 (nxF L w r.2.2) else (false, r.2.2, r.2.1)) else (false, r.2.2, r.2.1)
theorem wd_lt (x : Int32) : wdN x < 13 := by
  unfold wdN
  repeat' split
  all_goals decide
theorem num_eq {L j a b : Nat} {w g : Nat → Int32} (hT : TS L w j g) (ha : a ≤ 1000) (hb : b ≤ 1000) : (decide (g 2 = 2) && !decide (g 5 < nI a) && !decide (nI b < g 5)) = nuF L w j a b := by
  have hv := nvF_le (L := L) (w := w) (j := j)
  unfold nuF
  rw [hT.2.1]
  by_cases h : soF L w j = 2
  · rw [hT.2.2.2.2 h, decide_eq_true h]
    have e1 : (nI (nvF L w j) < nI a) ↔ nvF L w j < a := jnI_lt (by omega) (by omega)
    have e2 : (nI b < nI (nvF L w j)) ↔ b < nvF L w j := jnI_lt (by omega) (by omega)
    rw [decide_eq_decide.mpr e1, decide_eq_decide.mpr e2]
    by_cases h1 : nvF L w j < a
    · rw [decide_eq_true h1, decide_eq_false (fun q => by omega : ¬ (soF L w j = 2 ∧ a ≤ nvF L w j ∧ nvF L w j ≤ b))]
      rfl
    · by_cases h2 : b < nvF L w j
      · rw [decide_eq_false h1, decide_eq_true h2, decide_eq_false (fun q => by omega : ¬ (soF L w j = 2 ∧ a ≤ nvF L w j ∧ nvF L w j ≤ b))]
        rfl
      · rw [decide_eq_false h1, decide_eq_false h2, decide_eq_true ⟨h, by omega, by omega⟩]
        rfl
  · rw [decide_eq_false h, decide_eq_false (fun q => h q.1 : ¬ (soF L w j = 2 ∧ a ≤ nvF L w j ∧ nvF L w j ≤ b))]
    rfl
theorem nu_so {L j a b : Nat} {w : Nat → Int32} (h : nuF L w j a b = true) : soF L w j = 2 ∧ a ≤ nvF L w j ∧ nvF L w j ≤ b := of_decide_eq_true h
theorem isW_so {L j k : Nat} {w : Nat → Int32} (h : isW L w j k = true) : soF L w j = 1 := (of_decide_eq_true h).1
theorem andT_t {r : Rd} {k : (Nat → Int32) → Nat → Rd} (h : r.1 = true) : andT r k = k r.2.1 r.2.2 := if_pos h
theorem andT_f {r : Rd} {k : (Nat → Int32) → Nat → Rd} (h : r.1 = false) : andT r k = r := if_neg (by rw [h]; decide)
theorem c_X3_isNumberM {K : Cx} {L j a b : Nat} {g s : Nat → Int32} {m : TM} (hT : TS L (m.1 38) j g) (ha : a ≤ 1000) (hb : b ≤ 1000) : CT yX3_isNumber cX3_isNumber 3 (some .boolean) 0 0 K [.ref 37, .int (nI a), .int (nI b)] (sr (sr m 37 g) 13 (s)) (some (.int (bI (nuF L (m.1 38) j a b)))) (sr (sr m 37 g) 13 (s)) := by
  have h := c_X3_isNumber (K := K) (a := nI a) (b := nI b) (m := sr (sr m 37 g) 13 (s))
  rw [mm37, num_eq hT ha hb] at h
  exact h
theorem dX3_passes_0 : decode cX3_passes 0 = .ok (.aload_n 0, 1) := by decide +kernel
theorem dX3_passes_1 : decode cX3_passes 1 = .ok (.aload_n 1, 1) := by decide +kernel
theorem dX3_passes_2 : decode cX3_passes 2 = .ok (.invokevirtual 56, 3) := by decide +kernel
theorem dX3_passes_5 : decode cX3_passes 5 = .ok (.ifCond .ne 5, 3) := by decide +kernel
theorem dX3_passes_8 : decode cX3_passes 8 = .ok (.iconst 0, 1) := by decide +kernel
theorem dX3_passes_9 : decode cX3_passes 9 = .ok (.ireturn, 1) := by decide +kernel
theorem dX3_passes_10 : decode cX3_passes 10 = .ok (.aload_n 0, 1) := by decide +kernel
theorem dX3_passes_11 : decode cX3_passes 11 = .ok (.invokevirtual 31, 3) := by decide +kernel
theorem dX3_passes_14 : decode cX3_passes 14 = .ok (.iconst 1, 1) := by decide +kernel
theorem dX3_passes_15 : decode cX3_passes 15 = .ok (.ireturn, 1) := by decide +kernel
set_option maxRecDepth 20000 in
set_option maxHeartbeats 4000000 in
theorem c_X3_passes {K : Cx} {L j k : Nat} {g s : Nat → Int32} {m : TM} (hT : TS L (m.1 38) j g) (hL2 : L ≤ 120) (hj : j ≤ L) (hk : k < 13) : CQ yX3_passes cX3_passes 2 (some .boolean) 5 107 K [.ref 37, .ref (100 + k)] (sr (sr m 37 g) 13 s) (fun r1 m1 => r1 = some (.int (bI (isW L (m.1 38) j k))) ∧ ∃ g1, TS L (m.1 38) (if isW L (m.1 38) j k = true then nxF L (m.1 38) j else j) g1 ∧ m1 = sr (sr m 37 g1) 13 s) := by
  refine ct_ofq (n := 0) (by decide +kernel) rfl rfl ?_
  show XX RX3 cX3_passes 2 (some .boolean) 5 107 K 0 [some (.ref 37), some (.ref (100 + k))] [] (sr (sr m 37 g) 13 s) (fun r1 m1 => r1 = some (.int (bI (isW L (m.1 38) j k))) ∧ ∃ g1, TS L (m.1 38) (if isW L (m.1 38) j k = true then nxF L (m.1 38) j else j) g1 ∧ m1 = sr (sr m 37 g1) 13 s)
  refine x_aload_n (q := 1) dX3_passes_0 rfl rfl ?_
  refine x_aload_n (q := 2) dX3_passes_1 rfl rfl ?_
  refine x_callV1v (q := 5) dX3_passes_2 rfl ml_X3_56 mv_X3_isWord rv3 rfl (c_X3_isWord hT hL2 hj hk) (Nat.le_of_ble_eq_true rfl) ⟨by decide, by decide⟩ ?_
  refine x_ifB_ne (q := 8) (t := 10) dX3_passes_5 rfl (by decide) (fun h5 => ?_) (fun h5 => ?_)
  · refine x_aload_n (q := 11) dX3_passes_10 rfl rfl ?_
    refine x_callV0u (q := 14) dX3_passes_11 rfl ml_X3_31 mv_X3_step rv3 rfl (c_X3_stepM hT hL2 hj) (Nat.le_of_ble_eq_true rfl) ⟨by decide, by decide⟩ (fun m9 h9 => ?_)
    obtain ⟨g11, T11, rfl⟩ := h9
    refine x_iconst (q := 15) (v := 1) dX3_passes_14 rfl (by decide) ?_
    refine x_ireturn dX3_passes_15 rfl (by decide) ?_
    exact ⟨by rw [h5]; rfl, g11, by rw [if_pos h5]; exact T11, rfl⟩
  refine x_iconst (q := 9) (v := 0) dX3_passes_8 rfl (by decide) ?_
  refine x_ireturn dX3_passes_9 rfl (by decide) ?_
  exact ⟨by rw [h5]; rfl, g, by rw [if_neg (by rw [h5]; decide)]; exact hT, rfl⟩
theorem dX3_tellPart_0 : decode cX3_tellPart 0 = .ok (.aload_n 0, 1) := by decide +kernel
theorem dX3_tellPart_1 : decode cX3_tellPart 1 = .ok (.aload_n 2, 1) := by decide +kernel
theorem dX3_tellPart_2 : decode cX3_tellPart 2 = .ok (.invokevirtual 40, 3) := by decide +kernel
theorem dX3_tellPart_5 : decode cX3_tellPart 5 = .ok (.ifCond .ne 5, 3) := by decide +kernel
theorem dX3_tellPart_8 : decode cX3_tellPart 8 = .ok (.iconst 1, 1) := by decide +kernel
theorem dX3_tellPart_9 : decode cX3_tellPart 9 = .ok (.ireturn, 1) := by decide +kernel
theorem dX3_tellPart_10 : decode cX3_tellPart 10 = .ok (.aload_n 0, 1) := by decide +kernel
theorem dX3_tellPart_11 : decode cX3_tellPart 11 = .ok (.iload_n 3, 1) := by decide +kernel
theorem dX3_tellPart_12 : decode cX3_tellPart 12 = .ok (.invokestatic 95, 3) := by decide +kernel
theorem dX3_tellPart_15 : decode cX3_tellPart 15 = .ok (.iload 4, 2) := by decide +kernel
theorem dX3_tellPart_17 : decode cX3_tellPart 17 = .ok (.invokevirtual 63, 3) := by decide +kernel
theorem dX3_tellPart_20 : decode cX3_tellPart 20 = .ok (.ifCond .ne 5, 3) := by decide +kernel
theorem dX3_tellPart_23 : decode cX3_tellPart 23 = .ok (.iconst 0, 1) := by decide +kernel
theorem dX3_tellPart_24 : decode cX3_tellPart 24 = .ok (.ireturn, 1) := by decide +kernel
theorem dX3_tellPart_25 : decode cX3_tellPart 25 = .ok (.aload_n 1, 1) := by decide +kernel
theorem dX3_tellPart_26 : decode cX3_tellPart 26 = .ok (.iload_n 3, 1) := by decide +kernel
theorem dX3_tellPart_27 : decode cX3_tellPart 27 = .ok (.aload_n 0, 1) := by decide +kernel
theorem dX3_tellPart_28 : decode cX3_tellPart 28 = .ok (.getfield 28, 3) := by decide +kernel
theorem dX3_tellPart_31 : decode cX3_tellPart 31 = .ok (.invokevirtual 99, 3) := by decide +kernel
theorem dX3_tellPart_34 : decode cX3_tellPart 34 = .ok (.aload_n 0, 1) := by decide +kernel
theorem dX3_tellPart_35 : decode cX3_tellPart 35 = .ok (.invokevirtual 31, 3) := by decide +kernel
theorem dX3_tellPart_38 : decode cX3_tellPart 38 = .ok (.iconst 1, 1) := by decide +kernel
theorem dX3_tellPart_39 : decode cX3_tellPart 39 = .ok (.ireturn, 1) := by decide +kernel
set_option maxRecDepth 20000 in
set_option maxHeartbeats 4000000 in
theorem c_X3_tellPart {K : Cx} {L j k f wi a b : Nat} {g s : Nat → Int32} {m : TM} (hT : TS L (m.1 38) j g) (hL2 : L ≤ 120) (hj : j ≤ L) (hk8 : k < 8) (hf : f < 7) (hwi : wi < 13) (hlo : lst (nI f) = nI a) (ha : a ≤ 1000) (hb : b ≤ 1000) : CQ yX3_tellPart cX3_tellPart 5 (some .boolean) 6 128 K [.ref 37, .ref (13 + 4 + k), .ref (100 + wi), .int (nI f), .int (nI b)] (sr (sr m 37 g) 13 s) (fun r1 m1 => r1 = some (.int (bI ((pF L (m.1 38) k f wi a b s j).1))) ∧ ∃ g1, TS L (m.1 38) ((pF L (m.1 38) k f wi a b s j).2.2) g1 ∧ m1 = sr (sr m 37 g1) 13 ((pF L (m.1 38) k f wi a b s j).2.1)) := by
  refine ct_ofq (n := 0) (by decide +kernel) rfl rfl ?_
  show XX RX3 cX3_tellPart 5 (some .boolean) 6 128 K 0 [some (.ref 37), some (.ref (13 + 4 + k)), some (.ref (100 + wi)), some (.int (nI f)), some (.int (nI b))] [] (sr (sr m 37 g) 13 s) (fun r1 m1 => r1 = some (.int (bI ((pF L (m.1 38) k f wi a b s j).1))) ∧ ∃ g1, TS L (m.1 38) ((pF L (m.1 38) k f wi a b s j).2.2) g1 ∧ m1 = sr (sr m 37 g1) 13 ((pF L (m.1 38) k f wi a b s j).2.1))
  have hnj := (nxF_le (w := m.1 38) hj).2
  have hnj2 := (nxF_le (w := m.1 38) hnj).2
  refine x_aload_n (q := 1) dX3_tellPart_0 rfl rfl ?_
  refine x_aload_n (q := 2) dX3_tellPart_1 rfl rfl ?_
  refine x_callV1i (q := 5) dX3_tellPart_2 rfl ml_X3_40 mv_X3_passes rv3 rfl (c_X3_passes hT hL2 hj hwi) (Nat.le_of_ble_eq_true rfl) ⟨by decide, by decide⟩ (fun m9 h9 => ?_)
  obtain ⟨g2, T2, rfl⟩ := h9
  refine x_ifB_ne (q := 8) (t := 10) dX3_tellPart_5 rfl (by decide) (fun h5 => ?_) (fun h5 => ?_)
  · rw [if_pos h5] at T2
    refine x_aload_n (q := 11) dX3_tellPart_10 rfl rfl ?_
    refine x_iload_n (q := 12) dX3_tellPart_11 rfl rfl ?_
    refine x_callS1v (q := 15) dX3_tellPart_12 rfl ml_X3_95 ms_X1_least c_X1_least (Nat.le_of_ble_eq_true rfl) ⟨by decide, by decide⟩ ?_
    rw [hlo]
    refine x_iload (q := 17) dX3_tellPart_15 rfl rfl ?_
    refine x_callV2v (q := 20) dX3_tellPart_17 rfl ml_X3_63 mv_X3_isNumber rv3 rfl (c_X3_isNumberM T2 ha hb) (Nat.le_of_ble_eq_true rfl) ⟨by decide, by decide⟩ ?_
    refine x_ifB_ne (q := 23) (t := 25) dX3_tellPart_20 rfl (by decide) (fun h20 => ?_) (fun h20 => ?_)
    · refine x_aload_n (q := 26) dX3_tellPart_25 rfl rfl ?_
      refine x_iload_n (q := 27) dX3_tellPart_26 rfl rfl ?_
      refine x_aload_n (q := 28) dX3_tellPart_27 rfl rfl ?_
      refine x_getI (q := 31) dX3_tellPart_28 rfl fl_X3_28 (ob3_value) ?_
      rw [mm37, T2.2.2.2.2 (nu_so h20).1]
      refine x_callV2n (q := 34) dX3_tellPart_31 rfl ml_X3_99 mv_X1_put (rv1 isC_13 hk8) rfl (c_X1_put isC_13 hk8) (Nat.le_of_ble_eq_true rfl) ⟨by decide, by decide⟩ ?_
      rw [ptF_get f hf]
      refine x_aload_n (q := 35) dX3_tellPart_34 rfl rfl ?_
      refine x_callV0u (q := 38) dX3_tellPart_35 rfl ml_X3_31 mv_X3_step rv3 rfl (c_X3_stepM T2 hL2 hnj) (Nat.le_of_ble_eq_true rfl) ⟨by decide, by decide⟩ (fun m9 h9 => ?_)
      obtain ⟨g35, T35, rfl⟩ := h9
      refine x_iconst (q := 39) (v := 1) dX3_tellPart_38 rfl (by decide) ?_
      refine x_ireturn dX3_tellPart_39 rfl (by decide) ?_
      have e : pF L (m.1 38) k f wi a b s j = (true, upd s (12 + 7 * k + f) (nI (nvF L (m.1 38) (nxF L (m.1 38) (j)))), nxF L (m.1 38) (nxF L (m.1 38) (j))) := by unfold pF; rw [if_pos h5, if_pos h20]
      rw [e]
      exact ⟨rfl, g35, T35, rfl⟩
    refine x_iconst (q := 24) (v := 0) dX3_tellPart_23 rfl (by decide) ?_
    refine x_ireturn dX3_tellPart_24 rfl (by decide) ?_
    have e : pF L (m.1 38) k f wi a b s j = (false, s, nxF L (m.1 38) j) := by unfold pF; rw [if_pos h5, if_neg (by rw [h20]; decide)]
    rw [e]
    exact ⟨rfl, g2, T2, rfl⟩
  refine x_iconst (q := 9) (v := 1) dX3_tellPart_8 rfl (by decide) ?_
  refine x_ireturn dX3_tellPart_9 rfl (by decide) ?_
  rw [if_neg (by rw [h5]; decide)] at T2
  have e : pF L (m.1 38) k f wi a b s j = (true, s, j) := by unfold pF; rw [if_neg (by rw [h5]; decide)]
  rw [e]
  exact ⟨rfl, g2, T2, rfl⟩
theorem dX3_tellTide_0 : decode cX3_tellTide 0 = .ok (.aload_n 0, 1) := by decide +kernel
theorem dX3_tellTide_1 : decode cX3_tellTide 1 = .ok (.iconst 0, 1) := by decide +kernel
theorem dX3_tellTide_2 : decode cX3_tellTide 2 = .ok (.iconst 5, 1) := by decide +kernel
theorem dX3_tellTide_3 : decode cX3_tellTide 3 = .ok (.invokevirtual 63, 3) := by decide +kernel
theorem dX3_tellTide_6 : decode cX3_tellTide 6 = .ok (.ifCond .ne 5, 3) := by decide +kernel
theorem dX3_tellTide_9 : decode cX3_tellTide 9 = .ok (.iconst 0, 1) := by decide +kernel
theorem dX3_tellTide_10 : decode cX3_tellTide 10 = .ok (.ireturn, 1) := by decide +kernel
theorem dX3_tellTide_11 : decode cX3_tellTide 11 = .ok (.aload_n 0, 1) := by decide +kernel
theorem dX3_tellTide_12 : decode cX3_tellTide 12 = .ok (.getfield 28, 3) := by decide +kernel
theorem dX3_tellTide_15 : decode cX3_tellTide 15 = .ok (.istore_n 2, 1) := by decide +kernel
theorem dX3_tellTide_16 : decode cX3_tellTide 16 = .ok (.aload_n 0, 1) := by decide +kernel
theorem dX3_tellTide_17 : decode cX3_tellTide 17 = .ok (.invokevirtual 31, 3) := by decide +kernel
theorem dX3_tellTide_20 : decode cX3_tellTide 20 = .ok (.aload_n 0, 1) := by decide +kernel
theorem dX3_tellTide_21 : decode cX3_tellTide 21 = .ok (.iconst 0, 1) := by decide +kernel
theorem dX3_tellTide_22 : decode cX3_tellTide 22 = .ok (.bipush 20, 2) := by decide +kernel
theorem dX3_tellTide_24 : decode cX3_tellTide 24 = .ok (.invokevirtual 63, 3) := by decide +kernel
theorem dX3_tellTide_27 : decode cX3_tellTide 27 = .ok (.ifCond .ne 5, 3) := by decide +kernel
theorem dX3_tellTide_30 : decode cX3_tellTide 30 = .ok (.iconst 0, 1) := by decide +kernel
theorem dX3_tellTide_31 : decode cX3_tellTide 31 = .ok (.ireturn, 1) := by decide +kernel
theorem dX3_tellTide_32 : decode cX3_tellTide 32 = .ok (.aload_n 1, 1) := by decide +kernel
theorem dX3_tellTide_33 : decode cX3_tellTide 33 = .ok (.getfield 67, 3) := by decide +kernel
theorem dX3_tellTide_36 : decode cX3_tellTide 36 = .ok (.iload_n 2, 1) := by decide +kernel
theorem dX3_tellTide_37 : decode cX3_tellTide 37 = .ok (.aload_n 0, 1) := by decide +kernel
theorem dX3_tellTide_38 : decode cX3_tellTide 38 = .ok (.getfield 28, 3) := by decide +kernel
theorem dX3_tellTide_41 : decode cX3_tellTide 41 = .ok (.iastore, 1) := by decide +kernel
theorem dX3_tellTide_42 : decode cX3_tellTide 42 = .ok (.aload_n 0, 1) := by decide +kernel
theorem dX3_tellTide_43 : decode cX3_tellTide 43 = .ok (.invokevirtual 31, 3) := by decide +kernel
theorem dX3_tellTide_46 : decode cX3_tellTide 46 = .ok (.iconst 1, 1) := by decide +kernel
theorem dX3_tellTide_47 : decode cX3_tellTide 47 = .ok (.ireturn, 1) := by decide +kernel
set_option maxRecDepth 20000 in
set_option maxHeartbeats 4000000 in
theorem c_X3_tellTide {K : Cx} {L j : Nat} {g s : Nat → Int32} {m : TM} (hT : TS L (m.1 38) j g) (hL2 : L ≤ 120) (hj : j ≤ L) : CQ yX3_tellTide cX3_tellTide 3 (some .boolean) 2 42 K [.ref 37, .ref 13] (sr (sr m 37 g) 13 s) (fun r1 m1 => r1 = some (.int (bI ((tdR L (m.1 38) s j).1))) ∧ ∃ g1, TS L (m.1 38) ((tdR L (m.1 38) s j).2.2) g1 ∧ m1 = sr (sr m 37 g1) 13 ((tdR L (m.1 38) s j).2.1)) := by
  refine ct_ofq (n := 1) (by decide +kernel) rfl rfl ?_
  show XX RX3 cX3_tellTide 3 (some .boolean) 2 42 K 0 [some (.ref 37), some (.ref 13), none] [] (sr (sr m 37 g) 13 s) (fun r1 m1 => r1 = some (.int (bI ((tdR L (m.1 38) s j).1))) ∧ ∃ g1, TS L (m.1 38) ((tdR L (m.1 38) s j).2.2) g1 ∧ m1 = sr (sr m 37 g1) 13 ((tdR L (m.1 38) s j).2.1))
  have hnj := (nxF_le (w := m.1 38) hj).2
  refine x_aload_n (q := 1) dX3_tellTide_0 rfl rfl ?_
  refine x_iconst (q := 2) (v := 0) dX3_tellTide_1 rfl (by decide) ?_
  refine x_iconst (q := 3) (v := 5) dX3_tellTide_2 rfl (by decide) ?_
  refine x_callV2v (q := 6) dX3_tellTide_3 rfl ml_X3_63 mv_X3_isNumber rv3 rfl (c_X3_isNumberM (a := 0) (b := 5) hT (by decide) (by decide)) (Nat.le_of_ble_eq_true rfl) ⟨by decide, by decide⟩ ?_
  refine x_ifB_ne (q := 9) (t := 11) dX3_tellTide_6 rfl (by decide) (fun h6 => ?_) (fun h6 => ?_)
  · refine x_aload_n (q := 12) dX3_tellTide_11 rfl rfl ?_
    refine x_getI (q := 15) dX3_tellTide_12 rfl fl_X3_28 (ob3_value) ?_
    rw [mm37, hT.2.2.2.2 (nu_so h6).1]
    refine x_istore_n (q := 16) dX3_tellTide_15 rfl (by decide) rfl rfl ?_
    refine x_aload_n (q := 17) dX3_tellTide_16 rfl rfl ?_
    refine x_callV0u (q := 20) dX3_tellTide_17 rfl ml_X3_31 mv_X3_step rv3 rfl (c_X3_stepM hT hL2 hj) (Nat.le_of_ble_eq_true rfl) ⟨by decide, by decide⟩ (fun m9 h9 => ?_)
    obtain ⟨g17, T17, rfl⟩ := h9
    refine x_aload_n (q := 21) dX3_tellTide_20 rfl rfl ?_
    refine x_iconst (q := 22) (v := 0) dX3_tellTide_21 rfl (by decide) ?_
    refine x_bipush (q := 24) (v := 20) dX3_tellTide_22 rfl (by decide) ?_
    refine x_callV2v (q := 27) dX3_tellTide_24 rfl ml_X3_63 mv_X3_isNumber rv3 rfl (c_X3_isNumberM (a := 0) (b := 20) T17 (by decide) (by decide)) (Nat.le_of_ble_eq_true rfl) ⟨by decide, by decide⟩ ?_
    refine x_ifB_ne (q := 30) (t := 32) dX3_tellTide_27 rfl (by decide) (fun h27 => ?_) (fun h27 => ?_)
    · refine x_aload_n (q := 33) dX3_tellTide_32 rfl rfl ?_
      refine x_getR (q := 36) dX3_tellTide_33 rfl fl_X3_67 (or0_list isC_13) ?_
      refine x_iload_n (q := 37) dX3_tellTide_36 rfl rfl ?_
      refine x_aload_n (q := 38) dX3_tellTide_37 rfl rfl ?_
      refine x_getI (q := 41) dX3_tellTide_38 rfl fl_X3_28 (ob3_value) ?_
      rw [mm37, T17.2.2.2.2 (nu_so h27).1]
      have hv5 := (nu_so h6).2.2
      refine x_iastr (q := 42) dX3_tellTide_41 rfl (ar_list isC_13) (ix_nI (n := 6) (k := nvF L (m.1 38) (j)) (by omega) (by decide)) rfl  ?_
      refine x_aload_n (q := 43) dX3_tellTide_42 rfl rfl ?_
      refine x_callV0u (q := 46) dX3_tellTide_43 rfl ml_X3_31 mv_X3_step rv3 rfl (c_X3_stepM T17 hL2 hnj) (Nat.le_of_ble_eq_true rfl) ⟨by decide, by decide⟩ (fun m9 h9 => ?_)
      obtain ⟨g43, T43, rfl⟩ := h9
      refine x_iconst (q := 47) (v := 1) dX3_tellTide_46 rfl (by decide) ?_
      refine x_ireturn dX3_tellTide_47 rfl (by decide) ?_
      have e : tdR L (m.1 38) s j = (true, upd s (6 + nvF L (m.1 38) (j)) (nI (nvF L (m.1 38) (nxF L (m.1 38) (j)))), nxF L (m.1 38) (nxF L (m.1 38) (j))) := by unfold tdR; rw [if_pos h6, if_pos h27]
      rw [e]
      exact ⟨rfl, g43, T43, rfl⟩
    refine x_iconst (q := 31) (v := 0) dX3_tellTide_30 rfl (by decide) ?_
    refine x_ireturn dX3_tellTide_31 rfl (by decide) ?_
    have e : tdR L (m.1 38) s j = (false, s, nxF L (m.1 38) (j)) := by unfold tdR; rw [if_pos h6, if_neg (by rw [h27]; decide)]
    rw [e]
    exact ⟨rfl, g17, T17, rfl⟩
  refine x_iconst (q := 10) (v := 0) dX3_tellTide_9 rfl (by decide) ?_
  refine x_ireturn dX3_tellTide_10 rfl (by decide) ?_
  have e : tdR L (m.1 38) s j = (false, s, j) := by unfold tdR; rw [if_neg (by rw [h6]; decide)]
  rw [e]
  exact ⟨rfl, g, hT, rfl⟩
theorem dX3_tellStorm_0 : decode cX3_tellStorm 0 = .ok (.aload_n 0, 1) := by decide +kernel
theorem dX3_tellStorm_1 : decode cX3_tellStorm 1 = .ok (.iconst 0, 1) := by decide +kernel
theorem dX3_tellStorm_2 : decode cX3_tellStorm 2 = .ok (.bipush 9, 2) := by decide +kernel
theorem dX3_tellStorm_4 : decode cX3_tellStorm 4 = .ok (.invokevirtual 63, 3) := by decide +kernel
theorem dX3_tellStorm_7 : decode cX3_tellStorm 7 = .ok (.ifCond .ne 5, 3) := by decide +kernel
theorem dX3_tellStorm_10 : decode cX3_tellStorm 10 = .ok (.iconst 0, 1) := by decide +kernel
theorem dX3_tellStorm_11 : decode cX3_tellStorm 11 = .ok (.ireturn, 1) := by decide +kernel
theorem dX3_tellStorm_12 : decode cX3_tellStorm 12 = .ok (.aload_n 1, 1) := by decide +kernel
theorem dX3_tellStorm_13 : decode cX3_tellStorm 13 = .ok (.aload_n 0, 1) := by decide +kernel
theorem dX3_tellStorm_14 : decode cX3_tellStorm 14 = .ok (.getfield 28, 3) := by decide +kernel
theorem dX3_tellStorm_17 : decode cX3_tellStorm 17 = .ok (.putfield 73, 3) := by decide +kernel
theorem dX3_tellStorm_20 : decode cX3_tellStorm 20 = .ok (.aload_n 0, 1) := by decide +kernel
theorem dX3_tellStorm_21 : decode cX3_tellStorm 21 = .ok (.invokevirtual 31, 3) := by decide +kernel
theorem dX3_tellStorm_24 : decode cX3_tellStorm 24 = .ok (.iconst 1, 1) := by decide +kernel
theorem dX3_tellStorm_25 : decode cX3_tellStorm 25 = .ok (.ireturn, 1) := by decide +kernel
set_option maxRecDepth 20000 in
set_option maxHeartbeats 4000000 in
theorem c_X3_tellStorm {K : Cx} {L j : Nat} {g s : Nat → Int32} {m : TM} (hT : TS L (m.1 38) j g) (hL2 : L ≤ 120) (hj : j ≤ L) : CQ yX3_tellStorm cX3_tellStorm 2 (some .boolean) 2 42 K [.ref 37, .ref 13] (sr (sr m 37 g) 13 s) (fun r1 m1 => r1 = some (.int (bI ((smR L (m.1 38) s j).1))) ∧ ∃ g1, TS L (m.1 38) ((smR L (m.1 38) s j).2.2) g1 ∧ m1 = sr (sr m 37 g1) 13 ((smR L (m.1 38) s j).2.1)) := by
  refine ct_ofq (n := 0) (by decide +kernel) rfl rfl ?_
  show XX RX3 cX3_tellStorm 2 (some .boolean) 2 42 K 0 [some (.ref 37), some (.ref 13)] [] (sr (sr m 37 g) 13 s) (fun r1 m1 => r1 = some (.int (bI ((smR L (m.1 38) s j).1))) ∧ ∃ g1, TS L (m.1 38) ((smR L (m.1 38) s j).2.2) g1 ∧ m1 = sr (sr m 37 g1) 13 ((smR L (m.1 38) s j).2.1))
  refine x_aload_n (q := 1) dX3_tellStorm_0 rfl rfl ?_
  refine x_iconst (q := 2) (v := 0) dX3_tellStorm_1 rfl (by decide) ?_
  refine x_bipush (q := 4) (v := 9) dX3_tellStorm_2 rfl (by decide) ?_
  refine x_callV2v (q := 7) dX3_tellStorm_4 rfl ml_X3_63 mv_X3_isNumber rv3 rfl (c_X3_isNumberM (a := 0) (b := 9) hT (by decide) (by decide)) (Nat.le_of_ble_eq_true rfl) ⟨by decide, by decide⟩ ?_
  refine x_ifB_ne (q := 10) (t := 12) dX3_tellStorm_7 rfl (by decide) (fun h7 => ?_) (fun h7 => ?_)
  · refine x_aload_n (q := 13) dX3_tellStorm_12 rfl rfl ?_
    refine x_aload_n (q := 14) dX3_tellStorm_13 rfl rfl ?_
    refine x_getI (q := 17) dX3_tellStorm_14 rfl fl_X3_28 (ob3_value) ?_
    rw [mm37, hT.2.2.2.2 (nu_so h7).1]
    refine x_putIr (q := 20) dX3_tellStorm_17 rfl fl_X3_73 (ob0_storm isC_13) rfl rfl rfl  ?_
    refine x_aload_n (q := 21) dX3_tellStorm_20 rfl rfl ?_
    refine x_callV0u (q := 24) dX3_tellStorm_21 rfl ml_X3_31 mv_X3_step rv3 rfl (c_X3_stepM hT hL2 hj) (Nat.le_of_ble_eq_true rfl) ⟨by decide, by decide⟩ (fun m9 h9 => ?_)
    obtain ⟨g21, T21, rfl⟩ := h9
    refine x_iconst (q := 25) (v := 1) dX3_tellStorm_24 rfl (by decide) ?_
    refine x_ireturn dX3_tellStorm_25 rfl (by decide) ?_
    have e : smR L (m.1 38) s j = (true, upd s 5 (nI (nvF L (m.1 38) (j))), nxF L (m.1 38) (j)) := by unfold smR; rw [if_pos h7]
    rw [e]
    exact ⟨rfl, g21, T21, rfl⟩
  refine x_iconst (q := 11) (v := 0) dX3_tellStorm_10 rfl (by decide) ?_
  refine x_ireturn dX3_tellStorm_11 rfl (by decide) ?_
  have e : smR L (m.1 38) s j = (false, s, j) := by unfold smR; rw [if_neg (by rw [h7]; decide)]
  rw [e]
  exact ⟨rfl, g, hT, rfl⟩
theorem dX3_tellParcel_0 : decode cX3_tellParcel 0 = .ok (.aload_n 1, 1) := by decide +kernel
theorem dX3_tellParcel_1 : decode cX3_tellParcel 1 = .ok (.iload_n 2, 1) := by decide +kernel
theorem dX3_tellParcel_2 : decode cX3_tellParcel 2 = .ok (.invokevirtual 75, 3) := by decide +kernel
theorem dX3_tellParcel_5 : decode cX3_tellParcel 5 = .ok (.astore_n 3, 1) := by decide +kernel
theorem dX3_tellParcel_6 : decode cX3_tellParcel 6 = .ok (.aload_n 3, 1) := by decide +kernel
theorem dX3_tellParcel_7 : decode cX3_tellParcel 7 = .ok (.ifnonnull 5, 3) := by decide +kernel
theorem dX3_tellParcel_10 : decode cX3_tellParcel 10 = .ok (.iconst 0, 1) := by decide +kernel
theorem dX3_tellParcel_11 : decode cX3_tellParcel 11 = .ok (.ireturn, 1) := by decide +kernel
theorem dX3_tellParcel_12 : decode cX3_tellParcel 12 = .ok (.aload_n 0, 1) := by decide +kernel
theorem dX3_tellParcel_13 : decode cX3_tellParcel 13 = .ok (.invokevirtual 31, 3) := by decide +kernel
theorem dX3_tellParcel_16 : decode cX3_tellParcel 16 = .ok (.aload_n 0, 1) := by decide +kernel
theorem dX3_tellParcel_17 : decode cX3_tellParcel 17 = .ok (.aload_n 3, 1) := by decide +kernel
theorem dX3_tellParcel_18 : decode cX3_tellParcel 18 = .ok (.ldc 79, 2) := by decide +kernel
theorem dX3_tellParcel_20 : decode cX3_tellParcel 20 = .ok (.iconst 1, 1) := by decide +kernel
theorem dX3_tellParcel_21 : decode cX3_tellParcel 21 = .ok (.bipush 20, 2) := by decide +kernel
theorem dX3_tellParcel_23 : decode cX3_tellParcel 23 = .ok (.invokevirtual 81, 3) := by decide +kernel
theorem dX3_tellParcel_26 : decode cX3_tellParcel 26 = .ok (.ifCond .eq 30, 3) := by decide +kernel
theorem dX3_tellParcel_29 : decode cX3_tellParcel 29 = .ok (.aload_n 0, 1) := by decide +kernel
theorem dX3_tellParcel_30 : decode cX3_tellParcel 30 = .ok (.aload_n 3, 1) := by decide +kernel
theorem dX3_tellParcel_31 : decode cX3_tellParcel 31 = .ok (.ldc 85, 2) := by decide +kernel
theorem dX3_tellParcel_33 : decode cX3_tellParcel 33 = .ok (.iconst 2, 1) := by decide +kernel
theorem dX3_tellParcel_34 : decode cX3_tellParcel 34 = .ok (.bipush 99, 2) := by decide +kernel
theorem dX3_tellParcel_36 : decode cX3_tellParcel 36 = .ok (.invokevirtual 81, 3) := by decide +kernel
theorem dX3_tellParcel_39 : decode cX3_tellParcel 39 = .ok (.ifCond .eq 17, 3) := by decide +kernel
theorem dX3_tellParcel_42 : decode cX3_tellParcel 42 = .ok (.aload_n 0, 1) := by decide +kernel
theorem dX3_tellParcel_43 : decode cX3_tellParcel 43 = .ok (.aload_n 3, 1) := by decide +kernel
theorem dX3_tellParcel_44 : decode cX3_tellParcel 44 = .ok (.ldc 87, 2) := by decide +kernel
theorem dX3_tellParcel_46 : decode cX3_tellParcel 46 = .ok (.iconst 3, 1) := by decide +kernel
theorem dX3_tellParcel_47 : decode cX3_tellParcel 47 = .ok (.sipush 999, 3) := by decide +kernel
theorem dX3_tellParcel_50 : decode cX3_tellParcel 50 = .ok (.invokevirtual 81, 3) := by decide +kernel
theorem dX3_tellParcel_53 : decode cX3_tellParcel 53 = .ok (.ifCond .ne 5, 3) := by decide +kernel
theorem dX3_tellParcel_56 : decode cX3_tellParcel 56 = .ok (.iconst 0, 1) := by decide +kernel
theorem dX3_tellParcel_57 : decode cX3_tellParcel 57 = .ok (.ireturn, 1) := by decide +kernel
theorem dX3_tellParcel_58 : decode cX3_tellParcel 58 = .ok (.aload_n 0, 1) := by decide +kernel
theorem dX3_tellParcel_59 : decode cX3_tellParcel 59 = .ok (.ldc 89, 2) := by decide +kernel
theorem dX3_tellParcel_61 : decode cX3_tellParcel 61 = .ok (.invokevirtual 40, 3) := by decide +kernel
theorem dX3_tellParcel_64 : decode cX3_tellParcel 64 = .ok (.ifCond .eq 8, 3) := by decide +kernel
theorem dX3_tellParcel_67 : decode cX3_tellParcel 67 = .ok (.aload_n 3, 1) := by decide +kernel
theorem dX3_tellParcel_68 : decode cX3_tellParcel 68 = .ok (.iconst 1, 1) := by decide +kernel
theorem dX3_tellParcel_69 : decode cX3_tellParcel 69 = .ok (.putfield 91, 3) := by decide +kernel
theorem dX3_tellParcel_72 : decode cX3_tellParcel 72 = .ok (.iconst 1, 1) := by decide +kernel
theorem dX3_tellParcel_73 : decode cX3_tellParcel 73 = .ok (.ireturn, 1) := by decide +kernel
set_option maxRecDepth 20000 in
set_option maxHeartbeats 4000000 in
theorem c_X3_tellParcelN {K : Cx} {c : Nat} {s : Nat → Int32} {m : TM} (hn : s 1 = nI 8) : CT yX3_tellParcel cX3_tellParcel 4 (some .boolean) 7 152 K [.ref 37, .ref 13, .int (nI c)] (sr m 13 s) (some (.int (bI false))) (sr m 13 s) := by
  refine ct_ofd (n := 1) (by decide +kernel) rfl rfl ?_
  show XX RX3 cX3_tellParcel 4 (some .boolean) 7 152 K 0 [some (.ref 37), some (.ref 13), some (.int (nI c)), none] [] (sr m 13 s) (fun r1 m1 => r1 = (some (.int (bI false))) ∧ m1 = sr m 13 s)
  refine x_aload_n (q := 1) dX3_tellParcel_0 rfl rfl ?_
  refine x_iload_n (q := 2) dX3_tellParcel_1 rfl rfl ?_
  refine x_callV1v (q := 5) dX3_tellParcel_2 rfl ml_X3_75 mv_X0_lay (rv0 isC_13) rfl (c_X0_layN isC_13 hn) (Nat.le_of_ble_eq_true rfl) ⟨by decide, by decide⟩ ?_
  refine x_astore_nN (q := 6) dX3_tellParcel_5 rfl (by decide) rfl rfl ?_
  refine x_aload_nN (q := 7) dX3_tellParcel_6 rfl rfl ?_
  refine x_ifnonnullN (q := 10) dX3_tellParcel_7 rfl ?_
  refine x_iconst (q := 11) (v := 0) dX3_tellParcel_10 rfl (by decide) ?_
  refine x_ireturn dX3_tellParcel_11 rfl (by decide) ?_
  exact ⟨rfl, rfl⟩
theorem pF_le {L n f wi a b j : Nat} {w s : Nat → Int32} (hj : j ≤ L) : j ≤ (pF L w n f wi a b s j).2.2 ∧ (pF L w n f wi a b s j).2.2 ≤ L := by
  have h1 := nxF_le (w := w) hj
  have h2 := nxF_le (w := w) h1.2
  unfold pF
  split
  · split
    · exact ⟨by show j ≤ nxF L w (nxF L w j); omega, h2.2⟩
    · exact h1
  · exact ⟨Nat.le_refl _, hj⟩
set_option maxRecDepth 20000 in
set_option maxHeartbeats 4000000 in
theorem c_X3_tellParcel {K : Cx} {L j n8 c : Nat} {g s : Nat → Int32} {m : TM} (hT : TS L (m.1 38) j g) (hL2 : L ≤ 120) (hj : j ≤ L) (hn : s 1 = nI n8) (h8 : n8 < 8) : CQ yX3_tellParcel cX3_tellParcel 4 (some .boolean) 7 152 K [.ref 37, .ref 13, .int (nI c)] (sr (sr m 37 g) 13 s) (fun r1 m1 => r1 = some (.int (bI ((pcF L (m.1 38) n8 c s j).1))) ∧ ∃ g1, TS L (m.1 38) ((pcF L (m.1 38) n8 c s j).2.2) g1 ∧ m1 = sr (sr m 37 g1) 13 ((pcF L (m.1 38) n8 c s j).2.1)) := by
  refine ct_ofq (n := 1) (by decide +kernel) rfl rfl ?_
  show XX RX3 cX3_tellParcel 4 (some .boolean) 7 152 K 0 [some (.ref 37), some (.ref 13), some (.int (nI c)), none] [] (sr (sr m 37 g) 13 s) (fun r1 m1 => r1 = some (.int (bI ((pcF L (m.1 38) n8 c s j).1))) ∧ ∃ g1, TS L (m.1 38) ((pcF L (m.1 38) n8 c s j).2.2) g1 ∧ m1 = sr (sr m 37 g1) 13 ((pcF L (m.1 38) n8 c s j).2.1))
  have hnj := (nxF_le (w := m.1 38) hj).2
  have j1 := (pF_le (n := n8) (f := 1) (wi := 9) (a := 0) (b := 20) (w := m.1 38) (s := (upd (newF s n8 (nI c)) 1 (nI (n8 + 1)))) hnj).2
  have j2 := (pF_le (n := n8) (f := 2) (wi := 10) (a := 1) (b := 99) (w := m.1 38) (s := (pF L (m.1 38) n8 1 9 0 20 (upd (newF s n8 (nI c)) 1 (nI (n8 + 1))) (nxF L (m.1 38) (j))).2.1) j1).2
  have j3 := (pF_le (n := n8) (f := 3) (wi := 11) (a := 0) (b := 999) (w := m.1 38) (s := (pF L (m.1 38) n8 2 10 1 99 (pF L (m.1 38) n8 1 9 0 20 (upd (newF s n8 (nI c)) 1 (nI (n8 + 1))) (nxF L (m.1 38) (j))).2.1 (pF L (m.1 38) n8 1 9 0 20 (upd (newF s n8 (nI c)) 1 (nI (n8 + 1))) (nxF L (m.1 38) (j))).2.2).2.1) j2).2
  refine x_aload_n (q := 1) dX3_tellParcel_0 rfl rfl ?_
  refine x_iload_n (q := 2) dX3_tellParcel_1 rfl rfl ?_
  refine x_callV1v (q := 5) dX3_tellParcel_2 rfl ml_X3_75 mv_X0_lay (rv0 isC_13) rfl (c_X0_lay isC_13 hn h8) (Nat.le_of_ble_eq_true rfl) ⟨by decide, by decide⟩ ?_
  refine x_astore_n (q := 6) dX3_tellParcel_5 rfl (by decide) rfl rfl ?_
  refine x_aload_n (q := 7) dX3_tellParcel_6 rfl rfl ?_
  refine x_ifnonnull (q := 12) dX3_tellParcel_7 (by decide) ?_
  refine x_aload_n (q := 13) dX3_tellParcel_12 rfl rfl ?_
  refine x_callV0u (q := 16) dX3_tellParcel_13 rfl ml_X3_31 mv_X3_step rv3 rfl (c_X3_stepM hT hL2 hj) (Nat.le_of_ble_eq_true rfl) ⟨by decide, by decide⟩ (fun m9 h9 => ?_)
  obtain ⟨g13, T13, rfl⟩ := h9
  refine x_aload_n (q := 17) dX3_tellParcel_16 rfl rfl ?_
  refine x_aload_n (q := 18) dX3_tellParcel_17 rfl rfl ?_
  refine x_ldcS (q := 20) (k := 9) dX3_tellParcel_18 rfl (by decide) rfl rfl ?_
  refine x_iconst (q := 21) (v := 1) dX3_tellParcel_20 rfl (by decide) ?_
  refine x_bipush (q := 23) (v := 20) dX3_tellParcel_21 rfl (by decide) ?_
  refine x_callV4i (q := 26) dX3_tellParcel_23 rfl ml_X3_81 mv_X3_tellPart rv3 rfl (c_X3_tellPart (k := n8) (f := 1) (wi := 9) (a := 0) (b := 20) T13 hL2 hnj h8 (by decide) (by decide) (by decide) (by decide) (by decide)) (Nat.le_of_ble_eq_true rfl) ⟨by decide, by decide⟩ (fun m9 h9 => ?_)
  obtain ⟨g23, T23, rfl⟩ := h9
  refine x_ifB_eq (q := 29) (t := 56) dX3_tellParcel_26 rfl (by decide) (fun h26 => ?_) (fun h26 => ?_)
  · refine x_iconst (q := 57) (v := 0) dX3_tellParcel_56 rfl (by decide) ?_
    refine x_ireturn dX3_tellParcel_57 rfl (by decide) ?_
    have e : pcF L (m.1 38) n8 c s j = (pF L (m.1 38) n8 1 9 0 20 (upd (newF s n8 (nI c)) 1 (nI (n8 + 1))) (nxF L (m.1 38) (j))) := andT_f h26
    rw [e]
    exact ⟨by rw [h26]; rfl, g23, T23, rfl⟩
  refine x_aload_n (q := 30) dX3_tellParcel_29 rfl rfl ?_
  refine x_aload_n (q := 31) dX3_tellParcel_30 rfl rfl ?_
  refine x_ldcS (q := 33) (k := 10) dX3_tellParcel_31 rfl (by decide) rfl rfl ?_
  refine x_iconst (q := 34) (v := 2) dX3_tellParcel_33 rfl (by decide) ?_
  refine x_bipush (q := 36) (v := 99) dX3_tellParcel_34 rfl (by decide) ?_
  refine x_callV4i (q := 39) dX3_tellParcel_36 rfl ml_X3_81 mv_X3_tellPart rv3 rfl (c_X3_tellPart (k := n8) (f := 2) (wi := 10) (a := 1) (b := 99) T23 hL2 j1 h8 (by decide) (by decide) (by decide) (by decide) (by decide)) (Nat.le_of_ble_eq_true rfl) ⟨by decide, by decide⟩ (fun m9 h9 => ?_)
  obtain ⟨g36, T36, rfl⟩ := h9
  refine x_ifB_eq (q := 42) (t := 56) dX3_tellParcel_39 rfl (by decide) (fun h39 => ?_) (fun h39 => ?_)
  · refine x_iconst (q := 57) (v := 0) dX3_tellParcel_56 rfl (by decide) ?_
    refine x_ireturn dX3_tellParcel_57 rfl (by decide) ?_
    have e : pcF L (m.1 38) n8 c s j = (pF L (m.1 38) n8 2 10 1 99 (pF L (m.1 38) n8 1 9 0 20 (upd (newF s n8 (nI c)) 1 (nI (n8 + 1))) (nxF L (m.1 38) (j))).2.1 (pF L (m.1 38) n8 1 9 0 20 (upd (newF s n8 (nI c)) 1 (nI (n8 + 1))) (nxF L (m.1 38) (j))).2.2) := (andT_t h26).trans (andT_f h39)
    rw [e]
    exact ⟨by rw [h39]; rfl, g36, T36, rfl⟩
  refine x_aload_n (q := 43) dX3_tellParcel_42 rfl rfl ?_
  refine x_aload_n (q := 44) dX3_tellParcel_43 rfl rfl ?_
  refine x_ldcS (q := 46) (k := 11) dX3_tellParcel_44 rfl (by decide) rfl rfl ?_
  refine x_iconst (q := 47) (v := 3) dX3_tellParcel_46 rfl (by decide) ?_
  refine x_sipush (q := 50) (v := 999) dX3_tellParcel_47 rfl (by decide) ?_
  refine x_callV4i (q := 53) dX3_tellParcel_50 rfl ml_X3_81 mv_X3_tellPart rv3 rfl (c_X3_tellPart (k := n8) (f := 3) (wi := 11) (a := 0) (b := 999) T36 hL2 j2 h8 (by decide) (by decide) (by decide) (by decide) (by decide)) (Nat.le_of_ble_eq_true rfl) ⟨by decide, by decide⟩ (fun m9 h9 => ?_)
  obtain ⟨g50, T50, rfl⟩ := h9
  refine x_ifB_ne (q := 56) (t := 58) dX3_tellParcel_53 rfl (by decide) (fun h53 => ?_) (fun h53 => ?_)
  · refine x_aload_n (q := 59) dX3_tellParcel_58 rfl rfl ?_
    refine x_ldcS (q := 61) (k := 12) dX3_tellParcel_59 rfl (by decide) rfl rfl ?_
    refine x_callV1i (q := 64) dX3_tellParcel_61 rfl ml_X3_40 mv_X3_passes rv3 rfl (c_X3_passes T50 hL2 j3 (by decide)) (Nat.le_of_ble_eq_true rfl) ⟨by decide, by decide⟩ (fun m9 h9 => ?_)
    obtain ⟨g61, T61, rfl⟩ := h9
    refine x_ifB_eq (q := 67) (t := 72) dX3_tellParcel_64 rfl (by decide) (fun h64 => ?_) (fun h64 => ?_)
    · refine x_iconst (q := 73) (v := 1) dX3_tellParcel_72 rfl (by decide) ?_
      refine x_ireturn dX3_tellParcel_73 rfl (by decide) ?_
      have e : pcF L (m.1 38) n8 c s j = hlF L (m.1 38) n8 (pF L (m.1 38) n8 3 11 0 999 (pF L (m.1 38) n8 2 10 1 99 (pF L (m.1 38) n8 1 9 0 20 (upd (newF s n8 (nI c)) 1 (nI (n8 + 1))) (nxF L (m.1 38) (j))).2.1 (pF L (m.1 38) n8 1 9 0 20 (upd (newF s n8 (nI c)) 1 (nI (n8 + 1))) (nxF L (m.1 38) (j))).2.2).2.1 (pF L (m.1 38) n8 2 10 1 99 (pF L (m.1 38) n8 1 9 0 20 (upd (newF s n8 (nI c)) 1 (nI (n8 + 1))) (nxF L (m.1 38) (j))).2.1 (pF L (m.1 38) n8 1 9 0 20 (upd (newF s n8 (nI c)) 1 (nI (n8 + 1))) (nxF L (m.1 38) (j))).2.2).2.2).2.1 (pF L (m.1 38) n8 3 11 0 999 (pF L (m.1 38) n8 2 10 1 99 (pF L (m.1 38) n8 1 9 0 20 (upd (newF s n8 (nI c)) 1 (nI (n8 + 1))) (nxF L (m.1 38) (j))).2.1 (pF L (m.1 38) n8 1 9 0 20 (upd (newF s n8 (nI c)) 1 (nI (n8 + 1))) (nxF L (m.1 38) (j))).2.2).2.1 (pF L (m.1 38) n8 2 10 1 99 (pF L (m.1 38) n8 1 9 0 20 (upd (newF s n8 (nI c)) 1 (nI (n8 + 1))) (nxF L (m.1 38) (j))).2.1 (pF L (m.1 38) n8 1 9 0 20 (upd (newF s n8 (nI c)) 1 (nI (n8 + 1))) (nxF L (m.1 38) (j))).2.2).2.2).2.2 := (andT_t h26).trans ((andT_t h39).trans (andT_t h53))
      rw [e]
      unfold hlF
      rw [if_neg (by rw [h64]; decide)] at T61
      rw [if_neg (by rw [h64]; decide)]
      exact ⟨rfl, g61, T61, rfl⟩
    refine x_aload_n (q := 68) dX3_tellParcel_67 rfl rfl ?_
    refine x_iconst (q := 69) (v := 1) dX3_tellParcel_68 rfl (by decide) ?_
    refine x_putIr (q := 72) dX3_tellParcel_69 rfl fl_X3_91 (ob1 isC_13 h8 5 (by decide)) rfl rfl rfl  ?_
    refine x_iconst (q := 73) (v := 1) dX3_tellParcel_72 rfl (by decide) ?_
    refine x_ireturn dX3_tellParcel_73 rfl (by decide) ?_
    have e : pcF L (m.1 38) n8 c s j = hlF L (m.1 38) n8 (pF L (m.1 38) n8 3 11 0 999 (pF L (m.1 38) n8 2 10 1 99 (pF L (m.1 38) n8 1 9 0 20 (upd (newF s n8 (nI c)) 1 (nI (n8 + 1))) (nxF L (m.1 38) (j))).2.1 (pF L (m.1 38) n8 1 9 0 20 (upd (newF s n8 (nI c)) 1 (nI (n8 + 1))) (nxF L (m.1 38) (j))).2.2).2.1 (pF L (m.1 38) n8 2 10 1 99 (pF L (m.1 38) n8 1 9 0 20 (upd (newF s n8 (nI c)) 1 (nI (n8 + 1))) (nxF L (m.1 38) (j))).2.1 (pF L (m.1 38) n8 1 9 0 20 (upd (newF s n8 (nI c)) 1 (nI (n8 + 1))) (nxF L (m.1 38) (j))).2.2).2.2).2.1 (pF L (m.1 38) n8 3 11 0 999 (pF L (m.1 38) n8 2 10 1 99 (pF L (m.1 38) n8 1 9 0 20 (upd (newF s n8 (nI c)) 1 (nI (n8 + 1))) (nxF L (m.1 38) (j))).2.1 (pF L (m.1 38) n8 1 9 0 20 (upd (newF s n8 (nI c)) 1 (nI (n8 + 1))) (nxF L (m.1 38) (j))).2.2).2.1 (pF L (m.1 38) n8 2 10 1 99 (pF L (m.1 38) n8 1 9 0 20 (upd (newF s n8 (nI c)) 1 (nI (n8 + 1))) (nxF L (m.1 38) (j))).2.1 (pF L (m.1 38) n8 1 9 0 20 (upd (newF s n8 (nI c)) 1 (nI (n8 + 1))) (nxF L (m.1 38) (j))).2.2).2.2).2.2 := (andT_t h26).trans ((andT_t h39).trans (andT_t h53))
    rw [e]
    unfold hlF
    rw [if_pos h64] at T61
    rw [if_pos h64]
    exact ⟨rfl, g61, T61, rfl⟩
  refine x_iconst (q := 57) (v := 0) dX3_tellParcel_56 rfl (by decide) ?_
  refine x_ireturn dX3_tellParcel_57 rfl (by decide) ?_
  have e : pcF L (m.1 38) n8 c s j = (pF L (m.1 38) n8 3 11 0 999 (pF L (m.1 38) n8 2 10 1 99 (pF L (m.1 38) n8 1 9 0 20 (upd (newF s n8 (nI c)) 1 (nI (n8 + 1))) (nxF L (m.1 38) (j))).2.1 (pF L (m.1 38) n8 1 9 0 20 (upd (newF s n8 (nI c)) 1 (nI (n8 + 1))) (nxF L (m.1 38) (j))).2.2).2.1 (pF L (m.1 38) n8 2 10 1 99 (pF L (m.1 38) n8 1 9 0 20 (upd (newF s n8 (nI c)) 1 (nI (n8 + 1))) (nxF L (m.1 38) (j))).2.1 (pF L (m.1 38) n8 1 9 0 20 (upd (newF s n8 (nI c)) 1 (nI (n8 + 1))) (nxF L (m.1 38) (j))).2.2).2.2) := (andT_t h26).trans ((andT_t h39).trans (andT_f h53))
  rw [e]
  exact ⟨by rw [h53]; rfl, g50, T50, rfl⟩
theorem dX3_tellItem_0 : decode cX3_tellItem 0 = .ok (.aload_n 0, 1) := by decide +kernel
theorem dX3_tellItem_1 : decode cX3_tellItem 1 = .ok (.ldc 38, 2) := by decide +kernel
theorem dX3_tellItem_3 : decode cX3_tellItem 3 = .ok (.invokevirtual 40, 3) := by decide +kernel
theorem dX3_tellItem_6 : decode cX3_tellItem 6 = .ok (.ifCond .eq 9, 3) := by decide +kernel
theorem dX3_tellItem_9 : decode cX3_tellItem 9 = .ok (.aload_n 0, 1) := by decide +kernel
theorem dX3_tellItem_10 : decode cX3_tellItem 10 = .ok (.aload_n 1, 1) := by decide +kernel
theorem dX3_tellItem_11 : decode cX3_tellItem 11 = .ok (.invokevirtual 44, 3) := by decide +kernel
theorem dX3_tellItem_14 : decode cX3_tellItem 14 = .ok (.ireturn, 1) := by decide +kernel
theorem dX3_tellItem_15 : decode cX3_tellItem 15 = .ok (.aload_n 0, 1) := by decide +kernel
theorem dX3_tellItem_16 : decode cX3_tellItem 16 = .ok (.ldc 47, 2) := by decide +kernel
theorem dX3_tellItem_18 : decode cX3_tellItem 18 = .ok (.invokevirtual 40, 3) := by decide +kernel
theorem dX3_tellItem_21 : decode cX3_tellItem 21 = .ok (.ifCond .eq 9, 3) := by decide +kernel
theorem dX3_tellItem_24 : decode cX3_tellItem 24 = .ok (.aload_n 0, 1) := by decide +kernel
theorem dX3_tellItem_25 : decode cX3_tellItem 25 = .ok (.aload_n 1, 1) := by decide +kernel
theorem dX3_tellItem_26 : decode cX3_tellItem 26 = .ok (.invokevirtual 49, 3) := by decide +kernel
theorem dX3_tellItem_29 : decode cX3_tellItem 29 = .ok (.ireturn, 1) := by decide +kernel
theorem dX3_tellItem_30 : decode cX3_tellItem 30 = .ok (.iconst 0, 1) := by decide +kernel
theorem dX3_tellItem_31 : decode cX3_tellItem 31 = .ok (.istore_n 2, 1) := by decide +kernel
theorem dX3_tellItem_32 : decode cX3_tellItem 32 = .ok (.iload_n 2, 1) := by decide +kernel
theorem dX3_tellItem_33 : decode cX3_tellItem 33 = .ok (.bipush 6, 2) := by decide +kernel
theorem dX3_tellItem_35 : decode cX3_tellItem 35 = .ok (.if_icmp .gt 27, 3) := by decide +kernel
theorem dX3_tellItem_38 : decode cX3_tellItem 38 = .ok (.aload_n 0, 1) := by decide +kernel
theorem dX3_tellItem_39 : decode cX3_tellItem 39 = .ok (.iload_n 2, 1) := by decide +kernel
theorem dX3_tellItem_40 : decode cX3_tellItem 40 = .ok (.invokestatic 52, 3) := by decide +kernel
theorem dX3_tellItem_43 : decode cX3_tellItem 43 = .ok (.invokevirtual 56, 3) := by decide +kernel
theorem dX3_tellItem_46 : decode cX3_tellItem 46 = .ok (.ifCond .eq 10, 3) := by decide +kernel
theorem dX3_tellItem_49 : decode cX3_tellItem 49 = .ok (.aload_n 0, 1) := by decide +kernel
theorem dX3_tellItem_50 : decode cX3_tellItem 50 = .ok (.aload_n 1, 1) := by decide +kernel
theorem dX3_tellItem_51 : decode cX3_tellItem 51 = .ok (.iload_n 2, 1) := by decide +kernel
theorem dX3_tellItem_52 : decode cX3_tellItem 52 = .ok (.invokevirtual 59, 3) := by decide +kernel
theorem dX3_tellItem_55 : decode cX3_tellItem 55 = .ok (.ireturn, 1) := by decide +kernel
theorem dX3_tellItem_56 : decode cX3_tellItem 56 = .ok (.iinc 2 1, 3) := by decide +kernel
theorem dX3_tellItem_59 : decode cX3_tellItem 59 = .ok (.goto (-27), 3) := by decide +kernel
theorem dX3_tellItem_62 : decode cX3_tellItem 62 = .ok (.iconst 0, 1) := by decide +kernel
theorem dX3_tellItem_63 : decode cX3_tellItem 63 = .ok (.ireturn, 1) := by decide +kernel
set_option maxRecDepth 20000 in
set_option maxHeartbeats 4000000 in
theorem l_X3_tellItem {K : Cx} {L j n8 : Nat} {g s : Nat → Int32} {m : TM} (hT : TS L (m.1 38) j g) (hL2 : L ≤ 120) (hj : j ≤ L) (hn : s 1 = nI n8) (h8 : n8 ≤ 8) : ∀ (fu : Nat) (c : Nat), 8 - c < fu → c ≤ 7 → XX RX3 cX3_tellItem 3 (some .boolean) 8 175 K 32 [some (.ref 37), some (.ref 13), some (.int (nI c))] [] (sr (sr m 37 g) 13 s) (fun r1 m1 => r1 = some (.int (bI ((kdR L (m.1 38) s j (kdF L (m.1 38) j (7 - c) c)).1))) ∧ ∃ g1, TS L (m.1 38) ((kdR L (m.1 38) s j (kdF L (m.1 38) j (7 - c) c)).2.2) g1 ∧ m1 = sr (sr m 37 g1) 13 ((kdR L (m.1 38) s j (kdF L (m.1 38) j (7 - c) c)).2.1)) := by
  intro fu
  induction fu with
  | zero => intro c hlt; exact absurd hlt (Nat.not_lt_zero _)
  | succ fu ih =>
    intro c hlt hc7
    have hcl : cl (s 1) = n8 := by rw [hn]; exact jnI_clamp (by omega)
    refine x_iload_n (q := 33) dX3_tellItem_32 rfl rfl ?_
    refine x_bipush (q := 35) (v := 6) dX3_tellItem_33 rfl (by decide) ?_
    refine x_icmp_gt (q := 38) (t := 62) dX3_tellItem_35 rfl (by decide) (fun h35 => ?_) (fun h35 => ?_)
    · refine x_iconst (q := 63) (v := 0) dX3_tellItem_62 rfl (by decide) ?_
      refine x_ireturn dX3_tellItem_63 rfl (by decide) ?_
      have hc7 : 7 ≤ c := by
        have h9 : ¬ c ≤ 6 := fun q => absurd ((jnI_lt (a := 6) (b := c) (by decide) (by omega)).mp h35) (by omega)
        omega
      have e : 7 - c = 0 := by omega
      rw [e]
      exact ⟨rfl, g, hT, rfl⟩
    have hc6 : c < 7 := by
      have h9 : ¬ 6 < c := fun q => h35 ((jnI_lt (a := 6) (b := c) (by decide) (by omega)).mpr q)
      omega
    have e7 : 7 - c = (7 - (c + 1)) + 1 := by omega
    rw [e7]
    refine x_aload_n (q := 39) dX3_tellItem_38 rfl rfl ?_
    refine x_iload_n (q := 40) dX3_tellItem_39 rfl rfl ?_
    refine x_callS1v (q := 43) dX3_tellItem_40 rfl ml_X3_52 ms_X3_wordOf (c_X3_wordOf (x := nI c)) (Nat.le_of_ble_eq_true rfl) ⟨by decide, by decide⟩ ?_
    refine x_callV1v (q := 46) dX3_tellItem_43 rfl ml_X3_56 mv_X3_isWord rv3 rfl (c_X3_isWord hT hL2 hj (wd_lt _)) (Nat.le_of_ble_eq_true rfl) ⟨by decide, by decide⟩ ?_
    refine x_ifB_eq (q := 49) (t := 56) dX3_tellItem_46 rfl (by decide) (fun h46 => ?_) (fun h46 => ?_)
    · refine x_iinc (q := 59) (v := nI (c + 1)) dX3_tellItem_56 rfl rfl (jnI_s c) (by decide) rfl rfl ?_
      refine x_goto (q := 32) dX3_tellItem_59 (by decide) ?_
      simp only [kdF, if_neg (show ¬ isW L (m.1 38) j (wdN (nI c)) = true by rw [h46]; decide)]
      exact ih (c + 1) (by omega) (by omega)
    simp only [kdF, if_pos h46, kdR]
    by_cases h88 : n8 = 8
    · subst h88
      rw [if_pos hcl]
      refine x_aload_n (q := 50) dX3_tellItem_49 rfl rfl ?_
      refine x_aload_n (q := 51) dX3_tellItem_50 rfl rfl ?_
      refine x_iload_n (q := 52) dX3_tellItem_51 rfl rfl ?_
      refine x_callV2v (q := 55) dX3_tellItem_52 rfl ml_X3_59 mv_X3_tellParcel rv3 rfl (c_X3_tellParcelN hn) (Nat.le_of_ble_eq_true rfl) ⟨by decide, by decide⟩ ?_
      refine x_ireturn dX3_tellItem_55 rfl (bI_narrow _) ?_
      exact ⟨rfl, g, hT, rfl⟩
    have h8l : n8 < 8 := by omega
    rw [hcl, if_neg h88]
    refine x_aload_n (q := 50) dX3_tellItem_49 rfl rfl ?_
    refine x_aload_n (q := 51) dX3_tellItem_50 rfl rfl ?_
    refine x_iload_n (q := 52) dX3_tellItem_51 rfl rfl ?_
    refine x_callV2i (q := 55) dX3_tellItem_52 rfl ml_X3_59 mv_X3_tellParcel rv3 rfl (c_X3_tellParcel hT hL2 hj hn h8l) (Nat.le_of_ble_eq_true rfl) ⟨by decide, by decide⟩ (fun m9 h9 => ?_)
    obtain ⟨g52, T52, rfl⟩ := h9
    refine x_ireturn dX3_tellItem_55 rfl (bI_narrow _) ?_
    exact ⟨rfl, g52, T52, rfl⟩
set_option maxRecDepth 20000 in
set_option maxHeartbeats 4000000 in
theorem c_X3_tellItem {K : Cx} {L j n8 : Nat} {g s : Nat → Int32} {m : TM} (hT : TS L (m.1 38) j g) (hL2 : L ≤ 120) (hj : j ≤ L) (hn : s 1 = nI n8) (h8 : n8 ≤ 8) : CQ yX3_tellItem cX3_tellItem 3 (some .boolean) 8 175 K [.ref 37, .ref 13] (sr (sr m 37 g) 13 s) (fun r1 m1 => r1 = some (.int (bI ((itF L (m.1 38) s j).1))) ∧ ∃ g1, TS L (m.1 38) ((itF L (m.1 38) s j).2.2) g1 ∧ m1 = sr (sr m 37 g1) 13 ((itF L (m.1 38) s j).2.1)) := by
  refine ct_ofq (n := 1) (by decide +kernel) rfl rfl ?_
  show XX RX3 cX3_tellItem 3 (some .boolean) 8 175 K 0 [some (.ref 37), some (.ref 13), none] [] (sr (sr m 37 g) 13 s) (fun r1 m1 => r1 = some (.int (bI ((itF L (m.1 38) s j).1))) ∧ ∃ g1, TS L (m.1 38) ((itF L (m.1 38) s j).2.2) g1 ∧ m1 = sr (sr m 37 g1) 13 ((itF L (m.1 38) s j).2.1))
  have hnj := (nxF_le (w := m.1 38) hj).2
  refine x_aload_n (q := 1) dX3_tellItem_0 rfl rfl ?_
  refine x_ldcS (q := 3) (k := 0) dX3_tellItem_1 rfl (by decide) rfl rfl ?_
  refine x_callV1i (q := 6) dX3_tellItem_3 rfl ml_X3_40 mv_X3_passes rv3 rfl (c_X3_passes hT hL2 hj (by decide)) (Nat.le_of_ble_eq_true rfl) ⟨by decide, by decide⟩ (fun m9 h9 => ?_)
  obtain ⟨g3, T3, rfl⟩ := h9
  refine x_ifB_eq (q := 9) (t := 15) dX3_tellItem_6 rfl (by decide) (fun h6 => ?_) (fun h6 => ?_)
  · rw [if_neg (by rw [h6]; decide)] at T3
    refine x_aload_n (q := 16) dX3_tellItem_15 rfl rfl ?_
    refine x_ldcS (q := 18) (k := 1) dX3_tellItem_16 rfl (by decide) rfl rfl ?_
    refine x_callV1i (q := 21) dX3_tellItem_18 rfl ml_X3_40 mv_X3_passes rv3 rfl (c_X3_passes T3 hL2 hj (by decide)) (Nat.le_of_ble_eq_true rfl) ⟨by decide, by decide⟩ (fun m9 h9 => ?_)
    obtain ⟨g18, T18, rfl⟩ := h9
    refine x_ifB_eq (q := 24) (t := 30) dX3_tellItem_21 rfl (by decide) (fun h21 => ?_) (fun h21 => ?_)
    · rw [if_neg (by rw [h21]; decide)] at T18
      refine x_iconst (q := 31) (v := 0) dX3_tellItem_30 rfl (by decide) ?_
      refine x_istore_n (q := 32) dX3_tellItem_31 rfl (by decide) rfl rfl ?_
      have e : itF L (m.1 38) s j = kdR L (m.1 38) s j (kdF L (m.1 38) j (7 - 0) 0) := (if_neg (by rw [h6]; decide)).trans (if_neg (by rw [h21]; decide))
      rw [e]
      exact l_X3_tellItem T18 hL2 hj hn h8 9 0 (by omega) (by omega)
    rw [if_pos h21] at T18
    refine x_aload_n (q := 25) dX3_tellItem_24 rfl rfl ?_
    refine x_aload_n (q := 26) dX3_tellItem_25 rfl rfl ?_
    refine x_callV1i (q := 29) dX3_tellItem_26 rfl ml_X3_49 mv_X3_tellStorm rv3 rfl (c_X3_tellStorm T18 hL2 hnj) (Nat.le_of_ble_eq_true rfl) ⟨by decide, by decide⟩ (fun m9 h9 => ?_)
    obtain ⟨g26, T26, rfl⟩ := h9
    refine x_ireturn dX3_tellItem_29 rfl (bI_narrow _) ?_
    have e : itF L (m.1 38) s j = smR L (m.1 38) s (nxF L (m.1 38) (j)) := (if_neg (by rw [h6]; decide)).trans (if_pos h21)
    rw [e]
    exact ⟨rfl, g26, T26, rfl⟩
  rw [if_pos h6] at T3
  refine x_aload_n (q := 10) dX3_tellItem_9 rfl rfl ?_
  refine x_aload_n (q := 11) dX3_tellItem_10 rfl rfl ?_
  refine x_callV1i (q := 14) dX3_tellItem_11 rfl ml_X3_44 mv_X3_tellTide rv3 rfl (c_X3_tellTide T3 hL2 hnj) (Nat.le_of_ble_eq_true rfl) ⟨by decide, by decide⟩ (fun m9 h9 => ?_)
  obtain ⟨g11, T11, rfl⟩ := h9
  refine x_ireturn dX3_tellItem_14 rfl (bI_narrow _) ?_
  have e : itF L (m.1 38) s j = tdR L (m.1 38) s (nxF L (m.1 38) (j)) := if_pos h6
  rw [e]
  exact ⟨rfl, g11, T11, rfl⟩
