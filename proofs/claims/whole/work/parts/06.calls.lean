section CALLS
variable {own : String} {cc : ByteArray} {mL : Nat} {rt : Option FieldType} {fr lo : Nat} {K : Cx} {pc q : Nat} {ls : List (Option Value)} {st : List Value} {m : TM} {Q : Option Value → TM → Prop}
theorem wt_goodIn {y : MethodName} {cy : ByteArray} {n : Nat} {ry : Option FieldType} (h : Cond.code y cy n ry ∈ WT) : GoodIn WT (Cond.code y cy n ry :: WT) := by
  intro w hw
  rcases List.mem_cons.mp hw with rfl | hw
  · exact ⟨h, good_of_word (wt_good h)⟩
  · exact ⟨hw, good_of_word (wt_good hw)⟩
theorem pc_blind {as : List Value} : FrameBlind (va_Pc (as.map (vmp K)) (fun U => Wd K m U)) := by
  intro a U g mk hq
  obtain ⟨h1, h2, h3, h4, h5⟩ := hq
  exact ⟨h1, h2, h3, va_K.moved (u := U) (U := U.calling g mk a) (Vm.Alike.refl U.vm) h4, Sk.same (s := U) (U := U.calling g mk a) rfl h5⟩
theorem pc_pre {p : Program} {s : State} {mi : MethodId} {args : Array Value} {meth : Method} {c : Code} {H : Heap} {locs : List Loc} {as : List Value} (C : XC own cc mL rt K p s mi args meth c) (hP : va_P (kD K) vwCl (wsOf K m) H) (hD : va_D (AA K) (wsOf K m)) (hS : va_S (AA K) s.heap H locs) (U : State) (hU : U.heap = H) (hW : s.WarmedH U.vm) : va_Pc (as.map (vmp K)) (fun U => Wd K m U) (as.map (vmp K)).toArray U :=
  ⟨rfl, by rw [hU]; exact hP, hD, va_K.moved hW.alike C.2.2.2.2.2.2.2.1, by rw [hU]; exact (Sk.warm hW C.2.2.2.2.2.2.2.2).kept hS.2.1⟩
theorem x_back {p : Program} {l : Launch} {e : Env} {R : Room} {s : State} {mi : MethodId} {args a : Array Value} {below : List Frame} {meth : Method} {c : Code} {H : Heap} {locs : List Loc} {arr : Array Slot} {st0 rest : List Value} {Z : State → Prop} {Q1 : Option Value → TM → Prop}
    (hr : va_Run p l e R s mi args below meth c H locs 0 0 0 0 (F0 mi pc arr st0) rest (QQ K Q1 a) (AA K)) (hS : va_S (AA K) s.heap H locs)
    (kk : ∀ (r : Option Value) (m' : TM) (H1 : Heap) (locs1 : List Loc), Q1 r m' → va_P (kD K) vwCl (wsOf K m') H1 → va_D (AA K) (wsOf K m') → va_S (AA K) s.heap H1 locs1 → W p l e R s mi args below meth c H1 locs1 0 0 Z (F0 mi (pc + 3) arr ((r.map (vmp K)).toList ++ rest))) : W p l e R s mi args below meth c H locs 0 0 Z (F0 mi pc arr st0) := by
  intro T hT X
  obtain ⟨v, st₀, t, T', L, h0, X', hL, e1, e2, ⟨⟨r, m', hv, hq, hb, hd⟩, hz, hk⟩, stp⟩ := hr T hT X
  cases hv
  rw [h0] at hz hk
  obtain ⟨t2, a1, b1⟩ := kk r m' T'.heap (locs ++ L) hq (by rw [e1]; exact hb) hd
    ⟨Nat.le_trans hS.1 (by rw [e1]; exact hz), fun q h1 h2 => by rw [e1, hk q (Nat.lt_of_lt_of_le h1 hS.1) h2]; exact hS.2.1 q h1 h2, fun q hq => by
      rcases List.mem_append.mp hq with h | h
      · exact hS.2.2 q h
      · exact hL q h⟩ T' rfl X'
  exact ⟨t2, stp t2 a1, b1⟩
theorem cat_sum {st : List Value} : ((st.map (vmp K)).map fun v => v.category).sum = (st.map fun v => v.category).sum := by
  rw [List.map_map]
  exact congrArg List.sum (List.map_congr_left fun v _ => vmp_cat K v)
theorem map_rev {as st : List Value} : (as.reverse ++ st).map (vmp K) = (as.map (vmp K)).reverse ++ st.map (vmp K) := by rw [List.map_append, List.map_reverse]
theorem x_callS {y : MethodName} {cy : ByteArray} {n nL idx f2 l2 : Nat} {ry : Option FieldType} {as stk : List Value} {Q1 : Option Value → TM → Prop} (hd : decode cc pc = .ok (.invokestatic idx, 3)) (hq : pc + 3 = q) (hl : Cond.methodLink own idx y ∈ WT) (hm : MS y cy nL ry n) (hc : CQ y cy nL ry f2 l2 K as m Q1) (hs : stk = as.reverse ++ st) (hn : as.length = n) (hw : (st.map fun v => v.category).sum ≤ 8) (hR : f2 + 1 ≤ fr ∧ 8 + (nL + 11) + l2 ≤ lo) (kk : ∀ r m', Q1 r m' → XX own cc mL rt fr lo K q ls (r.toList ++ st) m' Q) : XX own cc mL rt fr lo K pc ls stk m Q := by
  subst hq; subst hs
  intro p e s mi args below meth c H locs arr C hP hD hS hL
  have hts := C.2.2.2.2.2.1
  refine x_back (K := K) (Q1 := Q1) (rest := st.map (vmp K)) (va_runS (As := as.map (vmp K)) (Ts := WT) ⟨C.1, C.2.1, C.2.2.2.1, C.2.2.2.2.1, hts⟩ hc ⟨callB_of n hts (wt_goodIn hm.2.2.1) rfl rfl rfl (hts _ hm.2.1) (hts _ hl) hm.2.2.2 hR, hts _ hm.1⟩ ⟨pc_blind, pc_pre C hP hD hS⟩ rfl (by simpa using hn) hL.len map_rev (by rw [cat_sum]; exact (by simpa [JFrame.monitorRoom] using hw)) hd ⟨Nat.le_refl _, Nat.le_refl _⟩) hS (fun r m' H1 locs1 hq1 hP1 hD1 hS1 => ?_)
  have k2 := kk r m' hq1 p e s mi args below meth c H1 locs1 arr C hP1 hD1 hS1 hL
  cases r <;> exact k2
theorem x_callV {y : MethodName} {cy : ByteArray} {n nL idx f2 l2 o ci : Nat} {ry : Option FieldType} {as stk : List Value} {Q1 : Option Value → TM → Prop} (hd : decode cc pc = .ok (.invokevirtual idx, 3)) (hq : pc + 3 = q) (hl : Cond.methodLink own idx y ∈ WT) (hm : MV y cy nL ry n) (hv : RV o ci) (hC : RR ci = y.cls) (hc : CQ y cy nL ry f2 l2 K (.ref o :: as) m Q1) (hs : stk = as.reverse ++ .ref o :: st) (hn : as.length = n) (hw : (st.map fun v => v.category).sum ≤ 8) (hR : f2 + 1 ≤ fr ∧ 8 + (nL + 11) + l2 ≤ lo) (kk : ∀ r m', Q1 r m' → XX own cc mL rt fr lo K q ls (r.toList ++ st) m' Q) : XX own cc mL rt fr lo K pc ls stk m Q := by
  subst hq; subst hs
  intro p e s mi args below meth c H locs arr C hP hD hS hL
  have hts := C.2.2.2.2.2.1
  obtain ⟨h62, hkd, hci⟩ := hv
  subst hkd
  have hrecv : ∃ cell : Cell, H[adr K o]? = some cell ∧ cell.vm.isStatics = false ∧ s.vm.findClass y.cls = some cell.cls := by
    rw [adr_o h62, ← hC]
    exact va_recv (q := (RR (kd o), TT (kd o), NN (kd o))) C.2.2.2.2.2.2.2.1 hP (vw_at _ hci) (q0 := o) (by rw [ws_get h62, cell_obj hci])
  refine x_back (K := K) (Q1 := Q1) (rest := st.map (vmp K)) (va_runV (C := y.cls) (b := adr K o) (As := as.map (vmp K)) (Ts := WT) ⟨C.1, C.2.1, C.2.2.2.1, C.2.2.2.2.1, hts⟩ hc ⟨callB_of n hts (wt_goodIn hm.2.2.2.1) rfl rfl rfl (hts _ hm.2.2.1) (hts _ hl) hm.2.2.2.2 hR, hts _ hm.1, hts _ hm.2.1⟩ ⟨pc_blind, hrecv, pc_pre (as := .ref o :: as) C hP hD hS⟩ rfl (by simpa using hn) hL.len (map_rev (as := as) (st := .ref o :: st)) (by rw [cat_sum]; exact (by simpa [JFrame.monitorRoom] using hw)) hd ⟨Nat.le_refl _, Nat.le_refl _⟩) hS (fun r m' H1 locs1 hq1 hP1 hD1 hS1 => ?_)
  have k2 := kk r m' hq1 p e s mi args below meth c H1 locs1 arr C hP1 hD1 hS1 hL
  cases r <;> exact k2
theorem x_callT {y : MethodName} {cy : ByteArray} {n nL idx f2 l2 k : Nat} {ry : Option FieldType} {as stk : List Value} {Q1 : Option Value → TM → Prop} (hd : decode cc pc = .ok (.invokevirtual idx, 3)) (hq : pc + 3 = q) (hl : Cond.methodLink own idx y ∈ WT) (hm : MV y cy nL ry n) (hk : k < 13) (hC : "java/lang/String" = y.cls) (hc : CQ y cy nL ry f2 l2 K (.ref (100 + k) :: as) m Q1) (hs : stk = as.reverse ++ .ref (100 + k) :: st) (hn : as.length = n) (hw : (st.map fun v => v.category).sum ≤ 8) (hR : f2 + 1 ≤ fr ∧ 8 + (nL + 11) + l2 ≤ lo) (kk : ∀ r m', Q1 r m' → XX own cc mL rt fr lo K q ls (r.toList ++ st) m' Q) : XX own cc mL rt fr lo K pc ls stk m Q := by
  subst hq; subst hs
  intro p e s mi args below meth c H locs arr C hP hD hS hL
  have hts := C.2.2.2.2.2.1
  have hrecv : ∃ cell : Cell, H[adr K (100 + k)]? = some cell ∧ cell.vm.isStatics = false ∧ s.vm.findClass y.cls = some cell.cls := by
    rw [adr_s hk, ← hC]
    exact vk_recv C.2.2.2.2.2.2.2.2.1 hk hS
  refine x_back (K := K) (Q1 := Q1) (rest := st.map (vmp K)) (va_runV (C := y.cls) (b := adr K (100 + k)) (As := as.map (vmp K)) (Ts := WT) ⟨C.1, C.2.1, C.2.2.2.1, C.2.2.2.2.1, hts⟩ hc ⟨callB_of n hts (wt_goodIn hm.2.2.2.1) rfl rfl rfl (hts _ hm.2.2.1) (hts _ hl) hm.2.2.2.2 hR, hts _ hm.1, hts _ hm.2.1⟩ ⟨pc_blind, hrecv, pc_pre (as := .ref (100 + k) :: as) C hP hD hS⟩ rfl (by simpa using hn) hL.len (map_rev (as := as) (st := .ref (100 + k) :: st)) (by rw [cat_sum]; exact (by simpa [JFrame.monitorRoom] using hw)) hd ⟨Nat.le_refl _, Nat.le_refl _⟩) hS (fun r m' H1 locs1 hq1 hP1 hD1 hS1 => ?_)
  have k2 := kk r m' hq1 p e s mi args below meth c H1 locs1 arr C hP1 hD1 hS1 hL
  cases r <;> exact k2

theorem x_callS0v {rv : Value} {y : MethodName} {cy : ByteArray} {nL idx f2 l2 : Nat} {ry : Option FieldType} {m1 : TM} (hd : decode cc pc = .ok (.invokestatic idx, 3)) (hq : pc + 3 = q) (hl : Cond.methodLink own idx y ∈ WT) (hm : MS y cy nL ry 0) (hc : CT y cy nL ry f2 l2 K [] m (some rv) m1) (hw : (st.map fun v => v.category).sum ≤ 8) (hR : f2 + 1 ≤ fr ∧ 8 + (nL + 11) + l2 ≤ lo) (kk : XX own cc mL rt fr lo K q ls (rv :: st) m1 Q) : XX own cc mL rt fr lo K pc ls (st) m Q :=
  x_callS (as := []) hd hq hl hm hc rfl rfl hw hR (fun r m' h => by obtain ⟨rfl, rfl⟩ := h; exact kk)
theorem x_callV0v {rv : Value} {o ci : Nat} {y : MethodName} {cy : ByteArray} {nL idx f2 l2 : Nat} {ry : Option FieldType} {m1 : TM} (hd : decode cc pc = .ok (.invokevirtual idx, 3)) (hq : pc + 3 = q) (hl : Cond.methodLink own idx y ∈ WT) (hm : MV y cy nL ry 0) (hv : RV o ci) (hC : RR ci = y.cls) (hc : CT y cy nL ry f2 l2 K (.ref o :: []) m (some rv) m1) (hw : (st.map fun v => v.category).sum ≤ 8) (hR : f2 + 1 ≤ fr ∧ 8 + (nL + 11) + l2 ≤ lo) (kk : XX own cc mL rt fr lo K q ls (rv :: st) m1 Q) : XX own cc mL rt fr lo K pc ls (.ref o :: st) m Q :=
  x_callV (as := []) hd hq hl hm hv hC hc rfl rfl hw hR (fun r m' h => by obtain ⟨rfl, rfl⟩ := h; exact kk)
theorem x_callS0n {y : MethodName} {cy : ByteArray} {nL idx f2 l2 : Nat} {ry : Option FieldType} {m1 : TM} (hd : decode cc pc = .ok (.invokestatic idx, 3)) (hq : pc + 3 = q) (hl : Cond.methodLink own idx y ∈ WT) (hm : MS y cy nL ry 0) (hc : CT y cy nL ry f2 l2 K [] m none m1) (hw : (st.map fun v => v.category).sum ≤ 8) (hR : f2 + 1 ≤ fr ∧ 8 + (nL + 11) + l2 ≤ lo) (kk : XX own cc mL rt fr lo K q ls st m1 Q) : XX own cc mL rt fr lo K pc ls (st) m Q :=
  x_callS (as := []) hd hq hl hm hc rfl rfl hw hR (fun r m' h => by obtain ⟨rfl, rfl⟩ := h; exact kk)
theorem x_callV0n {o ci : Nat} {y : MethodName} {cy : ByteArray} {nL idx f2 l2 : Nat} {ry : Option FieldType} {m1 : TM} (hd : decode cc pc = .ok (.invokevirtual idx, 3)) (hq : pc + 3 = q) (hl : Cond.methodLink own idx y ∈ WT) (hm : MV y cy nL ry 0) (hv : RV o ci) (hC : RR ci = y.cls) (hc : CT y cy nL ry f2 l2 K (.ref o :: []) m none m1) (hw : (st.map fun v => v.category).sum ≤ 8) (hR : f2 + 1 ≤ fr ∧ 8 + (nL + 11) + l2 ≤ lo) (kk : XX own cc mL rt fr lo K q ls st m1 Q) : XX own cc mL rt fr lo K pc ls (.ref o :: st) m Q :=
  x_callV (as := []) hd hq hl hm hv hC hc rfl rfl hw hR (fun r m' h => by obtain ⟨rfl, rfl⟩ := h; exact kk)
theorem x_callS1v {a1 : Value} {rv : Value} {y : MethodName} {cy : ByteArray} {nL idx f2 l2 : Nat} {ry : Option FieldType} {m1 : TM} (hd : decode cc pc = .ok (.invokestatic idx, 3)) (hq : pc + 3 = q) (hl : Cond.methodLink own idx y ∈ WT) (hm : MS y cy nL ry 1) (hc : CT y cy nL ry f2 l2 K [a1] m (some rv) m1) (hw : (st.map fun v => v.category).sum ≤ 8) (hR : f2 + 1 ≤ fr ∧ 8 + (nL + 11) + l2 ≤ lo) (kk : XX own cc mL rt fr lo K q ls (rv :: st) m1 Q) : XX own cc mL rt fr lo K pc ls (a1 :: st) m Q :=
  x_callS (as := [a1]) hd hq hl hm hc rfl rfl hw hR (fun r m' h => by obtain ⟨rfl, rfl⟩ := h; exact kk)
theorem x_callV1v {a1 : Value} {rv : Value} {o ci : Nat} {y : MethodName} {cy : ByteArray} {nL idx f2 l2 : Nat} {ry : Option FieldType} {m1 : TM} (hd : decode cc pc = .ok (.invokevirtual idx, 3)) (hq : pc + 3 = q) (hl : Cond.methodLink own idx y ∈ WT) (hm : MV y cy nL ry 1) (hv : RV o ci) (hC : RR ci = y.cls) (hc : CT y cy nL ry f2 l2 K (.ref o :: [a1]) m (some rv) m1) (hw : (st.map fun v => v.category).sum ≤ 8) (hR : f2 + 1 ≤ fr ∧ 8 + (nL + 11) + l2 ≤ lo) (kk : XX own cc mL rt fr lo K q ls (rv :: st) m1 Q) : XX own cc mL rt fr lo K pc ls (a1 :: .ref o :: st) m Q :=
  x_callV (as := [a1]) hd hq hl hm hv hC hc rfl rfl hw hR (fun r m' h => by obtain ⟨rfl, rfl⟩ := h; exact kk)
theorem x_callS1n {a1 : Value} {y : MethodName} {cy : ByteArray} {nL idx f2 l2 : Nat} {ry : Option FieldType} {m1 : TM} (hd : decode cc pc = .ok (.invokestatic idx, 3)) (hq : pc + 3 = q) (hl : Cond.methodLink own idx y ∈ WT) (hm : MS y cy nL ry 1) (hc : CT y cy nL ry f2 l2 K [a1] m none m1) (hw : (st.map fun v => v.category).sum ≤ 8) (hR : f2 + 1 ≤ fr ∧ 8 + (nL + 11) + l2 ≤ lo) (kk : XX own cc mL rt fr lo K q ls st m1 Q) : XX own cc mL rt fr lo K pc ls (a1 :: st) m Q :=
  x_callS (as := [a1]) hd hq hl hm hc rfl rfl hw hR (fun r m' h => by obtain ⟨rfl, rfl⟩ := h; exact kk)
theorem x_callV1n {a1 : Value} {o ci : Nat} {y : MethodName} {cy : ByteArray} {nL idx f2 l2 : Nat} {ry : Option FieldType} {m1 : TM} (hd : decode cc pc = .ok (.invokevirtual idx, 3)) (hq : pc + 3 = q) (hl : Cond.methodLink own idx y ∈ WT) (hm : MV y cy nL ry 1) (hv : RV o ci) (hC : RR ci = y.cls) (hc : CT y cy nL ry f2 l2 K (.ref o :: [a1]) m none m1) (hw : (st.map fun v => v.category).sum ≤ 8) (hR : f2 + 1 ≤ fr ∧ 8 + (nL + 11) + l2 ≤ lo) (kk : XX own cc mL rt fr lo K q ls st m1 Q) : XX own cc mL rt fr lo K pc ls (a1 :: .ref o :: st) m Q :=
  x_callV (as := [a1]) hd hq hl hm hv hC hc rfl rfl hw hR (fun r m' h => by obtain ⟨rfl, rfl⟩ := h; exact kk)
theorem x_callS2v {a1 a2 : Value} {rv : Value} {y : MethodName} {cy : ByteArray} {nL idx f2 l2 : Nat} {ry : Option FieldType} {m1 : TM} (hd : decode cc pc = .ok (.invokestatic idx, 3)) (hq : pc + 3 = q) (hl : Cond.methodLink own idx y ∈ WT) (hm : MS y cy nL ry 2) (hc : CT y cy nL ry f2 l2 K [a1, a2] m (some rv) m1) (hw : (st.map fun v => v.category).sum ≤ 8) (hR : f2 + 1 ≤ fr ∧ 8 + (nL + 11) + l2 ≤ lo) (kk : XX own cc mL rt fr lo K q ls (rv :: st) m1 Q) : XX own cc mL rt fr lo K pc ls (a2 :: a1 :: st) m Q :=
  x_callS (as := [a1, a2]) hd hq hl hm hc rfl rfl hw hR (fun r m' h => by obtain ⟨rfl, rfl⟩ := h; exact kk)
theorem x_callV2v {a1 a2 : Value} {rv : Value} {o ci : Nat} {y : MethodName} {cy : ByteArray} {nL idx f2 l2 : Nat} {ry : Option FieldType} {m1 : TM} (hd : decode cc pc = .ok (.invokevirtual idx, 3)) (hq : pc + 3 = q) (hl : Cond.methodLink own idx y ∈ WT) (hm : MV y cy nL ry 2) (hv : RV o ci) (hC : RR ci = y.cls) (hc : CT y cy nL ry f2 l2 K (.ref o :: [a1, a2]) m (some rv) m1) (hw : (st.map fun v => v.category).sum ≤ 8) (hR : f2 + 1 ≤ fr ∧ 8 + (nL + 11) + l2 ≤ lo) (kk : XX own cc mL rt fr lo K q ls (rv :: st) m1 Q) : XX own cc mL rt fr lo K pc ls (a2 :: a1 :: .ref o :: st) m Q :=
  x_callV (as := [a1, a2]) hd hq hl hm hv hC hc rfl rfl hw hR (fun r m' h => by obtain ⟨rfl, rfl⟩ := h; exact kk)
theorem x_callS2n {a1 a2 : Value} {y : MethodName} {cy : ByteArray} {nL idx f2 l2 : Nat} {ry : Option FieldType} {m1 : TM} (hd : decode cc pc = .ok (.invokestatic idx, 3)) (hq : pc + 3 = q) (hl : Cond.methodLink own idx y ∈ WT) (hm : MS y cy nL ry 2) (hc : CT y cy nL ry f2 l2 K [a1, a2] m none m1) (hw : (st.map fun v => v.category).sum ≤ 8) (hR : f2 + 1 ≤ fr ∧ 8 + (nL + 11) + l2 ≤ lo) (kk : XX own cc mL rt fr lo K q ls st m1 Q) : XX own cc mL rt fr lo K pc ls (a2 :: a1 :: st) m Q :=
  x_callS (as := [a1, a2]) hd hq hl hm hc rfl rfl hw hR (fun r m' h => by obtain ⟨rfl, rfl⟩ := h; exact kk)
theorem x_callV2n {a1 a2 : Value} {o ci : Nat} {y : MethodName} {cy : ByteArray} {nL idx f2 l2 : Nat} {ry : Option FieldType} {m1 : TM} (hd : decode cc pc = .ok (.invokevirtual idx, 3)) (hq : pc + 3 = q) (hl : Cond.methodLink own idx y ∈ WT) (hm : MV y cy nL ry 2) (hv : RV o ci) (hC : RR ci = y.cls) (hc : CT y cy nL ry f2 l2 K (.ref o :: [a1, a2]) m none m1) (hw : (st.map fun v => v.category).sum ≤ 8) (hR : f2 + 1 ≤ fr ∧ 8 + (nL + 11) + l2 ≤ lo) (kk : XX own cc mL rt fr lo K q ls st m1 Q) : XX own cc mL rt fr lo K pc ls (a2 :: a1 :: .ref o :: st) m Q :=
  x_callV (as := [a1, a2]) hd hq hl hm hv hC hc rfl rfl hw hR (fun r m' h => by obtain ⟨rfl, rfl⟩ := h; exact kk)
theorem x_callS3v {a1 a2 a3 : Value} {rv : Value} {y : MethodName} {cy : ByteArray} {nL idx f2 l2 : Nat} {ry : Option FieldType} {m1 : TM} (hd : decode cc pc = .ok (.invokestatic idx, 3)) (hq : pc + 3 = q) (hl : Cond.methodLink own idx y ∈ WT) (hm : MS y cy nL ry 3) (hc : CT y cy nL ry f2 l2 K [a1, a2, a3] m (some rv) m1) (hw : (st.map fun v => v.category).sum ≤ 8) (hR : f2 + 1 ≤ fr ∧ 8 + (nL + 11) + l2 ≤ lo) (kk : XX own cc mL rt fr lo K q ls (rv :: st) m1 Q) : XX own cc mL rt fr lo K pc ls (a3 :: a2 :: a1 :: st) m Q :=
  x_callS (as := [a1, a2, a3]) hd hq hl hm hc rfl rfl hw hR (fun r m' h => by obtain ⟨rfl, rfl⟩ := h; exact kk)
theorem x_callV3v {a1 a2 a3 : Value} {rv : Value} {o ci : Nat} {y : MethodName} {cy : ByteArray} {nL idx f2 l2 : Nat} {ry : Option FieldType} {m1 : TM} (hd : decode cc pc = .ok (.invokevirtual idx, 3)) (hq : pc + 3 = q) (hl : Cond.methodLink own idx y ∈ WT) (hm : MV y cy nL ry 3) (hv : RV o ci) (hC : RR ci = y.cls) (hc : CT y cy nL ry f2 l2 K (.ref o :: [a1, a2, a3]) m (some rv) m1) (hw : (st.map fun v => v.category).sum ≤ 8) (hR : f2 + 1 ≤ fr ∧ 8 + (nL + 11) + l2 ≤ lo) (kk : XX own cc mL rt fr lo K q ls (rv :: st) m1 Q) : XX own cc mL rt fr lo K pc ls (a3 :: a2 :: a1 :: .ref o :: st) m Q :=
  x_callV (as := [a1, a2, a3]) hd hq hl hm hv hC hc rfl rfl hw hR (fun r m' h => by obtain ⟨rfl, rfl⟩ := h; exact kk)
theorem x_callS3n {a1 a2 a3 : Value} {y : MethodName} {cy : ByteArray} {nL idx f2 l2 : Nat} {ry : Option FieldType} {m1 : TM} (hd : decode cc pc = .ok (.invokestatic idx, 3)) (hq : pc + 3 = q) (hl : Cond.methodLink own idx y ∈ WT) (hm : MS y cy nL ry 3) (hc : CT y cy nL ry f2 l2 K [a1, a2, a3] m none m1) (hw : (st.map fun v => v.category).sum ≤ 8) (hR : f2 + 1 ≤ fr ∧ 8 + (nL + 11) + l2 ≤ lo) (kk : XX own cc mL rt fr lo K q ls st m1 Q) : XX own cc mL rt fr lo K pc ls (a3 :: a2 :: a1 :: st) m Q :=
  x_callS (as := [a1, a2, a3]) hd hq hl hm hc rfl rfl hw hR (fun r m' h => by obtain ⟨rfl, rfl⟩ := h; exact kk)
theorem x_callV3n {a1 a2 a3 : Value} {o ci : Nat} {y : MethodName} {cy : ByteArray} {nL idx f2 l2 : Nat} {ry : Option FieldType} {m1 : TM} (hd : decode cc pc = .ok (.invokevirtual idx, 3)) (hq : pc + 3 = q) (hl : Cond.methodLink own idx y ∈ WT) (hm : MV y cy nL ry 3) (hv : RV o ci) (hC : RR ci = y.cls) (hc : CT y cy nL ry f2 l2 K (.ref o :: [a1, a2, a3]) m none m1) (hw : (st.map fun v => v.category).sum ≤ 8) (hR : f2 + 1 ≤ fr ∧ 8 + (nL + 11) + l2 ≤ lo) (kk : XX own cc mL rt fr lo K q ls st m1 Q) : XX own cc mL rt fr lo K pc ls (a3 :: a2 :: a1 :: .ref o :: st) m Q :=
  x_callV (as := [a1, a2, a3]) hd hq hl hm hv hC hc rfl rfl hw hR (fun r m' h => by obtain ⟨rfl, rfl⟩ := h; exact kk)
theorem x_callS4v {a1 a2 a3 a4 : Value} {rv : Value} {y : MethodName} {cy : ByteArray} {nL idx f2 l2 : Nat} {ry : Option FieldType} {m1 : TM} (hd : decode cc pc = .ok (.invokestatic idx, 3)) (hq : pc + 3 = q) (hl : Cond.methodLink own idx y ∈ WT) (hm : MS y cy nL ry 4) (hc : CT y cy nL ry f2 l2 K [a1, a2, a3, a4] m (some rv) m1) (hw : (st.map fun v => v.category).sum ≤ 8) (hR : f2 + 1 ≤ fr ∧ 8 + (nL + 11) + l2 ≤ lo) (kk : XX own cc mL rt fr lo K q ls (rv :: st) m1 Q) : XX own cc mL rt fr lo K pc ls (a4 :: a3 :: a2 :: a1 :: st) m Q :=
  x_callS (as := [a1, a2, a3, a4]) hd hq hl hm hc rfl rfl hw hR (fun r m' h => by obtain ⟨rfl, rfl⟩ := h; exact kk)
theorem x_callV4v {a1 a2 a3 a4 : Value} {rv : Value} {o ci : Nat} {y : MethodName} {cy : ByteArray} {nL idx f2 l2 : Nat} {ry : Option FieldType} {m1 : TM} (hd : decode cc pc = .ok (.invokevirtual idx, 3)) (hq : pc + 3 = q) (hl : Cond.methodLink own idx y ∈ WT) (hm : MV y cy nL ry 4) (hv : RV o ci) (hC : RR ci = y.cls) (hc : CT y cy nL ry f2 l2 K (.ref o :: [a1, a2, a3, a4]) m (some rv) m1) (hw : (st.map fun v => v.category).sum ≤ 8) (hR : f2 + 1 ≤ fr ∧ 8 + (nL + 11) + l2 ≤ lo) (kk : XX own cc mL rt fr lo K q ls (rv :: st) m1 Q) : XX own cc mL rt fr lo K pc ls (a4 :: a3 :: a2 :: a1 :: .ref o :: st) m Q :=
  x_callV (as := [a1, a2, a3, a4]) hd hq hl hm hv hC hc rfl rfl hw hR (fun r m' h => by obtain ⟨rfl, rfl⟩ := h; exact kk)
theorem x_callS4n {a1 a2 a3 a4 : Value} {y : MethodName} {cy : ByteArray} {nL idx f2 l2 : Nat} {ry : Option FieldType} {m1 : TM} (hd : decode cc pc = .ok (.invokestatic idx, 3)) (hq : pc + 3 = q) (hl : Cond.methodLink own idx y ∈ WT) (hm : MS y cy nL ry 4) (hc : CT y cy nL ry f2 l2 K [a1, a2, a3, a4] m none m1) (hw : (st.map fun v => v.category).sum ≤ 8) (hR : f2 + 1 ≤ fr ∧ 8 + (nL + 11) + l2 ≤ lo) (kk : XX own cc mL rt fr lo K q ls st m1 Q) : XX own cc mL rt fr lo K pc ls (a4 :: a3 :: a2 :: a1 :: st) m Q :=
  x_callS (as := [a1, a2, a3, a4]) hd hq hl hm hc rfl rfl hw hR (fun r m' h => by obtain ⟨rfl, rfl⟩ := h; exact kk)
theorem x_callV4n {a1 a2 a3 a4 : Value} {o ci : Nat} {y : MethodName} {cy : ByteArray} {nL idx f2 l2 : Nat} {ry : Option FieldType} {m1 : TM} (hd : decode cc pc = .ok (.invokevirtual idx, 3)) (hq : pc + 3 = q) (hl : Cond.methodLink own idx y ∈ WT) (hm : MV y cy nL ry 4) (hv : RV o ci) (hC : RR ci = y.cls) (hc : CT y cy nL ry f2 l2 K (.ref o :: [a1, a2, a3, a4]) m none m1) (hw : (st.map fun v => v.category).sum ≤ 8) (hR : f2 + 1 ≤ fr ∧ 8 + (nL + 11) + l2 ≤ lo) (kk : XX own cc mL rt fr lo K q ls st m1 Q) : XX own cc mL rt fr lo K pc ls (a4 :: a3 :: a2 :: a1 :: .ref o :: st) m Q :=
  x_callV (as := [a1, a2, a3, a4]) hd hq hl hm hv hC hc rfl rfl hw hR (fun r m' h => by obtain ⟨rfl, rfl⟩ := h; exact kk)
theorem x_callS5v {a1 a2 a3 a4 a5 : Value} {rv : Value} {y : MethodName} {cy : ByteArray} {nL idx f2 l2 : Nat} {ry : Option FieldType} {m1 : TM} (hd : decode cc pc = .ok (.invokestatic idx, 3)) (hq : pc + 3 = q) (hl : Cond.methodLink own idx y ∈ WT) (hm : MS y cy nL ry 5) (hc : CT y cy nL ry f2 l2 K [a1, a2, a3, a4, a5] m (some rv) m1) (hw : (st.map fun v => v.category).sum ≤ 8) (hR : f2 + 1 ≤ fr ∧ 8 + (nL + 11) + l2 ≤ lo) (kk : XX own cc mL rt fr lo K q ls (rv :: st) m1 Q) : XX own cc mL rt fr lo K pc ls (a5 :: a4 :: a3 :: a2 :: a1 :: st) m Q :=
  x_callS (as := [a1, a2, a3, a4, a5]) hd hq hl hm hc rfl rfl hw hR (fun r m' h => by obtain ⟨rfl, rfl⟩ := h; exact kk)
theorem x_callV5v {a1 a2 a3 a4 a5 : Value} {rv : Value} {o ci : Nat} {y : MethodName} {cy : ByteArray} {nL idx f2 l2 : Nat} {ry : Option FieldType} {m1 : TM} (hd : decode cc pc = .ok (.invokevirtual idx, 3)) (hq : pc + 3 = q) (hl : Cond.methodLink own idx y ∈ WT) (hm : MV y cy nL ry 5) (hv : RV o ci) (hC : RR ci = y.cls) (hc : CT y cy nL ry f2 l2 K (.ref o :: [a1, a2, a3, a4, a5]) m (some rv) m1) (hw : (st.map fun v => v.category).sum ≤ 8) (hR : f2 + 1 ≤ fr ∧ 8 + (nL + 11) + l2 ≤ lo) (kk : XX own cc mL rt fr lo K q ls (rv :: st) m1 Q) : XX own cc mL rt fr lo K pc ls (a5 :: a4 :: a3 :: a2 :: a1 :: .ref o :: st) m Q :=
  x_callV (as := [a1, a2, a3, a4, a5]) hd hq hl hm hv hC hc rfl rfl hw hR (fun r m' h => by obtain ⟨rfl, rfl⟩ := h; exact kk)
theorem x_callS5n {a1 a2 a3 a4 a5 : Value} {y : MethodName} {cy : ByteArray} {nL idx f2 l2 : Nat} {ry : Option FieldType} {m1 : TM} (hd : decode cc pc = .ok (.invokestatic idx, 3)) (hq : pc + 3 = q) (hl : Cond.methodLink own idx y ∈ WT) (hm : MS y cy nL ry 5) (hc : CT y cy nL ry f2 l2 K [a1, a2, a3, a4, a5] m none m1) (hw : (st.map fun v => v.category).sum ≤ 8) (hR : f2 + 1 ≤ fr ∧ 8 + (nL + 11) + l2 ≤ lo) (kk : XX own cc mL rt fr lo K q ls st m1 Q) : XX own cc mL rt fr lo K pc ls (a5 :: a4 :: a3 :: a2 :: a1 :: st) m Q :=
  x_callS (as := [a1, a2, a3, a4, a5]) hd hq hl hm hc rfl rfl hw hR (fun r m' h => by obtain ⟨rfl, rfl⟩ := h; exact kk)
theorem x_callV5n {a1 a2 a3 a4 a5 : Value} {o ci : Nat} {y : MethodName} {cy : ByteArray} {nL idx f2 l2 : Nat} {ry : Option FieldType} {m1 : TM} (hd : decode cc pc = .ok (.invokevirtual idx, 3)) (hq : pc + 3 = q) (hl : Cond.methodLink own idx y ∈ WT) (hm : MV y cy nL ry 5) (hv : RV o ci) (hC : RR ci = y.cls) (hc : CT y cy nL ry f2 l2 K (.ref o :: [a1, a2, a3, a4, a5]) m none m1) (hw : (st.map fun v => v.category).sum ≤ 8) (hR : f2 + 1 ≤ fr ∧ 8 + (nL + 11) + l2 ≤ lo) (kk : XX own cc mL rt fr lo K q ls st m1 Q) : XX own cc mL rt fr lo K pc ls (a5 :: a4 :: a3 :: a2 :: a1 :: .ref o :: st) m Q :=
  x_callV (as := [a1, a2, a3, a4, a5]) hd hq hl hm hv hC hc rfl rfl hw hR (fun r m' h => by obtain ⟨rfl, rfl⟩ := h; exact kk)
theorem x_callT0v {rv : Value} {k : Nat} {y : MethodName} {cy : ByteArray} {nL idx f2 l2 : Nat} {ry : Option FieldType} {m1 : TM} (hd : decode cc pc = .ok (.invokevirtual idx, 3)) (hq : pc + 3 = q) (hl : Cond.methodLink own idx y ∈ WT) (hm : MV y cy nL ry 0) (hk : k < 13) (hC : "java/lang/String" = y.cls) (hc : CT y cy nL ry f2 l2 K (.ref (100 + k) :: []) m (some rv) m1) (hw : (st.map fun v => v.category).sum ≤ 8) (hR : f2 + 1 ≤ fr ∧ 8 + (nL + 11) + l2 ≤ lo) (kk : XX own cc mL rt fr lo K q ls (rv :: st) m1 Q) : XX own cc mL rt fr lo K pc ls (.ref (100 + k) :: st) m Q :=
  x_callT (as := []) hd hq hl hm hk hC hc rfl rfl hw hR (fun r m' h => by obtain ⟨rfl, rfl⟩ := h; exact kk)
theorem x_callT1v {a1 : Value} {rv : Value} {k : Nat} {y : MethodName} {cy : ByteArray} {nL idx f2 l2 : Nat} {ry : Option FieldType} {m1 : TM} (hd : decode cc pc = .ok (.invokevirtual idx, 3)) (hq : pc + 3 = q) (hl : Cond.methodLink own idx y ∈ WT) (hm : MV y cy nL ry 1) (hk : k < 13) (hC : "java/lang/String" = y.cls) (hc : CT y cy nL ry f2 l2 K (.ref (100 + k) :: [a1]) m (some rv) m1) (hw : (st.map fun v => v.category).sum ≤ 8) (hR : f2 + 1 ≤ fr ∧ 8 + (nL + 11) + l2 ≤ lo) (kk : XX own cc mL rt fr lo K q ls (rv :: st) m1 Q) : XX own cc mL rt fr lo K pc ls (a1 :: .ref (100 + k) :: st) m Q :=
  x_callT (as := [a1]) hd hq hl hm hk hC hc rfl rfl hw hR (fun r m' h => by obtain ⟨rfl, rfl⟩ := h; exact kk)
end CALLS
/-! a contract out of a walk -/
theorem wf_vals : ∀ (vs : List Value) (k : Nat), (∀ v ∈ vs, v.category = 1) → lv_wf ((vs.map Slot.val ++ List.replicate k Slot.unset).toArray) := by
  intro vs k h
  refine ⟨fun i v hv hc => ?_, fun i hi => ?_⟩
  · rw [List.getElem?_toArray] at hv
    by_cases hl : i < vs.length
    · rw [List.getElem?_append_left (by simpa using hl), List.getElem?_map] at hv
      cases hz : vs[i]? with
      | none => rw [hz] at hv; cases hv
      | some w =>
        rw [hz] at hv
        cases hv
        have := h v (List.mem_of_getElem? hz)
        omega
    · rw [List.getElem?_append_right (by simpa using hl)] at hv
      have := List.mem_of_getElem? hv
      rw [List.mem_replicate] at this
      cases this.2
  · rw [List.getElem?_toArray] at hi
    have := List.mem_of_getElem? hi
    rcases List.mem_append.mp this with h1 | h1
    · obtain ⟨w, -, hw⟩ := List.mem_map.mp h1
      cases hw
    · rw [List.mem_replicate] at h1
      cases h1.2
theorem ct_of {y : MethodName} {cc : ByteArray} {mL fr lo : Nat} {rt : Option FieldType} {K : Cx} {as : List Value} {m : TM} {Q : Option Value → TM → Prop} (hy : plainName y.cls = true) (hcat : ∀ v ∈ as, v.category = 1) (hlen : as.length ≤ mL) (h : XX y.cls cc mL rt fr lo K 0 (as.map some) [] m Q) : CQ y cc mL rt fr lo K as m Q := by
  refine Met.ofW (cc := cc) (maxL := mL) (ret := rt) hy rfl ?_
  intro p e s mi args below meth c s₁ B hml hv
  obtain ⟨rfl, hP, hD, hK, hSk⟩ := hv
  have hts := atoms_spec (ws := Cond.code y cc mL rt :: WT) B.pre
  have hown : s.vm.findClass y.cls = some mi.cls := findClass_of_methodNamed B.named
  have hcat2 : ∀ v ∈ as.map (vmp K), v.category = 1 := fun v hv => by
    obtain ⟨w, hw, rfl⟩ := List.mem_map.mp hv
    rw [vmp_cat]
    exact hcat w hw
  rw [entry_eq mi (as.map (vmp K)) hcat2]
  refine h p e s mi _ below meth c s.heap [] _ ⟨B.exec, B.bytes, B.returns, hml, hown, fun w hw => hts w (List.mem_cons_of_mem _ hw), B.notSynchronized, hK, hSk⟩ hP hD va_S.rf ?_
  refine ⟨by simp; omega, wf_vals _ _ hcat2, fun q hq => ?_⟩
  obtain ⟨v, hv, h2⟩ := lvOf_mem.mp hq
  rw [List.getElem?_map] at hv
  cases hz : as[q.1]? with
  | none => rw [hz] at hv; cases hv
  | some w =>
    rw [hz] at hv
    cases hv
    have hl : q.1 < as.length := (List.getElem?_eq_some_iff.mp hz).1
    rw [List.getElem?_toArray, List.getElem?_append_left (by simpa using hl), List.getElem?_map, List.getElem?_map, hz, h2]
    rfl
/-- locals beyond the arguments are unset at first -/
theorem x_pad {own : String} {cc : ByteArray} {mL : Nat} {rt : Option FieldType} {fr lo : Nat} {K : Cx} {pc : Nat} {ls : List (Option Value)} {st : List Value} {m : TM} {Q : Option Value → TM → Prop} (n : Nat) (h : XX own cc mL rt fr lo K pc (ls ++ List.replicate n none) st m Q) : XX own cc mL rt fr lo K pc ls st m Q := by
  intro p e s mi args below meth c H locs arr C hP hD hS hL
  refine h p e s mi args below meth c H locs arr C hP hD hS (lv_mono hL fun q hq => ?_)
  obtain ⟨v, hv, h2⟩ := lvOf_mem.mp hq
  refine lvOf_mem.mpr ⟨v, ?_, h2⟩
  by_cases hl : q.1 < ls.length
  · rwa [List.getElem?_append_left hl] at hv
  · rw [List.getElem?_append_right (by omega)] at hv
    have := List.mem_of_getElem? hv
    rw [List.mem_replicate] at this
    cases this.2
/-- fewer known locals -/
theorem x_sub {own : String} {cc : ByteArray} {mL : Nat} {rt : Option FieldType} {fr lo : Nat} {K : Cx} {pc : Nat} {ls : List (Option Value)} {st : List Value} {m : TM} {Q : Option Value → TM → Prop} (ls2 : List (Option Value)) (hs : ∀ (i : Nat) (v : Value), ls2[i]? = some (some v) → ls[i]? = some (some v)) (h : XX own cc mL rt fr lo K pc ls2 st m Q) : XX own cc mL rt fr lo K pc ls st m Q := by
  intro p e s mi args below meth c H locs arr C hP hD hS hL
  refine h p e s mi args below meth c H locs arr C hP hD hS (lv_mono hL fun q hq => ?_)
  obtain ⟨v, hv, h2⟩ := lvOf_mem.mp hq
  exact lvOf_mem.mpr ⟨v, hs _ _ hv, h2⟩
