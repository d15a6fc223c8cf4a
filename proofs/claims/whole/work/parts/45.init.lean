/-! constructors are called, and end -/
section INITS
variable {l : Launch} {D : va_G} {ca : Nat → ClassId} {A : Nat → Prop} {p : Program} {e : Env} {R : Room} {s : State} {mi : MethodId} {args : Array Value} {below : List Frame} {meth : Method} {c : Code} {mL : Nat} {Z : State → Prop} {own : String} {cc : ByteArray} {pc q : Nat} {lv : List (Nat × Value)} {st : List Value} {ws : va_W} {kc ks : Nat}
theorem i_back {A1 : Nat → Prop} {Q1 : va_W → Prop} {wc wr : va_W} {mc ms : Nat} {a : Array Value} {H : Heap} {locs : List Loc} {arr : Array Slot} {st0 rest : List Value}
    (hr : va_Run p l e R s mi args below meth c H locs kc ks mc ms (F0 mi pc arr st0) rest (QI D A1 Q1 a) A1) (hA1 : A1 = va_A wc H.size) (hP : va_P D vwCl ws H) (hD : va_D A ws) (hS : va_S A s.heap H locs) (hA : ∀ q, s.heap.size ≤ q → A q) (isC isR : List Nat) (hC : isC.map (fun i => ws[i]?) = wc.map some) (hR : isR.map (fun i => ws[i]?) = wr.map some) (hn : va_nd isR = true) (hdis : ∀ i ∈ isR, i ∉ isC)
    (kk : ∀ (w1 : va_W) (H1 : Heap) (locs1 : List Loc), Q1 w1 → va_P D vwCl (wr ++ w1) H1 → va_D A (wr ++ w1) → va_S A s.heap H1 locs1 → W p l e R s mi args below meth c H1 locs1 (kc + mc) (ks + ms) Z (F0 mi (pc + 3) arr rest)) : W p l e R s mi args below meth c H locs kc ks Z (F0 mi pc arr st0) := by
  subst hA1
  have hF := va_free (wc := wc) hD hS hA isC hC
  intro T hT X
  obtain ⟨v, st₀, t, T', L, h0, X', hL, e1, e2, ⟨⟨w1, hv, hq, hb, hd⟩, hz, hk⟩, stp⟩ := hr T hT X
  cases hv
  rw [h0] at hz hk
  obtain ⟨hP1, hD1⟩ := va_join hP hD isC isR hC hR hn hdis hk hF hb hd
  obtain ⟨t2, a1, b1⟩ := kk w1 T'.heap (locs ++ L) hq (by rw [e1]; exact hP1) hD1
    ⟨Nat.le_trans hS.1 (by rw [e1]; exact hz), fun q h1 h2 => by rw [e1, hk q (Nat.lt_of_lt_of_le h1 hS.1) (fun h => h2 (hF q h))]; exact hS.2.1 q h1 h2, fun q hq => by
      rcases List.mem_append.mp hq with h | h
      · exact hS.2.2 q h
      · exact hF _ (hL q h)⟩ T' rfl X'
  exact ⟨t2, stp t2 a1, b1⟩
theorem ci_blind {q sz ci : Nat} {fs : List Value} : FrameBlind (va_Pc [.ref q] (fun U => U.heap.size = sz ∧ va_P D vwCl [(q, eO ci fs)] U.heap ∧ va_K D vwCl (tyL ca) U ∧ NWs U ∧ va_D (fun _ => True) [(q, eO ci fs)])) := by
  intro a U g mk hq
  obtain ⟨h1, h2, h3, h4, h5, h6⟩ := hq
  exact ⟨h1, h2, h3, va_K.moved (u := U) (U := U.calling g mk a) (Vm.Alike.refl U.vm) h4, NWs.same (s := U) (U := U.calling g mk a) rfl h5, h6⟩
theorem ci_pre {k a ci : Nat} {fs : List Value} {H : Heap} (C : CXT own cc mL D ca p s mi args meth c A) (hP : va_P D vwCl ws H) (hD : va_D A ws) (he : ws[k]? = some (a, eO ci fs)) (U : State) (hU : U.heap = H) (hW : s.WarmedH U.vm) : va_Pc [.ref a] (fun U => U.heap.size = H.size ∧ va_P D vwCl [(a, eO ci fs)] U.heap ∧ va_K D vwCl (tyL ca) U ∧ NWs U ∧ va_D (fun _ => True) [(a, eO ci fs)]) [.ref a].toArray U := by
  have hPc : va_P D vwCl [(a, eO ci fs)] H := hP.sub [k] (by simp [he])
  have hDc : va_D A [(a, eO ci fs)] := hD.sub [k] (by simp [va_nd]) (by simp [he])
  exact ⟨rfl, by rw [hU], by rw [hU]; exact hPc, va_K.moved hW.alike C.2.2.2.2.2.1, NWs.warm hW C.2.2.2.2.2.2.1, hDc.weaken (fun _ _ _ _ => trivial)⟩
theorem i_init {y : MethodName} {cy : ByteArray} {nL f2 l2 mc ms ci a idx k : Nat} {fs : List Value} {Post : Nat → va_W → Prop} {wr : va_W} (isR : List Nat) (C : CXT own cc mL D ca p s mi args meth c A) (hd : decode cc pc = .ok (.invokespecial idx, 3)) (hq : pc + 3 = q) (hc : CI l D ca y cy nL f2 l2 mc ms ci fs Post) (hl : Cond.methodLink own idx y ∈ WT) (hi : Cond.instanceMethod y ∈ WT) (hini : Cond.initialized y.cls ∈ WT) (hcode : Cond.code y cy nL none ∈ WT) (hy1 : y.name = "<init>") (hyd : y.cls ≠ "java/lang/invoke/MethodHandle" ∧ y.cls ≠ "java/lang/invoke/VarHandle" ∧ (parseMethodDescriptor y.desc).map (fun d => d.parameters.length) = some 0) (he : ws[k]? = some (a, eO ci fs)) (hR : isR.map (fun i => ws[i]?) = wr.map some) (hn : va_nd isR = true) (hdis : k ∉ isR) (hrm : f2 + 1 ≤ R.frames ∧ 8 + (nL + 11) + l2 ≤ R.locals) (hcs : kc + mc ≤ R.cells ∧ ks + ms ≤ R.slots) (hst : (st.map fun v => v.category).sum ≤ 8) (kk : ∀ w1, Post a w1 → XI l D A p e R s mi args below meth c mL Z q lv st (wr ++ w1) (kc + mc) (ks + ms)) : XI l D A p e R s mi args below meth c mL Z pc lv (.ref a :: st) ws kc ks := by
  subst hq
  intro H locs arr hP hD hS hL
  have hts := C.2.2.2.2.1
  refine i_back (wc := [(a, eO ci fs)]) (va_runI (As := []) (rest := st) ⟨C.1, C.2.1, C.2.2.1, C.2.2.2.1, hts⟩ (hc a H.size) (cwI 0 hts (wt_goodIn hcode) rfl rfl rfl (hts _ hini) (hts _ hl) (hts _ hi) hy1 hyd hrm) ⟨ci_blind, ci_pre C hP hD he⟩ rfl rfl hL.1 rfl (by simpa [JFrame.monitorRoom] using hst) hd hcs) rfl hP hD hS C.2.2.2.2.2.2.2 [k] isR (by simp [he]) hR hn (fun i h1 h2 => by rw [List.mem_singleton] at h2; subst h2; exact hdis h1) (fun w1 H1 locs1 hq1 hP1 hD1 hS1 => ?_)
  exact kk w1 hq1 H1 locs1 arr hP1 hD1 hS1 hL
theorem i_initN {y : MethodName} {cy : ByteArray} {host : String} {nL f2 l2 mc ms ci a idx k : Nat} {fs : List Value} {Post : Nat → va_W → Prop} {wr : va_W} (isR : List Nat) (C : CXT own cc mL D ca p s mi args meth c A) (hd : decode cc pc = .ok (.invokespecial idx, 3)) (hq : pc + 3 = q) (hc : CI l D ca y cy nL f2 l2 mc ms ci fs Post) (hl : va_Nw (.methodLinkNest own idx y host) s) (hi : Cond.instanceMethod y ∈ WT) (hini : Cond.initialized y.cls ∈ WT) (hcode : Cond.code y cy nL none ∈ WT) (hy1 : y.name = "<init>") (hyd : y.cls ≠ "java/lang/invoke/MethodHandle" ∧ y.cls ≠ "java/lang/invoke/VarHandle" ∧ (parseMethodDescriptor y.desc).map (fun d => d.parameters.length) = some 0) (he : ws[k]? = some (a, eO ci fs)) (hR : isR.map (fun i => ws[i]?) = wr.map some) (hn : va_nd isR = true) (hdis : k ∉ isR) (hrm : f2 + 1 ≤ R.frames ∧ 8 + (nL + 11) + l2 ≤ R.locals) (hcs : kc + mc ≤ R.cells ∧ ks + ms ≤ R.slots) (hst : (st.map fun v => v.category).sum ≤ 8) (kk : ∀ w1, Post a w1 → XI l D A p e R s mi args below meth c mL Z q lv st (wr ++ w1) (kc + mc) (ks + ms)) : XI l D A p e R s mi args below meth c mL Z pc lv (.ref a :: st) ws kc ks := by
  subst hq
  intro H locs arr hP hD hS hL
  have hts := C.2.2.2.2.1
  refine i_back (wc := [(a, eO ci fs)]) (va_runIN (As := []) (rest := st) ⟨C.1, C.2.1, C.2.2.1, C.2.2.2.1, hts⟩ (hc a H.size) ⟨va_cnB 0 hts (wt_goodIn hcode) rfl rfl rfl hl (hts _ hini) hyd hrm, hy1, hts _ hi⟩ ⟨ci_blind, ci_pre C hP hD he⟩ rfl rfl hL.1 rfl (by simpa [JFrame.monitorRoom] using hst) hd hcs) rfl hP hD hS C.2.2.2.2.2.2.2 [k] isR (by simp [he]) hR hn (fun i h1 h2 => by rw [List.mem_singleton] at h2; subst h2; exact hdis h1) (fun w1 H1 locs1 hq1 hP1 hD1 hS1 => ?_)
  exact kk w1 hq1 H1 locs1 arr hP1 hD1 hS1 hL
theorem i_return {Post : va_W → Prop} (C : CXT own cc mL D ca p s mi args meth c A) (hrt : meth.sig.returnType = none) (hlk : meth.locks = false) (hd : decode cc pc = .ok (.return_, 1)) (hq : Post ws) : XI l D A p e R s mi args below meth c mL (MQ below (QI D A Post) args s kc ks A) pc lv [] ws kc ks := by
  intro H locs arr hP hD hS hL
  exact W.vret C.1 C.2.1 hrt (fun t ht _ => ⟨⟨ws, rfl, hq, by rw [ht]; exact hP, hD⟩, hS.F ht⟩) hS.2.2 hd hlk
end INITS
/-- a contract out of a walk -/
theorem ci_of {l : Launch} {D : va_G} {ca : Nat → ClassId} {y : MethodName} {cc : ByteArray} {mL fr lo mc ms ci : Nat} {fs : List Value} {Post : Nat → va_W → Prop} (hy : plainName y.cls = true) (hnm : y.name = "<init>") (hm : 1 ≤ mL)
    (h : ∀ (q : Nat) (A : Nat → Prop) (p : Program) (e : Env) (s : State) (mi : MethodId) (args : Array Value) (below : List Frame) (meth : Method) (c : Code), CXT y.cls cc mL D ca p s mi args meth c A → meth.name = "<init>" → meth.sig.returnType = none → meth.locks = false → XI l D A p e ({ frames := fr, cells := mc, slots := ms, locals := lo }) s mi args below meth c mL (MQ below (QI D A (Post q)) args s mc ms A) 0 [(0, .ref q)] [] [(q, eO ci fs)] 0 0) : CI l D ca y cc mL fr lo mc ms ci fs Post := by
  intro q sz
  refine Met.ofW (cc := cc) (maxL := mL) (ret := none) hy rfl ?_
  intro p e s mi args below meth c s₁ B hml hv
  obtain ⟨rfl, hsz, hP, hK, hN, hD0⟩ := hv
  have hts := atoms_spec (ws := Cond.code y cc mL none :: WT) B.pre
  have hown : s.vm.findClass y.cls = some mi.cls := findClass_of_methodNamed B.named
  have hin : meth.name = "<init>" := (name_of_methodNamed B.named B.method).1.trans hnm
  subst hsz
  have hD := hD0.self (sz := s.heap.size)
  have hl := lv_entry ([.ref q]) (n := mL) hm
  rw [lg_entry_eq]
  generalize (lg_sl ([.ref q]) ++ List.replicate (mL - (lg_sl ([.ref q])).length) Slot.unset).toArray = arr at hl ⊢
  exact h q _ p e s mi _ below meth c ⟨B.exec, B.bytes, hml, hown, fun w hw => hts w (List.mem_cons_of_mem _ hw), hK, hN, fun q hq => Or.inr hq⟩ hin B.returns B.notSynchronized s.heap [] arr hP hD va_S.rf hl
