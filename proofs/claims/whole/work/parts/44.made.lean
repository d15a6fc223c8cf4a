/-! the making of the world: a judgement over explicit worlds, and the constructors' contracts -/
def tyL (ca : Nat → ClassId) : List (ClassId × FieldType) := [(ca 6, .byte), (ca 7, .char), (ca 8, .int), (ca 9, .object RX1), (ca 10, .object RX2)]
def NWs (U : State) : Prop := va_AO RX1 U ∧ va_AO RX2 U ∧ va_Nw (.methodLinkNest RX0 43 yX1_init RX4) U ∧ va_Nw (.methodLinkNest RX4 28 yX3_init RX4) U ∧ va_Nw (.methodLinkNest RX4 43 yX2_init RX4) U
theorem NWs.warm {s U : State} (hW : s.WarmedH U.vm) (h : NWs s) : NWs U := ⟨va_AO.moved hW.alike h.1, va_AO.moved hW.alike h.2.1, va_Nw.warmM hW h.2.2.1, va_Nw.warmM hW h.2.2.2.1, va_Nw.warmM hW h.2.2.2.2⟩
theorem NWs.same {s U : State} (hv : s.vm = U.vm) (h : NWs s) : NWs U := ⟨va_AO.moved (by rw [hv]; exact Vm.Alike.refl _) h.1, va_AO.moved (by rw [hv]; exact Vm.Alike.refl _) h.2.1, va_Nw.same rfl hv h.2.2.1, va_Nw.same rfl hv h.2.2.2.1, va_Nw.same rfl hv h.2.2.2.2⟩
/-- entries of a world -/
abbrev eI (cA : ClassId) (n : Nat) (f : Nat → Int32) : va_E := .inl (cA, n, .inl f)
abbrev eR (cA : ClassId) (n : Nat) (f : Nat → Option Nat) : va_E := .inl (cA, n, .inr (.inr (.inr (.inr f))))
abbrev eO (ci : Nat) (fs : List Value) : va_E := .inr (ci, fs)
/-- a constructor's end -/
def QI (D : va_G) (A : Nat → Prop) (Post : va_W → Prop) : Array Value → State → Outcome → State → Prop := fun _ st o t => (∃ w1 : va_W, o = .returned none ∧ Post w1 ∧ va_P D vwCl w1 t.heap ∧ va_D A w1) ∧ va_F A st t
/-- a constructor's contract -/
def CI (l : Launch) (D : va_G) (ca : Nat → ClassId) (y : MethodName) (cc : ByteArray) (mL fr lo mc ms ci : Nat) (fs : List Value) (Post : Nat → va_W → Prop) : Prop :=
  ∀ q sz : Nat, Met l y (Cond.code y cc mL none :: WT) ({ frames := fr, cells := mc, slots := ms, locals := lo }) (va_Pc [.ref q] (fun U => U.heap.size = sz ∧ va_P D vwCl [(q, eO ci fs)] U.heap ∧ va_K D vwCl (tyL ca) U ∧ NWs U ∧ va_D (fun _ => True) [(q, eO ci fs)])) (QI D (va_A [(q, eO ci fs)] sz) (Post q)) mc ms (va_A [(q, eO ci fs)] sz)
/-- what a body stands on -/
def CXT (own : String) (cc : ByteArray) (mL : Nat) (D : va_G) (ca : Nat → ClassId) (p : Program) (s : State) (mi : MethodId) (args : Array Value) (meth : Method) (c : Code) (A : Nat → Prop) : Prop :=
  p.tables.exec = Jvm.exec ∧ c.code = cc ∧ c.maxLocals = mL ∧ s.vm.findClass own = some mi.cls ∧ (∀ w ∈ WT, w.before args s = true) ∧ va_K D vwCl (tyL ca) s ∧ NWs s ∧ (∀ q, s.heap.size ≤ q → A q)
def XI (l : Launch) (D : va_G) (A : Nat → Prop) (p : Program) (e : Env) (R : Room) (s : State) (mi : MethodId) (args : Array Value) (below : List Frame) (meth : Method) (c : Code) (mL : Nat) (Z : State → Prop) (pc : Nat) (lv : List (Nat × Value)) (st : List Value) (ws : va_W) (kc ks : Nat) : Prop :=
  ∀ (H : Heap) (locs : List Loc) (arr : Array Slot), va_P D vwCl ws H → va_D A ws → va_S A s.heap H locs → lv_has arr mL lv → W p l e R s mi args below meth c H locs kc ks Z (F0 mi pc arr st)
theorem fc_one {U : State} {x : String} {a b : ClassId} (h1 : U.vm.findClass x = some a) (h2 : U.vm.findClass x = some b) : a = b := Option.some.inj (h1.symm.trans h2)
section MADE
variable {l : Launch} {D : va_G} {ca : Nat → ClassId} {A : Nat → Prop} {p : Program} {e : Env} {R : Room} {s : State} {mi : MethodId} {args : Array Value} {below : List Frame} {meth : Method} {c : Code} {mL : Nat} {Z : State → Prop} {own : String} {cc : ByteArray} {pc q : Nat} {lv : List (Nat × Value)} {st : List Value} {ws : va_W} {kc ks : Nat}
theorem i_ws {ws' : va_W} (h : ws = ws') (kk : XI l D A p e R s mi args below meth c mL Z pc lv st ws' kc ks) : XI l D A p e R s mi args below meth c mL Z pc lv st ws kc ks := by rw [h]; exact kk
theorem i_widen {k n : Nat} (h1 : kc ≤ k) (h2 : ks ≤ n) (kk : XI l D A p e R s mi args below meth c mL Z pc lv st ws k n) : XI l D A p e R s mi args below meth c mL Z pc lv st ws kc ks := fun H locs arr hP hD hS hL => W.widen h1 h2 (kk H locs arr hP hD hS hL)
theorem i_iconst {n : Int} {v : Int32} (C : CXT own cc mL D ca p s mi args meth c A) (hd : decode cc pc = .ok (.iconst n, 1)) (hq : pc + 1 = q) (hv : Int32.ofInt n = v) (kk : XI l D A p e R s mi args below meth c mL Z q lv (.int v :: st) ws kc ks) : XI l D A p e R s mi args below meth c mL Z pc lv st ws kc ks := by
  subst hq
  intro H locs arr hP hD hS hL
  exact lv_iconst C.1 C.2.1 hd hv (kk H locs arr hP hD hS hL)
theorem i_bipush {n : Int} {v : Int32} (C : CXT own cc mL D ca p s mi args meth c A) (hd : decode cc pc = .ok (.bipush n, 2)) (hq : pc + 2 = q) (hv : (Int8.ofInt n).toInt32 = v) (kk : XI l D A p e R s mi args below meth c mL Z q lv (.int v :: st) ws kc ks) : XI l D A p e R s mi args below meth c mL Z pc lv st ws kc ks := by
  subst hq
  intro H locs arr hP hD hS hL
  exact lv_bipush C.1 C.2.1 hd hv (kk H locs arr hP hD hS hL)
theorem i_sipush {n : Int} {v : Int32} (C : CXT own cc mL D ca p s mi args meth c A) (hd : decode cc pc = .ok (.sipush n, 3)) (hq : pc + 3 = q) (hv : (Int16.ofInt n).toInt32 = v) (kk : XI l D A p e R s mi args below meth c mL Z q lv (.int v :: st) ws kc ks) : XI l D A p e R s mi args below meth c mL Z pc lv st ws kc ks := by
  subst hq
  intro H locs arr hP hD hS hL
  exact lv_sipush C.1 C.2.1 hd hv (kk H locs arr hP hD hS hL)
theorem i_aload_n {k : Fin 4} {i a : Nat} (C : CXT own cc mL D ca p s mi args meth c A) (hd : decode cc pc = .ok (.aload_n k, 1)) (hq : pc + 1 = q) (hl : lv[i]? = some ((k : Nat), .ref a)) (kk : XI l D A p e R s mi args below meth c mL Z q lv (.ref a :: st) ws kc ks) : XI l D A p e R s mi args below meth c mL Z pc lv st ws kc ks := by
  subst hq
  intro H locs arr hP hD hS hL
  exact lv_aload_n C.1 C.2.1 hd rfl (lv_at hL i hl) (kk H locs arr hP hD hS hL)
theorem i_iload_n {k : Fin 4} {i : Nat} {x : Int32} (C : CXT own cc mL D ca p s mi args meth c A) (hd : decode cc pc = .ok (.iload_n k, 1)) (hq : pc + 1 = q) (hl : lv[i]? = some ((k : Nat), .int x)) (kk : XI l D A p e R s mi args below meth c mL Z q lv (.int x :: st) ws kc ks) : XI l D A p e R s mi args below meth c mL Z pc lv st ws kc ks := by
  subst hq
  intro H locs arr hP hD hS hL
  exact lv_iload_n C.1 C.2.1 hd rfl (lv_at hL i hl) (kk H locs arr hP hD hS hL)
theorem i_istore_n {k : Fin 4} {x : Int32} {lv' : List (Nat × Value)} (C : CXT own cc mL D ca p s mi args meth c A) (hd : decode cc pc = .ok (.istore_n k, 1)) (hq : pc + 1 = q) (hn : (k : Nat) < mL) (hl : ((k : Nat), Value.int x) :: lv.filter (fun q => !(q.1 == (k : Nat)) && !(q.1 + 1 == (k : Nat) && q.2.category == 2)) = lv') (kk : XI l D A p e R s mi args below meth c mL Z q lv' st ws kc ks) : XI l D A p e R s mi args below meth c mL Z pc lv (.int x :: st) ws kc ks := by
  subst hq
  intro H locs arr hP hD hS hL
  exact lv_istore_n C.1 C.2.1 hd rfl hL hn hl (fun arr2 h2 => kk H locs arr2 hP hD hS h2)
theorem i_astore_n {k : Fin 4} {x : Nat} {lv' : List (Nat × Value)} (C : CXT own cc mL D ca p s mi args meth c A) (hd : decode cc pc = .ok (.astore_n k, 1)) (hq : pc + 1 = q) (hn : (k : Nat) < mL) (hl : ((k : Nat), Value.ref x) :: lv.filter (fun q => !(q.1 == (k : Nat)) && !(q.1 + 1 == (k : Nat) && q.2.category == 2)) = lv') (kk : XI l D A p e R s mi args below meth c mL Z q lv' st ws kc ks) : XI l D A p e R s mi args below meth c mL Z pc lv (.ref x :: st) ws kc ks := by
  subst hq
  intro H locs arr hP hD hS hL
  exact lv_astore_n C.1 C.2.1 hd rfl hL hn hl (fun arr2 h2 => kk H locs arr2 hP hD hS h2)
theorem i_iinc {k i : Nat} {n : Int} {x v : Int32} {lv' : List (Nat × Value)} (C : CXT own cc mL D ca p s mi args meth c A) (hd : decode cc pc = .ok (.iinc k n, 3)) (hq : pc + 3 = q) (hk : lv[i]? = some (k, .int x)) (hv : x + Int32.ofInt n = v) (hn : k < mL) (hl : (k, Value.int v) :: lv.filter (fun q => !(q.1 == k) && !(q.1 + 1 == k && q.2.category == 2)) = lv') (kk : XI l D A p e R s mi args below meth c mL Z q lv' st ws kc ks) : XI l D A p e R s mi args below meth c mL Z pc lv st ws kc ks := by
  subst hq
  intro H locs arr hP hD hS hL
  exact lv_iinc C.1 C.2.1 hd hL hk hv hn hl (fun arr2 h2 => kk H locs arr2 hP hD hS h2)
theorem i_goto {off : Int} {t : Nat} (C : CXT own cc mL D ca p s mi args meth c A) (hd : decode cc pc = .ok (.goto off, 3)) (ht : (pc : Int) + off = (t : Int)) (kk : XI l D A p e R s mi args below meth c mL Z t lv st ws kc ks) : XI l D A p e R s mi args below meth c mL Z pc lv st ws kc ks := by
  intro H locs arr hP hD hS hL
  exact lv_goto C.1 C.2.1 hd ht (kk H locs arr hP hD hS hL)
theorem i_icmp_ge {x y : Int32} {off : Int} {t : Nat} (C : CXT own cc mL D ca p s mi args meth c A) (hd : decode cc pc = .ok (.if_icmp .ge off, 3)) (hq : pc + 3 = q) (ht : (pc : Int) + off = (t : Int)) (kt : y ≤ x → XI l D A p e R s mi args below meth c mL Z t lv st ws kc ks) (kf : ¬ y ≤ x → XI l D A p e R s mi args below meth c mL Z q lv st ws kc ks) : XI l D A p e R s mi args below meth c mL Z pc lv (.int y :: .int x :: st) ws kc ks := by
  subst hq
  intro H locs arr hP hD hS hL
  exact lv_icmp_ge C.1 C.2.1 hd ht (fun h => kt h H locs arr hP hD hS hL) (fun h => kf h H locs arr hP hD hS hL)
theorem i_dup {v : Value} (C : CXT own cc mL D ca p s mi args meth c A) (hd : decode cc pc = .ok (.dup, 1)) (hq : pc + 1 = q) (hc : v.category = 1) (kk : XI l D A p e R s mi args below meth c mL Z q lv (v :: v :: st) ws kc ks) : XI l D A p e R s mi args below meth c mL Z pc lv (v :: st) ws kc ks := by
  subst hq
  intro H locs arr hP hD hS hL
  exact lv_dup C.1 C.2.1 hd hc (kk H locs arr hP hD hS hL)
theorem i_get {idx ci k a q0 : Nat} {fs : List Value} {v : Value} (C : CXT own cc mL D ca p s mi args meth c A) (hd : decode cc pc = .ok (.getfield idx, 3)) (hq : pc + 3 = q) (hf : FL own idx ci k) (he : ws[q0]? = some (a, eO ci fs)) (hv : fs[k]? = some v) (kk : XI l D A p e R s mi args below meth c mL Z q lv (v :: st) ws kc ks) : XI l D A p e R s mi args below meth c mL Z pc lv (.ref a :: st) ws kc ks := by
  subst hq
  intro H locs arr hP hD hS hL
  exact va_get (C := RR ci) (T := TT ci) (N := NN ci) C.1 C.2.1 C.2.2.2.2.1 (iw _ hf.2.2) C.2.2.2.1 C.2.2.2.2.2.1 hP q0 he (vw_at _ hf.2.2) k hf.2.1 (C.2.2.2.2.1 _ hf.1) (fun _ h => h) hv hd (kk H locs arr hP hD hS hL)
theorem i_put {idx ci k a q0 : Nat} {fs : List Value} {v : Value} {ws' : va_W} (C : CXT own cc mL D ca p s mi args meth c A) (hd : decode cc pc = .ok (.putfield idx, 3)) (hq : pc + 3 = q) (hf : FL own idx ci k) (he : ws[q0]? = some (a, eO ci fs)) (hfin : (TT ci k).2.2.2 = false) (hn : narrow (tyT ci k) v = v) (hfit : fits (tyT ci k) v = true) (hk : k < fs.length) (hw : ws.set q0 (a, eO ci (fs.set k v)) = ws') (kk : XI l D A p e R s mi args below meth c mL Z q lv st ws' kc ks) : XI l D A p e R s mi args below meth c mL Z pc lv (v :: .ref a :: st) ws kc ks := by
  subst hq; subst hw
  intro H locs arr hP hD hS hL
  exact va_put (ci := ci) (C := RR ci) (T := TT ci) (N := NN ci) C.1 C.2.1 C.2.2.2.2.1 (iw _ hf.2.2) (tyT ci) (ty_ok _ hf.2.2) (nm_ok _ hf.2.2) C.2.2.2.1 C.2.2.2.2.2.1 hP hD hS q0 he (vw_at _ hf.2.2) k hf.2.1 (C.2.2.2.2.1 _ hf.1) (fun _ h => h) hfin (ty_ok _ hf.2.2 k hf.2.1) hn hfit hk hd (fun H1 locs1 hP1 hD1 hS1 => kk H1 locs1 arr hP1 hD1 hS1 hL)
theorem i_putF {idx ci k a q0 : Nat} {fs : List Value} {v : Value} {ws' : va_W} (C : CXT own cc mL D ca p s mi args meth c A) (hin : meth.name = "<init>") (hd : decode cc pc = .ok (.putfield idx, 3)) (hq : pc + 3 = q) (hf : FL own idx ci k) (he : ws[q0]? = some (a, eO ci fs)) (hfin : (TT ci k).2.2.2 = true) (hdc : (TT ci k).1 = own) (hn : narrow (tyT ci k) v = v) (hfit : fits (tyT ci k) v = true) (hk : k < fs.length) (hw : ws.set q0 (a, eO ci (fs.set k v)) = ws') (kk : XI l D A p e R s mi args below meth c mL Z q lv st ws' kc ks) : XI l D A p e R s mi args below meth c mL Z pc lv (v :: .ref a :: st) ws kc ks := by
  subst hq; subst hw
  intro H locs arr hP hD hS hL
  exact va_putF (ci := ci) (C := RR ci) (T := TT ci) (N := NN ci) C.1 C.2.1 C.2.2.2.2.1 (iw _ hf.2.2) (tyT ci) (ty_ok _ hf.2.2) (nm_ok _ hf.2.2) C.2.2.2.1 C.2.2.2.2.2.1 hP hD hS q0 he (vw_at _ hf.2.2) k hf.2.1 (C.2.2.2.2.1 _ hf.1) (fun _ h => h) hfin hin hdc (ty_ok _ hf.2.2 k hf.2.1) hn hfit hk hd (fun H1 locs1 hP1 hD1 hS1 => kk H1 locs1 arr hP1 hD1 hS1 hL)
theorem i_new {idx ci N : Nat} {fs : List Value} (C : CXT own cc mL D ca p s mi args meth c A) (hd : decode cc pc = .ok (.new idx, 3)) (hq : pc + 3 = q) (h6 : ci < 6) (hN : NN ci = N) (hl : Cond.classLink own idx (RR ci) ∈ WT) (hi : Cond.instantiable (RR ci) N ∈ WT) (hini : Cond.initialized (RR ci) ∈ WT) (hfs : ∀ j, j < N → defaultValue (tyT ci j) = vp_V fs j) (hc : kc + 1 ≤ R.cells) (hs : ks + N ≤ R.slots) (kk : ∀ a : Nat, XI l D A p e R s mi args below meth c mL Z q lv (.ref a :: st) (ws ++ [(a, eO ci fs)]) (kc + 1) (ks + N)) : XI l D A p e R s mi args below meth c mL Z pc lv st ws kc ks := by
  subst hq; subst hN
  intro H locs arr hP hD hS hL
  exact va_new (ci := ci) (fs := fs) (C := RR ci) (T := TT ci) (N := NN ci) C.1 C.2.1 C.2.2.2.2.1 (iw _ h6) (tyT ci) (ty_ok _ h6) C.2.2.2.1 (C.2.2.2.2.1 _ hl) (C.2.2.2.2.1 _ hi) (C.2.2.2.2.1 _ hini) C.2.2.2.2.2.1 hP hD hS C.2.2.2.2.2.2.2 (vw_at _ h6) hfs hc hs hd (fun a H1 hP1 hD1 hS1 => kk a H1 locs arr hP1 hD1 hS1 hL)
theorem tyL_get {D : va_G} {ca : Nat → ClassId} {U : State} (h : va_K D vwCl (tyL ca) U) : U.vm.findClass ("[" ++ FieldType.byte.toString) = some (ca 6) ∧ U.vm.findClass ("[" ++ FieldType.char.toString) = some (ca 7) ∧ U.vm.findClass ("[" ++ FieldType.int.toString) = some (ca 8) ∧ U.vm.findClass ("[" ++ (FieldType.object RX1).toString) = some (ca 9) ∧ U.vm.findClass ("[" ++ (FieldType.object RX2).toString) = some (ca 10) := by
  refine ⟨(h.2 0 _ rfl).2, (h.2 1 _ rfl).2, (h.2 2 _ rfl).2, ?_, ?_⟩
  · obtain ⟨_, _, _, _, _, h4⟩ := (h.2 3 _ rfl).2
    exact h4
  · obtain ⟨_, _, _, _, _, h4⟩ := (h.2 4 _ rfl).2
    exact h4
theorem tyL_last {D : va_G} {ca : Nat → ClassId} {U : State} {x : ClassId × FieldType} (h : va_K D vwCl (tyL ca ++ [x]) U) : va_RA U x.1 x.2 := (h.2 5 x rfl).2
theorem i_newI {n : Int32} {N : Nat} (C : CXT own cc mL D ca p s mi args meth c A) (hd : decode cc pc = .ok (.newarray .int, 2)) (hq : pc + 2 = q) (hw : Cond.arrayClass .int ∈ WT) (hn : ¬ n < 0) (hN : n.toNatClampNeg = N) (h4 : N ≤ 1000) (hc : kc + 1 ≤ R.cells) (hs : ks + N ≤ R.slots) (kk : ∀ a : Nat, XI l D A p e R s mi args below meth c mL Z q lv (.ref a :: st) (ws ++ [(a, eI (ca 8) N (fun _ => 0))]) (kc + 1) (ks + N)) : XI l D A p e R s mi args below meth c mL Z pc lv (.int n :: st) ws kc ks := by
  subst hq
  intro H locs arr hP hD hS hL
  refine va_newa (atype := .int) (ty := .int) (a0 := (N, .inl (fun _ => 0))) C.1 C.2.1 (C.2.2.2.2.1 _ hw) rfl C.2.2.2.2.2.1 hP hD hS C.2.2.2.2.2.2.2 (fun cA => rfl) hn hN (by show N * 4 ≤ _; omega) hc hs hd (fun a cA H1 hK1 hP1 hD1 hS1 => ?_)
  have e := fc_one (tyL_last hK1) (tyL_get C.2.2.2.2.2.1).2.2.1
  dsimp only at e
  subst e
  exact kk a H1 locs arr hP1 hD1 hS1 hL
theorem i_newB {n : Int32} {N : Nat} (C : CXT own cc mL D ca p s mi args meth c A) (hd : decode cc pc = .ok (.newarray .byte, 2)) (hq : pc + 2 = q) (hw : Cond.arrayClass .byte ∈ WT) (hn : ¬ n < 0) (hN : n.toNatClampNeg = N) (h4 : N ≤ 1000) (hc : kc + 1 ≤ R.cells) (hs : ks + N ≤ R.slots) (kk : ∀ a : Nat, XI l D A p e R s mi args below meth c mL Z q lv (.ref a :: st) (ws ++ [(a, eI (ca 6) N (fun _ => 0))]) (kc + 1) (ks + N)) : XI l D A p e R s mi args below meth c mL Z pc lv (.int n :: st) ws kc ks := by
  subst hq
  intro H locs arr hP hD hS hL
  refine va_newa (atype := .byte) (ty := .byte) (a0 := (N, .inl (fun _ => 0))) C.1 C.2.1 (C.2.2.2.2.1 _ hw) rfl C.2.2.2.2.2.1 hP hD hS C.2.2.2.2.2.2.2 (fun cA => rfl) hn hN (by show N * 1 ≤ _; omega) hc hs hd (fun a cA H1 hK1 hP1 hD1 hS1 => ?_)
  have e := fc_one (tyL_last hK1) (tyL_get C.2.2.2.2.2.1).1
  dsimp only at e
  subst e
  exact kk a H1 locs arr hP1 hD1 hS1 hL
theorem i_newC {n : Int32} {N : Nat} (C : CXT own cc mL D ca p s mi args meth c A) (hd : decode cc pc = .ok (.newarray .char, 2)) (hq : pc + 2 = q) (hw : Cond.arrayClass .char ∈ WT) (hn : ¬ n < 0) (hN : n.toNatClampNeg = N) (h4 : N ≤ 1000) (hc : kc + 1 ≤ R.cells) (hs : ks + N ≤ R.slots) (kk : ∀ a : Nat, XI l D A p e R s mi args below meth c mL Z q lv (.ref a :: st) (ws ++ [(a, eI (ca 7) N (fun _ => 0))]) (kc + 1) (ks + N)) : XI l D A p e R s mi args below meth c mL Z pc lv (.int n :: st) ws kc ks := by
  subst hq
  intro H locs arr hP hD hS hL
  refine va_newa (atype := .char) (ty := .char) (a0 := (N, .inl (fun _ => 0))) C.1 C.2.1 (C.2.2.2.2.1 _ hw) rfl C.2.2.2.2.2.1 hP hD hS C.2.2.2.2.2.2.2 (fun cA => rfl) hn hN (by show N * 2 ≤ _; omega) hc hs hd (fun a cA H1 hK1 hP1 hD1 hS1 => ?_)
  have e := fc_one (tyL_last hK1) (tyL_get C.2.2.2.2.2.1).2.1
  dsimp only at e
  subst e
  exact kk a H1 locs arr hP1 hD1 hS1 hL
theorem i_newP {idx : Nat} {n : Int32} {N : Nat} (C : CXT own cc mL D ca p s mi args meth c A) (hd : decode cc pc = .ok (.anewarray idx, 3)) (hq : pc + 3 = q) (hw : Cond.classLink own idx RX1 ∈ WT) (hn : ¬ n < 0) (hN : n.toNatClampNeg = N) (h4 : N ≤ 1000) (hc : kc + 1 ≤ R.cells) (hs : ks + N ≤ R.slots) (kk : ∀ a : Nat, XI l D A p e R s mi args below meth c mL Z q lv (.ref a :: st) (ws ++ [(a, eR (ca 9) N (fun _ => none))]) (kc + 1) (ks + N)) : XI l D A p e R s mi args below meth c mL Z pc lv (.int n :: st) ws kc ks := by
  subst hq
  intro H locs arr hP hD hS hL
  refine va_newq (C := RX1) C.1 C.2.1 C.2.2.2.1 (C.2.2.2.2.1 _ hw) C.2.2.2.2.2.2.1.1 C.2.2.2.2.2.1 hP hD hS C.2.2.2.2.2.2.2 hn hN (by omega) hc hs hd (fun a cA H1 hK1 hP1 hD1 hS1 => ?_)
  obtain ⟨_, _, _, _, _, g4⟩ := tyL_last hK1
  have e := fc_one g4 (tyL_get C.2.2.2.2.2.1).2.2.2.1
  dsimp only at e
  subst e
  exact kk a H1 locs arr hP1 hD1 hS1 hL
theorem i_newS {idx : Nat} {n : Int32} {N : Nat} (C : CXT own cc mL D ca p s mi args meth c A) (hd : decode cc pc = .ok (.anewarray idx, 3)) (hq : pc + 3 = q) (hw : Cond.classLink own idx RX2 ∈ WT) (hn : ¬ n < 0) (hN : n.toNatClampNeg = N) (h4 : N ≤ 1000) (hc : kc + 1 ≤ R.cells) (hs : ks + N ≤ R.slots) (kk : ∀ a : Nat, XI l D A p e R s mi args below meth c mL Z q lv (.ref a :: st) (ws ++ [(a, eR (ca 10) N (fun _ => none))]) (kc + 1) (ks + N)) : XI l D A p e R s mi args below meth c mL Z pc lv (.int n :: st) ws kc ks := by
  subst hq
  intro H locs arr hP hD hS hL
  refine va_newq (C := RX2) C.1 C.2.1 C.2.2.2.1 (C.2.2.2.2.1 _ hw) C.2.2.2.2.2.2.1.2.1 C.2.2.2.2.2.1 hP hD hS C.2.2.2.2.2.2.2 hn hN (by omega) hc hs hd (fun a cA H1 hK1 hP1 hD1 hS1 => ?_)
  obtain ⟨_, _, _, _, _, g4⟩ := tyL_last hK1
  have e := fc_one g4 (tyL_get C.2.2.2.2.2.1).2.2.2.2
  dsimp only at e
  subst e
  exact kk a H1 locs arr hP1 hD1 hS1 hL
theorem i_iast {a q0 n j : Nat} {f f' : Nat → Int32} {i x : Int32} {ws' : va_W} (C : CXT own cc mL D ca p s mi args meth c A) (hd : decode cc pc = .ok (.iastore, 1)) (hq : pc + 1 = q) (he : ws[q0]? = some (a, eI (ca 8) n f)) (hj : IX i j n) (hf : upd f j x = f') (hw : ws.set q0 (a, eI (ca 8) n f') = ws') (kk : XI l D A p e R s mi args below meth c mL Z q lv st ws' kc ks) : XI l D A p e R s mi args below meth c mL Z pc lv (.int x :: .int i :: .ref a :: st) ws kc ks := by
  subst hq; subst hw; subst hf
  intro H locs arr hP hD hS hL
  refine va_iast C.1 C.2.1 C.2.2.2.2.2.1 hP hD hS q0 2 he rfl hj.vp hd (fun H1 locs1 hP1 hD1 hS1 => ?_)
  rw [hj.2.1] at hP1 hD1
  exact kk H1 locs1 arr hP1 hD1 hS1 hL
theorem i_cast {a q0 n j : Nat} {f f' : Nat → Int32} {i x : Int32} {ws' : va_W} (C : CXT own cc mL D ca p s mi args meth c A) (hd : decode cc pc = .ok (.castore, 1)) (hq : pc + 1 = q) (he : ws[q0]? = some (a, eI (ca 7) n f)) (hj : IX i j n) (hf : upd f j (vp_nar .char x) = f') (hw : ws.set q0 (a, eI (ca 7) n f') = ws') (kk : XI l D A p e R s mi args below meth c mL Z q lv st ws' kc ks) : XI l D A p e R s mi args below meth c mL Z pc lv (.int x :: .int i :: .ref a :: st) ws kc ks := by
  subst hq; subst hw; subst hf
  intro H locs arr hP hD hS hL
  refine va_cast C.1 C.2.1 C.2.2.2.2.2.1 hP hD hS q0 1 he rfl hj.vp hd (fun H1 locs1 hP1 hD1 hS1 => ?_)
  rw [hj.2.1] at hP1 hD1
  exact kk H1 locs1 arr hP1 hD1 hS1 hL
theorem i_aast {a q0 qk t0 ci n j v : Nat} {vs : List Value} {f : Nat → Option Nat} {i : Int32} {ws' : va_W} (C : CXT own cc mL D ca p s mi args meth c A) (hd : decode cc pc = .ok (.aastore, 1)) (hq : pc + 1 = q) (h6 : ci < 6) (ht : (tyL ca)[t0]? = some (ca (t0 + 6), .object (RR ci))) (he : ws[q0]? = some (a, eR (ca (t0 + 6)) n f)) (hv : ws[qk]? = some (v, eO ci vs)) (hj : IX i j n) (hw : ws.set q0 (a, eR (ca (t0 + 6)) n (va_up f j (some v))) = ws') (kk : XI l D A p e R s mi args below meth c mL Z q lv st ws' kc ks) : XI l D A p e R s mi args below meth c mL Z pc lv (.ref v :: .int i :: .ref a :: st) ws kc ks := by
  subst hq; subst hw
  intro H locs arr hP hD hS hL
  refine va_astq (r := (RR ci, TT ci, NN ci)) C.1 C.2.1 C.2.2.2.2.2.1 hP hD hS q0 t0 qk ci he ht hv (vw_at _ h6) hj.vp hd (fun H1 locs1 hP1 hD1 hS1 => ?_)
  rw [hj.2.1] at hP1 hD1
  exact kk H1 locs1 arr hP1 hD1 hS1 hL
theorem i_alen {a q0 t0 : Nat} {cA : ClassId} {x : vp_A} {ty : FieldType} {v : Int32} (C : CXT own cc mL D ca p s mi args meth c A) (hd : decode cc pc = .ok (.arraylength, 1)) (hq : pc + 1 = q) (he : ws[q0]? = some (a, .inl (cA, x))) (ht : (tyL ca)[t0]? = some (cA, ty)) (hv : Int32.ofNat x.1 = v) (kk : XI l D A p e R s mi args below meth c mL Z q lv (.int v :: st) ws kc ks) : XI l D A p e R s mi args below meth c mL Z pc lv (.ref a :: st) ws kc ks := by
  subst hq
  intro H locs arr hP hD hS hL
  exact va_alen C.1 C.2.1 C.2.2.2.2.2.1 hP q0 t0 he ht hv hd (kk H locs arr hP hD hS hL)
theorem oi_code : Cond.code objectInit ⟨#[0xb1]⟩ 1 none ∈ WT := mw 75 (by decide +kernel) (by decide +kernel)
theorem oi_inst : Cond.instanceMethod objectInit ∈ WT := mw 74 (by decide +kernel) (by decide +kernel)
theorem i_obj {idx a : Nat} (C : CXT own cc mL D ca p s mi args meth c A) (hd : decode cc pc = .ok (.invokespecial idx, 3)) (hq : pc + 3 = q) (hl : Cond.methodLink own idx objectInit ∈ WT) (hf : 1 ≤ R.frames) (hR : (st.map fun v => v.category).sum + 12 ≤ R.locals) (kk : XI l D A p e R s mi args below meth c mL Z q lv st ws kc ks) : XI l D A p e R s mi args below meth c mL Z pc lv (.ref a :: st) ws kc ks := by
  subst hq
  intro H locs arr hP hD hS hL
  exact W.objInit C.1 C.2.1 C.2.2.2.1 (C.2.2.2.2.1 _ hl) (C.2.2.2.2.1 _ oi_inst) (C.2.2.2.2.1 _ oi_code) rfl (hL.1.trans C.2.2.1.symm) rfl hd hf (by simpa [JFrame.monitorRoom] using hR) (kk H locs arr hP hD hS hL)
end MADE
