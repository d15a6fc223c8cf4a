/-! the law's own rules -/
theorem l_back {p : Program} {l : Launch} {e : Env} {R : Room} {s : State} {mi : MethodId} {args a : Array Value} {below : List Frame} {meth : Method} {c : Code} {H : Heap} {locs : List Loc} {arr : Array Slot} {st0 rest : List Value} {Z : State → Prop} {K : Cx} {Q1 : Option Value → TM → Prop} {pc kc ks : Nat}
    (hr : va_Run p l e R s mi args below meth c H locs kc ks 0 0 (F0 mi pc arr st0) rest (QQ K Q1 a) (AA K)) (hS : va_S (AA K) s.heap H locs)
    (kk : ∀ (r : Option Value) (m' : TM) (H1 : Heap) (locs1 : List Loc), Q1 r m' → va_P (kD K) vwCl (wsOf K m') H1 → va_D (AA K) (wsOf K m') → va_S (AA K) s.heap H1 locs1 → W p l e R s mi args below meth c H1 locs1 kc ks Z (F0 mi (pc + 3) arr ((r.map (vmp K)).toList ++ rest))) : W p l e R s mi args below meth c H locs kc ks Z (F0 mi pc arr st0) := by
  intro T hT X
  obtain ⟨v, st₀, t, T', L, h0, X', hL, e1, e2, ⟨⟨r, m', hv, hq, hb, hd⟩, hz, hk⟩, stp⟩ := hr T hT X
  cases hv
  rw [h0] at hz hk
  obtain ⟨t2, a1, b1⟩ := kk r m' T'.heap (locs ++ L) hq (by rw [e1]; exact hb) hd
    ⟨Nat.le_trans hS.1 (by rw [e1]; exact hz), fun q h1 h2 => by rw [e1, hk q (Nat.lt_of_lt_of_le h1 hS.1) h2]; exact hS.2.1 q h1 h2, fun q hq => by
      rcases List.mem_append.mp hq with h | h
      · exact hS.2.2 q h
      · exact hL q h⟩ T' rfl X'
  exact ⟨t2, stp t2 a1, b1⟩
section LAWR
variable {l : Launch} {D : va_G} {ca : Nat → ClassId} {A : Nat → Prop} {p : Program} {e : Env} {R : Room} {s : State} {mi : MethodId} {args : Array Value} {below : List Frame} {meth : Method} {c : Code} {mL : Nat} {Z : State → Prop} {own : String} {cc : ByteArray} {pc q : Nat} {lv : List (Nat × Value)} {st : List Value} {ws : va_W} {kc ks : Nat}
theorem i_isub {x y v : Int32} (C : CXT own cc mL D ca p s mi args meth c A) (hd : decode cc pc = .ok (.isub, 1)) (hq : pc + 1 = q) (hv : x - y = v) (kk : XI l D A p e R s mi args below meth c mL Z q lv (.int v :: st) ws kc ks) : XI l D A p e R s mi args below meth c mL Z pc lv (.int y :: .int x :: st) ws kc ks := by
  subst hq; subst hv
  intro H locs arr hP hD hS hL
  exact lv_isub C.1 C.2.1 hd (kk H locs arr hP hD hS hL)
theorem i_iand {x y v : Int32} (C : CXT own cc mL D ca p s mi args meth c A) (hd : decode cc pc = .ok (.iand, 1)) (hq : pc + 1 = q) (hv : x &&& y = v) (kk : XI l D A p e R s mi args below meth c mL Z q lv (.int v :: st) ws kc ks) : XI l D A p e R s mi args below meth c mL Z pc lv (.int y :: .int x :: st) ws kc ks := by
  subst hq; subst hv
  intro H locs arr hP hD hS hL
  exact lv_iand C.1 C.2.1 hd (kk H locs arr hP hD hS hL)
theorem i_icmp_gt {x y : Int32} {off : Int} {t : Nat} (C : CXT own cc mL D ca p s mi args meth c A) (hd : decode cc pc = .ok (.if_icmp .gt off, 3)) (hq : pc + 3 = q) (ht : (pc : Int) + off = (t : Int)) (kt : y < x → XI l D A p e R s mi args below meth c mL Z t lv st ws kc ks) (kf : ¬ y < x → XI l D A p e R s mi args below meth c mL Z q lv st ws kc ks) : XI l D A p e R s mi args below meth c mL Z pc lv (.int y :: .int x :: st) ws kc ks := by
  subst hq
  intro H locs arr hP hD hS hL
  exact lv_icmp_gt C.1 C.2.1 hd ht (fun h => kt h H locs arr hP hD hS hL) (fun h => kf h H locs arr hP hD hS hL)
theorem i_icmp_eq {x : Int32} {off : Int} {t : Nat} (C : CXT own cc mL D ca p s mi args meth c A) (hd : decode cc pc = .ok (.if_icmp .eq off, 3)) (ht : (pc : Int) + off = (t : Int)) (kt : XI l D A p e R s mi args below meth c mL Z t lv st ws kc ks) : XI l D A p e R s mi args below meth c mL Z pc lv (.int x :: .int x :: st) ws kc ks := by
  intro H locs arr hP hD hS hL
  exact lv_icmp_eq C.1 C.2.1 hd ht (fun _ => kt H locs arr hP hD hS hL) (fun h => absurd rfl h)
theorem i_lcmp_eq {x : Int64} {off : Int} {t : Nat} (C : CXT own cc mL D ca p s mi args meth c A) (hd : decode cc pc = .ok (.lcmp, 1)) (hd2 : decode cc (pc + 1) = .ok (.ifCond .eq off, 3)) (ht : ((pc + 1 : Nat) : Int) + off = (t : Int)) (kt : XI l D A p e R s mi args below meth c mL Z t lv st ws kc ks) : XI l D A p e R s mi args below meth c mL Z pc lv (.long x :: .long x :: st) ws kc ks := by
  intro H locs arr hP hD hS hL
  refine W.lcmp C.1 C.2.1 hd ?_
  exact lv_if_eq C.1 C.2.1 hd2 ht (fun _ => kt H locs arr hP hD hS hL) (fun h => absurd ((lg_cmp_eq x x).mpr rfl) h)
theorem i_tswC {x k : Int32} {dflt lo hi : Int} {offs : Array Int} {len : Nat} {off : Int} (C : CXT own cc mL D ca p s mi args meth c A) (hd : decode cc pc = .ok (.tableswitch dflt lo hi offs, len)) (hx : x = k) (h1 : ¬ k.toInt < lo) (h2 : ¬ hi < k.toInt) (ho : offs[(k.toInt - lo).toNat]? = some off) (ht : (pc : Int) + off = (q : Int)) (kk : XI l D A p e R s mi args below meth c mL Z q lv st ws kc ks) : XI l D A p e R s mi args below meth c mL Z pc lv (.int x :: st) ws kc ks := by
  subst hx
  intro H locs arr hP hD hS hL
  exact lv_tableIn C.1 C.2.1 hd h1 h2 ho ht (kk H locs arr hP hD hS hL)
theorem i_tswD {x : Int32} {dflt lo hi : Int} {offs : Array Int} {len : Nat} (C : CXT own cc mL D ca p s mi args meth c A) (hd : decode cc pc = .ok (.tableswitch dflt lo hi offs, len)) (hx : x.toInt < lo ∨ hi < x.toInt) (ht : (pc : Int) + dflt = (q : Int)) (kk : XI l D A p e R s mi args below meth c mL Z q lv st ws kc ks) : XI l D A p e R s mi args below meth c mL Z pc lv (.int x :: st) ws kc ks := by
  intro H locs arr hP hD hS hL
  exact lv_tableOut C.1 C.2.1 hd hx ht (kk H locs arr hP hD hS hL)
theorem i_slen {b L : Nat} {xs : Nat → Int32} (C : CXT own cc mL D ca p s mi args meth c A) (hX : va_X b L xs s s.heap) (hbl : b < s.heap.size) (hbA : ¬ A b) (hd : decode cc pc = .ok (.arraylength, 1)) (hq : pc + 1 = q) (kk : XI l D A p e R s mi args below meth c mL Z q lv (.int (nI L) :: st) ws kc ks) : XI l D A p e R s mi args below meth c mL Z pc lv (.ref b :: st) ws kc ks := by
  subst hq
  intro H locs arr hP hD hS hL
  exact va_slen C.1 C.2.1 hX hbl hbA hS hd (kk H locs arr hP hD hS hL)
theorem i_sld {b L j : Nat} {i : Int32} {xs : Nat → Int32} (C : CXT own cc mL D ca p s mi args meth c A) (hX : va_X b L xs s s.heap) (hbl : b < s.heap.size) (hbA : ¬ A b) (hd : decode cc pc = .ok (.iaload, 1)) (hq : pc + 1 = q) (hj : IX i j L) (kk : XI l D A p e R s mi args below meth c mL Z q lv (.int (xs j) :: st) ws kc ks) : XI l D A p e R s mi args below meth c mL Z pc lv (.int i :: .ref b :: st) ws kc ks := by
  subst hq
  intro H locs arr hP hD hS hL
  refine va_sld C.1 C.2.1 hX hbl hbA hS hj.vp hd ?_
  rw [hj.2.1]
  exact kk H locs arr hP hD hS hL
end LAWR
/-- where the law's loop stands -/
def lvL (K : Cx) (b i : Nat) : List (Nat × Value) := [(3, .int (nI i)), (2, .ref (kad K 49)), (1, .ref (kad K 0)), (0, .ref b)]
/-- what the law's loop stands on -/
def LCX (K : Cx) (b L : Nat) (xs : Nat → Int32) (p : Program) (s : State) (mi : MethodId) (meth : Method) (c : Code) : Prop :=
  CXT RL cL_law 4 (kD K) (kcA K) p s mi #[Value.ref b] meth c (AA K) ∧ va_X b L xs s s.heap ∧ b < s.heap.size ∧ kz K = s.heap.size ∧ Sk K s s.heap ∧ L ≤ 3072
def LXI (K : Cx) (p : Program) (e : Env) (s : State) (mi : MethodId) (b : Nat) (below : List Frame) (meth : Method) (c : Code) (Z : State → Prop) (kc ks pc : Nat) (lv : List (Nat × Value)) (st : List Value) (m : TM) : Prop :=
  XI (kL K) (kD K) (AA K) p e room_1 s mi #[Value.ref b] below meth c 4 Z pc lv st (wsOf K m) kc ks
section LAWO
variable {K : Cx} {b L : Nat} {xs : Nat → Int32} {p : Program} {e : Env} {s : State} {mi : MethodId} {below : List Frame} {meth : Method} {c : Code} {Z : State → Prop} {pc q kc ks i : Nat} {lv : List (Nat × Value)} {st : List Value} {m : TM}
theorem LCX.out (C : LCX K b L xs p s mi meth c) : ¬ AA K b := by
  show ¬ kz K ≤ b
  rw [C.2.2.2.1]
  exact Nat.not_le.mpr C.2.2.1
/-- an argument: script[i + j] -/
theorem l_arg {j : Int} {k : Nat} (C : LCX K b L xs p s mi meth c) (d0 : decode cL_law pc = .ok (.aload_n 0, 1)) (d1 : decode cL_law (pc + 1) = .ok (.iload_n 3, 1)) (d2 : decode cL_law (pc + 2) = .ok (.iconst j, 1)) (d3 : decode cL_law (pc + 3) = .ok (.iadd, 1)) (d4 : decode cL_law (pc + 4) = .ok (.iaload, 1)) (hq : pc + 5 = q) (hj : Int32.ofInt j = nI k) (hi : i + k < L) (kk : LXI K p e s mi b below meth c Z kc ks q (lvL K b i) (.int (xs (i + k)) :: st) m) : LXI K p e s mi b below meth c Z kc ks pc (lvL K b i) st m := by
  subst hq
  have hL := C.2.2.2.2.2
  refine i_aload_n (i := 3) C.1 d0 rfl rfl ?_
  refine i_iload_n (i := 0) C.1 d1 rfl rfl ?_
  refine i_iconst (v := nI k) C.1 d2 rfl hj ?_
  refine i_iadd (v := nI (i + k)) C.1 d3 rfl (Int32.ofNat_add i k).symm ?_
  exact i_sld C.1 C.2.1 C.2.2.1 C.out d4 rfl (ix_nI hi (by omega)) kk
/-- a call of an object's -/
theorem l_call {y : MethodName} {cy : ByteArray} {n nL idx f2 l2 o ci : Nat} {ry : Option FieldType} {as stk : List Value} {v : Value} {Q1 : TM → Prop} (C : LCX K b L xs p s mi meth c) (hd : decode cL_law pc = .ok (.invokevirtual idx, 3)) (hq : pc + 3 = q) (hl : Cond.methodLink RL idx y ∈ WT) (hm : MV y cy nL ry n) (hv : RV o ci) (hC : RR ci = y.cls) (hc : CQ y cy nL ry f2 l2 K (.ref o :: as) m (fun r m1 => r = some v ∧ Q1 m1)) (hs : stk = as.reverse ++ .ref (kad K o) :: st) (ha : as.map (vmp K) = as) (hvv : vmp K v = v) (hn : as.length = n) (hw : (st.map fun v => v.category).sum ≤ 8) (hR : f2 + 1 ≤ room_1.frames ∧ 8 + (nL + 11) + l2 ≤ room_1.locals) (hcs : kc + 0 ≤ room_1.cells ∧ ks + 0 ≤ room_1.slots) (kk : ∀ m1, Q1 m1 → LXI K p e s mi b below meth c Z kc ks q lv (v :: st) m1) : LXI K p e s mi b below meth c Z kc ks pc lv stk m := by
  subst hq; subst hs
  intro H locs arr hP hD hS hL
  have hts := C.1.2.2.2.2.1
  have hKs : va_K (kD K) vwCl (tysOf K) s := C.1.2.2.2.2.2.1
  obtain ⟨h62, hkd, hci⟩ := hv
  subst hkd
  have hrecv : ∃ cell : Cell, H[adr K o]? = some cell ∧ cell.vm.isStatics = false ∧ s.vm.findClass y.cls = some cell.cls := by
    rw [adr_o h62, ← hC]
    exact va_recv (q := (RR (kd o), TT (kd o), NN (kd o))) hKs hP (vw_at _ hci) (q0 := o) (by rw [ws_get h62, cell_obj hci])
  have hpre : ∀ U : State, U.heap = H → s.WarmedH U.vm → va_Pc ((Value.ref o :: as).map (vmp K)) (fun U => Wd K m U) ((Value.ref o :: as).map (vmp K)).toArray U := fun U hU hW =>
    ⟨rfl, by rw [hU]; exact hP, hD, va_K.moved hW.alike hKs, by rw [hU]; exact (Sk.warm hW C.2.2.2.2.1).kept hS.2.1⟩
  refine l_back (K := K) (Q1 := fun r m1 => r = some v ∧ Q1 m1) (rest := st) (va_runV (C := y.cls) (b := adr K o) (As := as.map (vmp K)) (Ts := WT) ⟨C.1.1, C.1.2.1, C.1.2.2.1, C.1.2.2.2.1, hts⟩ hc ⟨callB_of n hts (wt_goodIn hm.2.2.2.1) rfl rfl rfl (hts _ hm.2.2.1) (hts _ hl) hm.2.2.2.2 hR, hts _ hm.1, hts _ hm.2.1⟩ ⟨pc_blind, hrecv, hpre⟩ rfl (by simpa using hn) hL.1 (by rw [ha, adr_o h62]) (by simpa [JFrame.monitorRoom] using hw) hd hcs) hS (fun r m' H1 locs1 hq1 hP1 hD1 hS1 => ?_)
  obtain ⟨rfl, hq1⟩ := hq1
  have k2 := kk m' hq1 H1 locs1 arr hP1 hD1 hS1 hL
  show W _ _ _ _ _ _ _ _ _ _ _ _ _ _ _ (F0 mi (pc + 3) arr (vmp K v :: st))
  rw [hvv]
  exact k2
end LAWO
