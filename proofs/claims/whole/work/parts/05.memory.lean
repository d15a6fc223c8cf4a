theorem iw0 : ∀ w ∈ u_ws RX0 TX0 9, w ∈ WT := by
  intro w hw
  obtain ⟨k, hk, rfl⟩ := List.mem_map.mp hw
  have hk := List.mem_range.mp hk
  have h1 : ∀ k, k < 9 → lw_tbl[[142, 144, 146, 148, 150, 152, 154, 156, 158].getD k 0]? = some (u_lay RX0 TX0 k) ∧ goodWord (u_lay RX0 TX0 k) = true := by decide +kernel
  exact mw _ (h1 k hk).1 (h1 k hk).2
theorem iw1 : ∀ w ∈ u_ws RX1 TX1 7, w ∈ WT := by
  intro w hw
  obtain ⟨k, hk, rfl⟩ := List.mem_map.mp hw
  have hk := List.mem_range.mp hk
  have h1 : ∀ k, k < 7 → lw_tbl[[106, 108, 110, 112, 114, 116, 118].getD k 0]? = some (u_lay RX1 TX1 k) ∧ goodWord (u_lay RX1 TX1 k) = true := by decide +kernel
  exact mw _ (h1 k hk).1 (h1 k hk).2
theorem iw2 : ∀ w ∈ u_ws RX2 TX2 3, w ∈ WT := by
  intro w hw
  obtain ⟨k, hk, rfl⟩ := List.mem_map.mp hw
  have hk := List.mem_range.mp hk
  have h1 : ∀ k, k < 3 → lw_tbl[[201, 203, 205].getD k 0]? = some (u_lay RX2 TX2 k) ∧ goodWord (u_lay RX2 TX2 k) = true := by decide +kernel
  exact mw _ (h1 k hk).1 (h1 k hk).2
theorem iw3 : ∀ w ∈ u_ws RX3 TX3 6, w ∈ WT := by
  intro w hw
  obtain ⟨k, hk, rfl⟩ := List.mem_map.mp hw
  have hk := List.mem_range.mp hk
  have h1 : ∀ k, k < 6 → lw_tbl[[174, 176, 178, 180, 182, 184].getD k 0]? = some (u_lay RX3 TX3 k) ∧ goodWord (u_lay RX3 TX3 k) = true := by decide +kernel
  exact mw _ (h1 k hk).1 (h1 k hk).2
theorem iw4 : ∀ w ∈ u_ws RX4 TX4 7, w ∈ WT := by
  intro w hw
  obtain ⟨k, hk, rfl⟩ := List.mem_map.mp hw
  have hk := List.mem_range.mp hk
  have h1 : ∀ k, k < 7 → lw_tbl[[215, 217, 219, 221, 223, 225, 227].getD k 0]? = some (u_lay RX4 TX4 k) ∧ goodWord (u_lay RX4 TX4 k) = true := by decide +kernel
  exact mw _ (h1 k hk).1 (h1 k hk).2
theorem iw5 : ∀ w ∈ u_ws RX5 TX5 18, w ∈ WT := by
  intro w hw
  obtain ⟨k, hk, rfl⟩ := List.mem_map.mp hw
  have hk := List.mem_range.mp hk
  have h1 : ∀ k, k < 18 → lw_tbl[[722, 724, 726, 728, 730, 732, 734, 736, 738, 740, 742, 744, 746, 748, 750, 752, 754, 756].getD k 0]? = some (u_lay RX5 TX5 k) ∧ goodWord (u_lay RX5 TX5 k) = true := by decide +kernel
  exact mw _ (h1 k hk).1 (h1 k hk).2
theorem iw : ∀ ci, ci < 6 → ∀ w ∈ u_ws (RR ci) (TT ci) (NN ci), w ∈ WT
  | 0, _ => iw0
  | 1, _ => iw1
  | 2, _ => iw2
  | 3, _ => iw3
  | 4, _ => iw4
  | 5, _ => iw5
  | n + 6, h => absurd h (by omega)
theorem ty_ok : ∀ ci, ci < 6 → ∀ k, k < NN ci → parseFieldDescriptor (TT ci k).2.2.1 = some (tyT ci k)
  | 0, _ => tyX0_ok
  | 1, _ => tyX1_ok
  | 2, _ => tyX2_ok
  | 3, _ => tyX3_ok
  | 4, _ => tyX4_ok
  | 5, _ => tyX5_ok
  | n + 6, h => absurd h (by omega)
theorem nm_ok : ∀ ci, ci < 6 → ∀ a, a < NN ci → ∀ b, b < NN ci → a ≠ b → (TT ci a).2.1 ≠ (TT ci b).2.1
  | 0, _ => nmX0
  | 1, _ => nmX1
  | 2, _ => nmX2
  | 3, _ => nmX3
  | 4, _ => nmX4
  | 5, _ => nmX5
  | n + 6, h => absurd h (by omega)
theorem vw_at : ∀ ci, ci < 6 → vwCl[ci]? = some (RR ci, TT ci, NN ci)
  | 0, _ => rfl
  | 1, _ => rfl
  | 2, _ => rfl
  | 3, _ => rfl
  | 4, _ => rfl
  | 5, _ => rfl
  | n + 6, h => absurd h (by omega)
theorem adr_o {K : Cx} {o : Nat} (h : o < 62) : adr K o = kad K o := if_pos h
def OB (o ci k r x : Nat) : Prop := o < 62 ∧ kd o = ci ∧ ci < 6 ∧ k < ln o ∧ fk ci k = 0 ∧ ol ci o k = (r, x)
def OR (o ci k t : Nat) : Prop := o < 62 ∧ kd o = ci ∧ ci < 6 ∧ k < ln o ∧ fk ci k = 2 ∧ rfc ci k o = t
def AR (o kind n r off : Nat) : Prop := o < 62 ∧ kd o = kind ∧ ln o = n ∧ al o = (r, off)
def RA (o kind n : Nat) : Prop := o < 62 ∧ kd o = kind ∧ ln o = n
def RV (o ci : Nat) : Prop := o < 62 ∧ kd o = ci ∧ ci < 6
def IX (i : Int32) (j n : Nat) : Prop := ¬ i < 0 ∧ i.toNatClampNeg = j ∧ j < n
theorem IX.vp {i : Int32} {j n : Nat} (h : IX i j n) : vp_in i n := fun q => q.elim h.1 (fun z => by have := h.2.1; have := h.2.2; omega)
section MEM
variable {own : String} {cc : ByteArray} {mL : Nat} {rt : Option FieldType} {fr lo : Nat} {K : Cx} {pc q : Nat} {ls : List (Option Value)} {st : List Value} {m : TM} {Q : Option Value → TM → Prop}
theorem OB.lcq {o ci k r x : Nat} (h : OB o ci k r x) : lc o k = (r, x) := by
  obtain ⟨h1, h2, h3, h4, h5, h6⟩ := h
  subst h2
  simp only [lc, if_pos h3, h6]
theorem OB.he {o ci k r x : Nat} (h : OB o ci k r x) : (wsOf K m)[o]? = some (kad K o, .inr (ci, (List.range (ln o)).map (fun k => vmp K (VL m o k)))) := by
  obtain ⟨h1, h2, h3, h4, h5, h6⟩ := h
  subst h2
  rw [ws_get h1, cell_obj h3]
theorem OR.he {o ci k t : Nat} (h : OR o ci k t) : (wsOf K m)[o]? = some (kad K o, .inr (ci, (List.range (ln o)).map (fun k => vmp K (VL m o k)))) := by
  obtain ⟨h1, h2, h3, h4, h5, h6⟩ := h
  subst h2
  rw [ws_get h1, cell_obj h3]
theorem fs_at {o k : Nat} (hk : k < ln o) : ((List.range (ln o)).map (fun k => vmp K (VL m o k)))[k]? = some (vmp K (VL m o k)) := by simp [hk]
theorem OB.vl {o ci k r x : Nat} (h : OB o ci k r x) : VL m o k = .int (m.1 r x) := by
  have e := h.lcq
  obtain ⟨h1, h2, h3, h4, h5, h6⟩ := h
  subst h2
  rw [VL_int h3 h5, rdI, e]
theorem OR.vl {o ci k t : Nat} (h : OR o ci k t) : VL m o k = .ref t := by
  obtain ⟨h1, h2, h3, h4, h5, h6⟩ := h
  subst h2
  simp [VL, h5, h6]
theorem x_getv {o ci k idx : Nat} {v : Value} (hd : decode cc pc = .ok (.getfield idx, 3)) (hq : pc + 3 = q) (hf : FL own idx ci k) (h62 : o < 62) (h2 : kd o = ci) (hk : k < ln o) (hv : VL m o k = v) (kk : XX own cc mL rt fr lo K q ls (v :: st) m Q) : XX own cc mL rt fr lo K pc ls (.ref o :: st) m Q := by
  subst hq; subst hv; subst h2
  intro p e s mi args below meth c H locs arr C hP hD hS hL
  show W _ _ _ _ _ _ _ _ _ _ _ _ _ _ _ (F0 mi pc arr (.ref (adr K o) :: st.map (vmp K)))
  rw [adr_o h62]
  exact va_get (D := kD K) (ci := kd o) (C := RR (kd o)) (T := TT (kd o)) (N := NN (kd o)) C.1 C.2.1 C.2.2.2.2.2.1 (iw _ hf.2.2) C.2.2.2.2.1 C.2.2.2.2.2.2.2.1 hP o (by rw [ws_get h62, cell_obj hf.2.2]) (vw_at _ hf.2.2) k hf.2.1 (C.2.2.2.2.2.1 _ hf.1) (fun _ h => h) (fs_at hk) hd (kk p e s mi args below meth c H locs arr C hP hD hS hL)
theorem x_getI {o ci k idx r x : Nat} (hd : decode cc pc = .ok (.getfield idx, 3)) (hq : pc + 3 = q) (hf : FL own idx ci k) (ho : OB o ci k r x) (kk : XX own cc mL rt fr lo K q ls (.int (m.1 r x) :: st) m Q) : XX own cc mL rt fr lo K pc ls (.ref o :: st) m Q :=
  x_getv hd hq hf ho.1 ho.2.1 ho.2.2.2.1 ho.vl kk
theorem x_getR {o ci k idx t : Nat} (hd : decode cc pc = .ok (.getfield idx, 3)) (hq : pc + 3 = q) (hf : FL own idx ci k) (ho : OR o ci k t) (kk : XX own cc mL rt fr lo K q ls (.ref t :: st) m Q) : XX own cc mL rt fr lo K pc ls (.ref o :: st) m Q :=
  x_getv hd hq hf ho.1 ho.2.1 ho.2.2.2.1 ho.vl kk
theorem x_getL {idx : Nat} (hd : decode cc pc = .ok (.getfield idx, 3)) (hq : pc + 3 = q) (hf : FL own idx 5 10) (kk : XX own cc mL rt fr lo K q ls (.long m.2 :: st) m Q) : XX own cc mL rt fr lo K pc ls (.ref 49 :: st) m Q :=
  x_getv hd hq hf (by decide) (by decide) (by decide) rfl kk
theorem x_putI {o ci k idx r x : Nat} {v : Int32} {m' : TM} (hd : decode cc pc = .ok (.putfield idx, 3)) (hq : pc + 3 = q) (hf : FL own idx ci k) (ho : OB o ci k r x) (hfin : (TT ci k).2.2.2 = false) (hn : narrow (tyT ci k) (.int v) = .int v) (hfit : fits (tyT ci k) (.int v) = true) (hm : st1 m r x v = m') (kk : XX own cc mL rt fr lo K q ls st m' Q) : XX own cc mL rt fr lo K pc ls (.int v :: .ref o :: st) m Q := by
  subst hq; subst hm
  have hlc := ho.lcq
  obtain ⟨h62, h2, h6, hk, hfk, hol⟩ := ho
  subst h2
  intro p e s mi args below meth c H locs arr C hP hD hS hL
  show W _ _ _ _ _ _ _ _ _ _ _ _ _ _ _ (F0 mi pc arr (.int v :: .ref (adr K o) :: st.map (vmp K)))
  rw [adr_o h62]
  refine va_put (D := kD K) (ci := kd o) (C := RR (kd o)) (T := TT (kd o)) (N := NN (kd o)) C.1 C.2.1 C.2.2.2.2.2.1 (iw _ h6) (tyT (kd o)) (ty_ok _ h6) (nm_ok _ h6) C.2.2.2.2.1 C.2.2.2.2.2.2.2.1 hP hD hS o (by rw [ws_get h62, cell_obj h6]) (vw_at _ h6) k hf.2.1 (C.2.2.2.2.2.1 _ hf.1) (fun _ h => h) hfin (ty_ok _ h6 k hf.2.1) hn hfit (by simpa using hk) hd (fun H1 locs1 hP1 hD1 hS1 => ?_)
  rw [ws_put h62 hk h6 hfk, hlc] at hP1 hD1
  exact kk p e s mi args below meth c H1 locs1 arr C hP1 hD1 hS1 hL
theorem x_putL {idx : Nat} {v : Int64} {m' : TM} (hd : decode cc pc = .ok (.putfield idx, 3)) (hq : pc + 3 = q) (hf : FL own idx 5 10) (hm : st2 m v = m') (kk : XX own cc mL rt fr lo K q ls st m' Q) : XX own cc mL rt fr lo K pc ls (.long v :: .ref 49 :: st) m Q := by
  subst hq; subst hm
  intro p e s mi args below meth c H locs arr C hP hD hS hL
  show W _ _ _ _ _ _ _ _ _ _ _ _ _ _ _ (F0 mi pc arr (.long v :: .ref (adr K 49) :: st.map (vmp K)))
  rw [adr_o (by decide)]
  refine va_put (D := kD K) (ci := 5) (C := RX5) (T := TX5) (N := 18) C.1 C.2.1 C.2.2.2.2.2.1 (iw 5 (by decide)) tyX5 tyX5_ok nmX5 C.2.2.2.2.1 C.2.2.2.2.2.2.2.1 hP hD hS 49 (fs := (List.range 18).map (fun k => vmp K (VL m 49 k))) (by rw [ws_get (by decide), cell_obj (by decide)]; rfl) rfl 10 (by decide) (C.2.2.2.2.2.1 _ hf.1) (fun _ h => h) rfl (tyX5_ok 10 (by decide)) rfl rfl (by simp) hd (fun H1 locs1 hP1 hD1 hS1 => ?_)
  rw [ws_putL] at hP1 hD1
  exact kk p e s mi args below meth c H1 locs1 arr C hP1 hD1 hS1 hL
theorem AR.he {o kind n r off : Nat} (h : AR o kind n r off) (h6 : 6 ≤ kind) (h9 : kind < 9) : (wsOf K m)[o]? = some (kad K o, .inl (kcA K kind, n, .inl (fun j => if j < n then rdI m o j else 0))) := by
  obtain ⟨h1, h2, h3, h4⟩ := h
  subst h2; subst h3
  rw [ws_get h1, cell_arr (by omega) h9]
theorem AR.rd {o kind n r off j : Nat} (h : AR o kind n r off) (h6 : 6 ≤ kind) : lc o j = (r, off + j) := by
  obtain ⟨h1, h2, h3, h4⟩ := h
  subst h2
  simp only [lc, if_neg (by omega : ¬ kd o < 6), h4]

theorem x_iald {o n r off j x : Nat} {i : Int32} (hd : decode cc pc = .ok (.iaload, 1)) (hq : pc + 1 = q) (ha : AR o 8 n r off) (hj : IX i j n) (hx : off + j = x) (kk : XX own cc mL rt fr lo K q ls (.int (m.1 r x) :: st) m Q) : XX own cc mL rt fr lo K pc ls (.int i :: .ref o :: st) m Q := by
  subst hq; subst hx
  have hrd := ha.rd (j := j) (by decide)
  have h62 := ha.1
  intro p e s mi args below meth c H locs arr C hP hD hS hL
  show W _ _ _ _ _ _ _ _ _ _ _ _ _ _ _ (F0 mi pc arr (.int i :: .ref (adr K o) :: st.map (vmp K)))
  rw [adr_o h62]
  refine va_iald C.1 C.2.1 C.2.2.2.2.2.2.2.1 hP o 2 (ha.he (by decide) (by decide)) rfl hj.vp hd ?_
  have e1 : (if i.toNatClampNeg < n then rdI m o i.toNatClampNeg else 0) = m.1 r (off + j) := by rw [hj.2.1, if_pos hj.2.2, rdI, hrd]
  rw [e1]
  exact kk p e s mi args below meth c H locs arr C hP hD hS hL
theorem x_bald {o n r off j x : Nat} {i : Int32} (hd : decode cc pc = .ok (.baload, 1)) (hq : pc + 1 = q) (ha : AR o 6 n r off) (hj : IX i j n) (hx : off + j = x) (kk : XX own cc mL rt fr lo K q ls (.int (m.1 r x) :: st) m Q) : XX own cc mL rt fr lo K pc ls (.int i :: .ref o :: st) m Q := by
  subst hq; subst hx
  have hrd := ha.rd (j := j) (by decide)
  have h62 := ha.1
  intro p e s mi args below meth c H locs arr C hP hD hS hL
  show W _ _ _ _ _ _ _ _ _ _ _ _ _ _ _ (F0 mi pc arr (.int i :: .ref (adr K o) :: st.map (vmp K)))
  rw [adr_o h62]
  refine va_bald C.1 C.2.1 C.2.2.2.2.2.2.2.1 hP o 0 (ha.he (by decide) (by decide)) rfl hj.vp hd ?_
  have e1 : (if i.toNatClampNeg < n then rdI m o i.toNatClampNeg else 0) = m.1 r (off + j) := by rw [hj.2.1, if_pos hj.2.2, rdI, hrd]
  rw [e1]
  exact kk p e s mi args below meth c H locs arr C hP hD hS hL
theorem x_cald {o n r off j x : Nat} {i : Int32} (hd : decode cc pc = .ok (.caload, 1)) (hq : pc + 1 = q) (ha : AR o 7 n r off) (hj : IX i j n) (hx : off + j = x) (kk : XX own cc mL rt fr lo K q ls (.int (m.1 r x) :: st) m Q) : XX own cc mL rt fr lo K pc ls (.int i :: .ref o :: st) m Q := by
  subst hq; subst hx
  have hrd := ha.rd (j := j) (by decide)
  have h62 := ha.1
  intro p e s mi args below meth c H locs arr C hP hD hS hL
  show W _ _ _ _ _ _ _ _ _ _ _ _ _ _ _ (F0 mi pc arr (.int i :: .ref (adr K o) :: st.map (vmp K)))
  rw [adr_o h62]
  refine va_cald C.1 C.2.1 C.2.2.2.2.2.2.2.1 hP o 1 (ha.he (by decide) (by decide)) rfl hj.vp hd ?_
  have e1 : (if i.toNatClampNeg < n then rdI m o i.toNatClampNeg else 0) = m.1 r (off + j) := by rw [hj.2.1, if_pos hj.2.2, rdI, hrd]
  rw [e1]
  exact kk p e s mi args below meth c H locs arr C hP hD hS hL
theorem x_iast {o n r off j x : Nat} {i v : Int32} {m' : TM} (hd : decode cc pc = .ok (.iastore, 1)) (hq : pc + 1 = q) (ha : AR o 8 n r off) (hj : IX i j n) (hx : off + j = x) (hm : st1 m r x (v) = m') (kk : XX own cc mL rt fr lo K q ls st m' Q) : XX own cc mL rt fr lo K pc ls (.int v :: .int i :: .ref o :: st) m Q := by
  subst hq; subst hx; subst hm
  have hrd := ha.rd (j := j) (by decide)
  intro p e s mi args below meth c H locs arr C hP hD hS hL
  show W _ _ _ _ _ _ _ _ _ _ _ _ _ _ _ (F0 mi pc arr (.int v :: .int i :: .ref (adr K o) :: st.map (vmp K)))
  rw [adr_o ha.1]
  refine va_iast C.1 C.2.1 C.2.2.2.2.2.2.2.1 hP hD hS o 2 (ha.he (by decide) (by decide)) rfl hj.vp hd (fun H1 locs1 hP1 hD1 hS1 => ?_)
  obtain ⟨h62, hkd, hln, hal⟩ := ha
  subst hln
  have hk6 : ¬ kd o < 6 := by omega
  have hk9 : kd o < 9 := by omega
  rw [hj.2.1, show kcA K 8 = kcA K (kd o) by rw [hkd], ws_ast h62 hj.2.2 hk6 hk9, hrd] at hP1 hD1
  exact kk p e s mi args below meth c H1 locs1 arr C hP1 hD1 hS1 hL
theorem x_bast {o n r off j x : Nat} {i v : Int32} {m' : TM} (hd : decode cc pc = .ok (.bastore, 1)) (hq : pc + 1 = q) (ha : AR o 6 n r off) (hj : IX i j n) (hx : off + j = x) (hm : st1 m r x (vp_nar .byte v) = m') (kk : XX own cc mL rt fr lo K q ls st m' Q) : XX own cc mL rt fr lo K pc ls (.int v :: .int i :: .ref o :: st) m Q := by
  subst hq; subst hx; subst hm
  have hrd := ha.rd (j := j) (by decide)
  intro p e s mi args below meth c H locs arr C hP hD hS hL
  show W _ _ _ _ _ _ _ _ _ _ _ _ _ _ _ (F0 mi pc arr (.int v :: .int i :: .ref (adr K o) :: st.map (vmp K)))
  rw [adr_o ha.1]
  refine va_bast C.1 C.2.1 C.2.2.2.2.2.2.2.1 hP hD hS o 0 (ha.he (by decide) (by decide)) rfl hj.vp hd (fun H1 locs1 hP1 hD1 hS1 => ?_)
  obtain ⟨h62, hkd, hln, hal⟩ := ha
  subst hln
  have hk6 : ¬ kd o < 6 := by omega
  have hk9 : kd o < 9 := by omega
  rw [hj.2.1, show kcA K 6 = kcA K (kd o) by rw [hkd], ws_ast h62 hj.2.2 hk6 hk9, hrd] at hP1 hD1
  exact kk p e s mi args below meth c H1 locs1 arr C hP1 hD1 hS1 hL
theorem x_aald {o kind n j t : Nat} {i : Int32} (hd : decode cc pc = .ok (.aaload, 1)) (hq : pc + 1 = q) (ha : RA o kind n) (h9 : kind = 9 ∨ kind = 10) (hj : IX i j n) (ht : rfa kind o j = t) (ht2 : t < 62) (kk : XX own cc mL rt fr lo K q ls (.ref t :: st) m Q) : XX own cc mL rt fr lo K pc ls (.int i :: .ref o :: st) m Q := by
  subst hq; subst ht
  obtain ⟨h62, hkd, hln⟩ := ha
  subst hkd; subst hln
  intro p e s mi args below meth c H locs arr C hP hD hS hL
  show W _ _ _ _ _ _ _ _ _ _ _ _ _ _ _ (F0 mi pc arr (.int i :: .ref (adr K o) :: st.map (vmp K)))
  rw [adr_o h62]
  have he : (wsOf K m)[o]? = some (kad K o, .inl (kcA K (kd o), ln o, .inr (.inr (.inr (.inr (fun j => if j < ln o then some (kad K (rfa (kd o) o j)) else none)))))) := by rw [ws_get h62, cell_rarr (by omega)]
  have e1 : va_rf (if i.toNatClampNeg < ln o then some (kad K (rfa (kd o) o i.toNatClampNeg)) else none) = .ref (adr K (rfa (kd o) o j)) := by rw [hj.2.1, if_pos hj.2.2, adr_o ht2]; rfl
  have k2 := kk p e s mi args below meth c H locs arr C hP hD hS hL
  have k3 : W p (kL K) e ({ frames := fr, cells := 0, slots := 0, locals := lo }) s mi args below meth c H locs 0 0 (MQ below (QQ K Q) args s 0 0 (AA K)) (F0 mi (pc + 1) arr (va_rf (if i.toNatClampNeg < ln o then some (kad K (rfa (kd o) o i.toNatClampNeg)) else none) :: st.map (vmp K))) := by rw [e1]; exact k2
  rcases h9 with h | h
  · exact va_aldq (C := RX1) C.1 C.2.1 C.2.2.2.2.2.2.2.1 hP o 3 he (by rw [h]; rfl) hj.vp hd k3
  · exact va_aldq (C := RX2) C.1 C.2.1 C.2.2.2.2.2.2.2.1 hP o 4 he (by rw [h]; rfl) hj.vp hd k3
theorem tys_at : ∀ k, 6 ≤ k → k < 11 → ∃ ty, (tysOf K)[k - 6]? = some (kcA K k, ty)
  | 6, _, _ => ⟨_, rfl⟩
  | 7, _, _ => ⟨_, rfl⟩
  | 8, _, _ => ⟨_, rfl⟩
  | 9, _, _ => ⟨_, rfl⟩
  | 10, _, _ => ⟨_, rfl⟩
  | 0, h, _ => absurd h (by omega)
  | 1, h, _ => absurd h (by omega)
  | 2, h, _ => absurd h (by omega)
  | 3, h, _ => absurd h (by omega)
  | 4, h, _ => absurd h (by omega)
  | 5, h, _ => absurd h (by omega)
  | n + 11, _, h => absurd h (by omega)
theorem x_alen {o kind n : Nat} {v : Int32} (hd : decode cc pc = .ok (.arraylength, 1)) (hq : pc + 1 = q) (ha : RA o kind n) (h6 : 6 ≤ kind) (hv : Int32.ofNat n = v) (kk : XX own cc mL rt fr lo K q ls (.int v :: st) m Q) : XX own cc mL rt fr lo K pc ls (.ref o :: st) m Q := by
  subst hq
  obtain ⟨h62, hkd, hln⟩ := ha
  subst hkd; subst hln
  intro p e s mi args below meth c H locs arr C hP hD hS hL
  show W _ _ _ _ _ _ _ _ _ _ _ _ _ _ _ (F0 mi pc arr (.ref (adr K o) :: st.map (vmp K)))
  rw [adr_o h62]
  obtain ⟨ty, hty⟩ := tys_at (K := K) (kd o) h6 (kd_lt o h62)
  have he : ∃ x : vp_A, x.1 = ln o ∧ (wsOf K m)[o]? = some (kad K o, .inl (kcA K (kd o), x)) := by
    by_cases h9 : kd o < 9
    · exact ⟨_, rfl, by rw [ws_get h62, cell_arr (by omega) h9]⟩
    · exact ⟨_, rfl, by rw [ws_get h62, cell_rarr h9]⟩
  obtain ⟨x, hx, he⟩ := he
  exact va_alen C.1 C.2.1 C.2.2.2.2.2.2.2.1 hP o (kd o - 6) he hty (by rw [hx]; exact hv) hd (kk p e s mi args below meth c H locs arr C hP hD hS hL)
/-! the copy of a stretch -/
def cpy (m : TM) (r1 a r2 b n : Nat) : TM := (fun u v => if u = r2 ∧ b ≤ v ∧ v < b + n then m.1 r1 (a + (v - b)) else m.1 u v, m.2)
theorem ws_cpy {o1 o2 n1 n2 r1 r2 f1 f2 sp dp n : Nat} (h1 : AR o1 8 n1 r1 f1) (h2 : AR o2 8 n2 r2 f2) (hs : sp + n ≤ n1) (hp : dp + n ≤ n2) :
    (wsOf K m).set o2 (kad K o2, .inl (kcA K 8, n2, .inl (va_cpy (fun j => if j < n1 then rdI m o1 j else 0) (fun j => if j < n2 then rdI m o2 j else 0) sp dp n))) = wsOf K (cpy m r1 (f1 + sp) r2 (f2 + dp) n) := by
  have e1 := fun j => h1.rd (j := j) (by decide)
  have e2 := fun j => h2.rd (j := j) (by decide)
  obtain ⟨a1, a2, a3, a4⟩ := h1
  obtain ⟨b1, b2, b3, b4⟩ := h2
  subst a3; subst b3
  have out : ∀ o' k', o' < 62 → k' < ln o' → isI o' k' = true → ¬ (o' = o2 ∧ dp ≤ k' ∧ k' < dp + n) → rdI (cpy m r1 (f1 + sp) r2 (f2 + dp) n) o' k' = rdI m o' k' := by
    intro o' k' g1 g2 g3 g4
    unfold rdI cpy
    dsimp only
    rw [if_neg]
    rintro ⟨z1, z2, z3⟩
    have hj : (lc o' k').2 - f2 < ln o2 := by omega
    have hl : lc o' k' = lc o2 ((lc o' k').2 - f2) := by rw [e2]; exact Prod.ext z1 (by show _ = f2 + _; omega)
    obtain ⟨y1, y2⟩ := lc_inj b1 hj (by simp [isI, b2]) g1 g2 g3 hl
    exact g4 ⟨y1, by omega, by omega⟩
  refine ws_set b1 ?_ ?_
  · rw [cell_arr (by omega) (by omega), b2]
    refine congrArg (fun z => Sum.inl (kcA K 8, ln o2, Sum.inl z)) (funext fun j => ?_)
    unfold va_cpy
    dsimp only
    by_cases hin : dp ≤ j ∧ j < dp + n
    · rw [if_pos (by omega), if_pos hin, if_pos (by omega)]
      unfold rdI
      rw [e2, e1]
      unfold cpy
      dsimp only
      rw [if_pos ⟨rfl, by omega, by omega⟩]
      exact congrArg (m.1 r1) (by omega)
    · rw [if_neg hin]
      by_cases hj : j < ln o2
      · rw [if_pos hj, if_pos hj, out o2 j b1 hj (by simp [isI, b2]) (fun q => hin q.2)]
      · rw [if_neg hj, if_neg hj]
  · intro o' ho' hne
    by_cases h6 : kd o' < 6
    · rw [cell_obj h6, cell_obj h6]
      refine congrArg (fun z => Sum.inr (kd o', z)) (List.map_congr_left fun j hj => congrArg (vmp K) ?_)
      have hj' : j < ln o' := List.mem_range.mp hj
      by_cases hf : fk (kd o') j = 0
      · rw [VL_int h6 hf, VL_int h6 hf, out o' j ho' hj' (by simp [isI, h6, hf]) (fun q => hne q.1)]
      · simp [VL, hf, cpy]
    · by_cases h9 : kd o' < 9
      · rw [cell_arr h6 h9, cell_arr h6 h9]
        refine congrArg (fun z => Sum.inl (kcA K (kd o'), ln o', Sum.inl z)) (funext fun j => ?_)
        by_cases hj : j < ln o'
        · rw [if_pos hj, if_pos hj, out o' j ho' hj (by simp [isI, h6, h9]; omega) (fun q => hne q.1)]
        · rw [if_neg hj, if_neg hj]
      · rw [cell_rarr h9, cell_rarr h9]
def AC (own : String) (idx : Nat) : Prop := Cond.methodLink own idx arraycopyName ∈ WT
theorem ac_nat : Cond.native arraycopyName ∈ WT := mw 392 (by decide +kernel) (by decide +kernel)
theorem ac_stat : Cond.static arraycopyName ∈ WT := mw 391 (by decide +kernel) (by decide +kernel)
theorem ac_ini : Cond.initialized "java/lang/System" ∈ WT := mw 62 (by decide +kernel) (by decide +kernel)
theorem ac_X0 : AC RX0 44 := mw 390 (by decide +kernel) (by decide +kernel)
theorem ac_X4 : AC RX4 210 := mw 659 (by decide +kernel) (by decide +kernel)
theorem x_copy {o1 o2 n1 n2 r1 r2 f1 f2 s1 d1 n' idx : Nat} {sp dp n : Int32} {m' : TM} (hd : decode cc pc = .ok (.invokestatic idx, 3)) (hq : pc + 3 = q) (hl : AC own idx) (h1 : AR o1 8 n1 r1 f1) (h2 : AR o2 8 n2 r2 f2) (hn0 : ¬ sp < 0 ∧ ¬ dp < 0 ∧ ¬ n < 0) (hs : sp.toNatClampNeg = s1 ∧ dp.toNatClampNeg = d1 ∧ n.toNatClampNeg = n') (hb1 : s1 + n' ≤ n1) (hb2 : d1 + n' ≤ n2) (hR : 1 ≤ fr ∧ (st.map fun v => v.category).sum + 18 ≤ lo) (hm : cpy m r1 (f1 + s1) r2 (f2 + d1) n' = m') (kk : XX own cc mL rt fr lo K q ls st m' Q) : XX own cc mL rt fr lo K pc ls (.int n :: .int dp :: .ref o2 :: .int sp :: .ref o1 :: st) m Q := by
  subst hq; subst hm
  intro p e s mi args below meth c H locs arr C hP hD hS hL
  show W _ _ _ _ _ _ _ _ _ _ _ _ _ _ _ (F0 mi pc arr (.int n :: .int dp :: .ref (adr K o2) :: .int sp :: .ref (adr K o1) :: st.map (vmp K)))
  rw [adr_o h1.1, adr_o h2.1]
  obtain ⟨g1, g2, g3⟩ := hs
  subst g1; subst g2; subst g3
  have hcat : ((st.map (vmp K)).map fun v => v.category).sum = (st.map fun v => v.category).sum := by
    rw [List.map_map]
    exact congrArg List.sum (List.map_congr_left fun v _ => vmp_cat K v)
  refine va_copyi C.1 C.2.1 (C.2.2.2.1.trans hL.len.symm) C.2.2.2.2.1 (C.2.2.2.2.2.1 _ hl) (C.2.2.2.2.2.1 _ ac_nat) (C.2.2.2.2.2.1 _ ac_stat) (C.2.2.2.2.2.1 _ ac_ini) C.2.2.2.2.2.2.2.1 hP hD hS o1 o2 2 2 (h1.he (by decide) (by decide)) (h2.he (by decide) (by decide)) (ty := .int) rfl rfl rfl hn0.1 hn0.2.1 hn0.2.2 hb1 hb2 (fun _ _ => rfl) hR.1 (by rw [hcat]; exact hR.2) hd (fun H1 locs1 hP1 hD1 hS1 => ?_)
  rw [ws_cpy h1 h2 hb1 hb2] at hP1 hD1
  exact kk p e s mi args below meth c H1 locs1 arr C hP1 hD1 hS1 hL

theorem adr_s {k : Nat} (h : k < 13) : adr K (100 + k) = kK K k := by
  unfold adr
  rw [if_neg (by omega), if_pos (by omega), Nat.add_sub_cancel_left]
theorem adr_v {k : Nat} (h : k < 13) : adr K (120 + k) = kV K k := by
  unfold adr
  rw [if_neg (by omega), if_neg (by omega), if_pos (by omega), Nat.add_sub_cancel_left]
theorem x_ldcS {k i : Nat} (hd : decode cc pc = .ok (.ldc i, 2)) (hq : pc + 2 = q) (hk : k < 13) (ho : own = RX3) (hi : sIdx.getD k 0 = i) (kk : XX own cc mL rt fr lo K q ls (.ref (100 + k) :: st) m Q) : XX own cc mL rt fr lo K pc ls st m Q := by
  subst hq; subst hi; subst ho
  intro p e s mi args below meth c H locs arr C hP hD hS hL
  have k2 := kk p e s mi args below meth c H locs arr C hP hD hS hL
  have k3 : W p (kL K) e ({ frames := fr, cells := 0, slots := 0, locals := lo }) s mi args below meth c H locs 0 0 (MQ below (QQ K Q) args s 0 0 (AA K)) (F0 mi (pc + 2) arr (.ref (kK K k) :: st.map (vmp K))) := by rw [← adr_s hk]; exact k2
  exact va_ldcS C.1 C.2.1 C.2.2.2.2.1 (C.2.2.2.2.2.2.2.2.2.1 k hk) hd k3
theorem x_sval {k i : Nat} (hd : decode cc pc = .ok (.getfield i, 3)) (hq : pc + 3 = q) (hk : k < 13) (hf : Cond.fieldLink own i "java/lang/String" "value" "[B" ∈ WT) (kk : XX own cc mL rt fr lo K q ls (.ref (120 + k) :: st) m Q) : XX own cc mL rt fr lo K pc ls (.ref (100 + k) :: st) m Q := by
  subst hq
  intro p e s mi args below meth c H locs arr C hP hD hS hL
  have k2 := kk p e s mi args below meth c H locs arr C hP hD hS hL
  have k3 : W p (kL K) e ({ frames := fr, cells := 0, slots := 0, locals := lo }) s mi args below meth c H locs 0 0 (MQ below (QQ K Q) args s 0 0 (AA K)) (F0 mi (pc + 3) arr (.ref (kV K k) :: st.map (vmp K))) := by rw [← adr_v hk]; exact k2
  show W _ _ _ _ _ _ _ _ _ _ _ _ _ _ _ (F0 mi pc arr (.ref (adr K (100 + k)) :: st.map (vmp K)))
  rw [adr_s hk]
  exact vk_getf C.1 C.2.1 (C.2.2.2.2.2.2.2.2.1.1 k hk).2.2.1 hS C.2.2.2.2.1 (C.2.2.2.2.2.1 _ hf) (fun _ h => h) hd k3
theorem x_scod {k i : Nat} (hd : decode cc pc = .ok (.getfield i, 3)) (hq : pc + 3 = q) (hk : k < 13) (hf : Cond.fieldLink own i "java/lang/String" "coder" "B" ∈ WT) (kk : XX own cc mL rt fr lo K q ls (.int 0 :: st) m Q) : XX own cc mL rt fr lo K pc ls (.ref (100 + k) :: st) m Q := by
  subst hq
  intro p e s mi args below meth c H locs arr C hP hD hS hL
  show W _ _ _ _ _ _ _ _ _ _ _ _ _ _ _ (F0 mi pc arr (.ref (adr K (100 + k)) :: st.map (vmp K)))
  rw [adr_s hk]
  exact vk_getf C.1 C.2.1 (C.2.2.2.2.2.2.2.2.1.1 k hk).2.1 hS C.2.2.2.2.1 (C.2.2.2.2.2.1 _ hf) (fun _ h => h) hd (kk p e s mi args below meth c H locs arr C hP hD hS hL)
theorem x_slen {k : Nat} {v : Int32} (hd : decode cc pc = .ok (.arraylength, 1)) (hq : pc + 1 = q) (hk : k < 13) (hv : Int32.ofNat (sLen.getD k 0) = v) (kk : XX own cc mL rt fr lo K q ls (.int v :: st) m Q) : XX own cc mL rt fr lo K pc ls (.ref (120 + k) :: st) m Q := by
  subst hq
  intro p e s mi args below meth c H locs arr C hP hD hS hL
  show W _ _ _ _ _ _ _ _ _ _ _ _ _ _ _ (F0 mi pc arr (.ref (adr K (120 + k)) :: st.map (vmp K)))
  rw [adr_v hk]
  exact va_tlen C.1 C.2.1 (C.2.2.2.2.2.2.2.2.1.1 k hk).2.2.2 hS hv hd (kk p e s mi args below meth c H locs arr C hP hD hS hL)
theorem x_sbald {k j : Nat} {i v : Int32} (hd : decode cc pc = .ok (.baload, 1)) (hq : pc + 1 = q) (hk : k < 13) (hj : IX i j (sLen.getD k 0)) (hv : (sByt.getD k []).getD j 0 = v) (kk : XX own cc mL rt fr lo K q ls (.int v :: st) m Q) : XX own cc mL rt fr lo K pc ls (.int i :: .ref (120 + k) :: st) m Q := by
  subst hq
  intro p e s mi args below meth c H locs arr C hP hD hS hL
  show W _ _ _ _ _ _ _ _ _ _ _ _ _ _ _ (F0 mi pc arr (.int i :: .ref (adr K (120 + k)) :: st.map (vmp K)))
  rw [adr_v hk]
  exact va_tb C.1 C.2.1 (C.2.2.2.2.2.2.2.2.1.1 k hk).2.2.2 hS hj.vp (v := .int v) (by rw [hj.2.1, hv]) hd (kk p e s mi args below meth c H locs arr C hP hD hS hL)
theorem x_gets1 {i : Nat} (hd : decode cc pc = .ok (.getstatic i, 3)) (hq : pc + 3 = q) (hf : Cond.fieldLink own i "java/lang/String" "COMPACT_STRINGS" "Z" ∈ WT) (kk : XX own cc mL rt fr lo K q ls (.int 1 :: st) m Q) : XX own cc mL rt fr lo K pc ls st m Q := by
  subst hq
  intro p e s mi args below meth c H locs arr C hP hD hS hL
  exact va_gets C.1 C.2.1 C.2.2.2.2.2.2.2.2.2.2.1 hS C.2.2.2.2.1 (C.2.2.2.2.2.1 _ hf) (fun _ h => h) hd (kk p e s mi args below meth c H locs arr C hP hD hS hL)
theorem x_getsF {i : Nat} (hd : decode cc pc = .ok (.getstatic i, 3)) (hq : pc + 3 = q) (hf : Cond.fieldLink own i "jdk/internal/util/Preconditions" "SIOOBE_FORMATTER" "Ljava/util/function/BiFunction;" ∈ WT) (kk : ∀ v : Value, v = .null ∨ v = .ref 140 → XX own cc mL rt fr lo K q ls (v :: st) m Q) : XX own cc mL rt fr lo K pc ls st m Q := by
  subst hq
  intro p e s mi args below meth c H locs arr C hP hD hS hL
  rcases C.2.2.2.2.2.2.2.2.2.2.2 with h | h
  · exact va_gets C.1 C.2.1 h hS C.2.2.2.2.1 (C.2.2.2.2.2.1 _ hf) (fun _ h => h) hd (kk .null (Or.inl rfl) p e s mi args below meth c H locs arr C hP hD hS hL)
  · exact va_gets C.1 C.2.1 h hS C.2.2.2.2.1 (C.2.2.2.2.2.1 _ hf) (fun _ h => h) hd (kk (.ref 140) (Or.inr rfl) p e s mi args below meth c H locs arr C hP hD hS hL)
end MEM
