/-! the text of the class; a token of the reference -/
theorem mm41 {m : TM} {g s c : Nat → Int32} {i : Nat} {v : Int32} : st1 (sr (sr (sr m 37 g) 13 s) 1 c) 37 i v = sr (sr (sr m 37 (upd g i v)) 13 s) 1 c := by
  rw [st1_eq, sr_ne (by decide), mm37]
  unfold sr
  refine Prod.ext (funext fun a => funext fun b => ?_) rfl
  by_cases h : a = 37 <;> by_cases h2 : a = 13 <;> by_cases h3 : a = 1 <;> simp [h, h2, h3]
theorem mm42 {m : TM} {g s : Nat → Int32} : sr (sr (sr m 37 g) 13 s) 1 (m.1 1) = sr (sr m 37 g) 13 s := by
  have h : m.1 1 = (sr (sr m 37 g) 13 s).1 1 := by rw [sr_ne (by decide), sr_ne (by decide)]
  rw [h, sr_self]
theorem neg_all : ∀ j, j < 121 → (-1 : Int32) - nI j < 0 := by decide +kernel
theorem anT_sign {t : Bool × Nat × (Nat → Int32)} (h1 : t.1 = true → t.2.1 ≤ 1000) (h2 : t.1 = false → t.2.1 ≤ 120) : anT t < 0 ↔ t.1 = false := by
  unfold anT
  cases e : t.1 with
  | false => rw [if_neg Bool.false_ne_true]; exact ⟨fun _ => rfl, fun _ => neg_all _ (by have := h2 e; omega)⟩
  | true => rw [if_pos rfl]; exact ⟨fun q => absurd q (jnI_nneg (by have := h1 e; omega)), fun q => by cases q⟩
theorem dX4_text_0 : decode cX4_text 0 = .ok (.aload_n 0, 1) := by decide +kernel
theorem dX4_text_1 : decode cX4_text 1 = .ok (.getfield 16, 3) := by decide +kernel
theorem dX4_text_4 : decode cX4_text 4 = .ok (.aload_n 0, 1) := by decide +kernel
theorem dX4_text_5 : decode cX4_text 5 = .ok (.getfield 12, 3) := by decide +kernel
theorem dX4_text_8 : decode cX4_text 8 = .ok (.invokevirtual 129, 3) := by decide +kernel
theorem dX4_text_11 : decode cX4_text 11 = .ok (.aload_n 0, 1) := by decide +kernel
theorem dX4_text_12 : decode cX4_text 12 = .ok (.getfield 29, 3) := by decide +kernel
theorem dX4_text_15 : decode cX4_text 15 = .ok (.aload_n 0, 1) := by decide +kernel
theorem dX4_text_16 : decode cX4_text 16 = .ok (.getfield 16, 3) := by decide +kernel
theorem dX4_text_19 : decode cX4_text 19 = .ok (.invokevirtual 173, 3) := by decide +kernel
theorem dX4_text_22 : decode cX4_text 22 = .ok (.istore_n 1, 1) := by decide +kernel
theorem dX4_text_23 : decode cX4_text 23 = .ok (.iload_n 1, 1) := by decide +kernel
theorem dX4_text_24 : decode cX4_text 24 = .ok (.ifCond .lt 14, 3) := by decide +kernel
theorem dX4_text_27 : decode cX4_text 27 = .ok (.aload_n 0, 1) := by decide +kernel
theorem dX4_text_28 : decode cX4_text 28 = .ok (.getfield 12, 3) := by decide +kernel
theorem dX4_text_31 : decode cX4_text 31 = .ok (.aload_n 0, 1) := by decide +kernel
theorem dX4_text_32 : decode cX4_text 32 = .ok (.getfield 16, 3) := by decide +kernel
theorem dX4_text_35 : decode cX4_text 35 = .ok (.invokevirtual 129, 3) := by decide +kernel
theorem dX4_text_38 : decode cX4_text 38 = .ok (.aload_n 0, 1) := by decide +kernel
theorem dX4_text_39 : decode cX4_text 39 = .ok (.getfield 29, 3) := by decide +kernel
theorem dX4_text_42 : decode cX4_text 42 = .ok (.iconst 0, 1) := by decide +kernel
theorem dX4_text_43 : decode cX4_text 43 = .ok (.putfield 166, 3) := by decide +kernel
theorem dX4_text_46 : decode cX4_text 46 = .ok (.iload_n 1, 1) := by decide +kernel
theorem dX4_text_47 : decode cX4_text 47 = .ok (.ireturn, 1) := by decide +kernel
set_option maxRecDepth 20000 in
set_option maxHeartbeats 4000000 in
theorem c_X4_text {K : Cx} {L n8 : Nat} {m : TM} (hL : m.1 37 1 = nI L) (hL2 : L ≤ 120) (hI : Iv n8 (m.1 1)) : CQ yX4_text cX4_text 2 (some .int) 10 219 K [.ref 0] (m) (fun r1 m1 => r1 = some (.int (anT (tlF L (m.1 38) 121 1 (m.1 1) (nxE L (m.1 38) 0)))) ∧ ∃ n1 g2 s2 c2, g2 1 = 0 ∧ ((tlF L (m.1 38) 121 1 (m.1 1) (nxE L (m.1 38) 0)).1 = true → IE n1 c2 (tlF L (m.1 38) 121 1 (m.1 1) (nxE L (m.1 38) 0)).2.2) ∧ ((tlF L (m.1 38) 121 1 (m.1 1) (nxE L (m.1 38) 0)).1 = false → c2 = m.1 1) ∧ m1 = sr (sr (sr m 37 g2) 13 s2) 1 c2) := by
  refine ct_ofq (n := 1) (by decide +kernel) rfl rfl ?_
  show XX RX4 cX4_text 2 (some .int) 10 219 K 0 [some (.ref 0), none] [] (m) (fun r1 m1 => r1 = some (.int (anT (tlF L (m.1 38) 121 1 (m.1 1) (nxE L (m.1 38) 0)))) ∧ ∃ n1 g2 s2 c2, g2 1 = 0 ∧ ((tlF L (m.1 38) 121 1 (m.1 1) (nxE L (m.1 38) 0)).1 = true → IE n1 c2 (tlF L (m.1 38) 121 1 (m.1 1) (nxE L (m.1 38) 0)).2.2) ∧ ((tlF L (m.1 38) 121 1 (m.1 1) (nxE L (m.1 38) 0)).1 = false → c2 = m.1 1) ∧ m1 = sr (sr (sr m 37 g2) 13 s2) 1 c2)
  obtain ⟨t1, t2, n1, hn1⟩ := tl_rel (L := L) (w := m.1 38) 121 1 (j := nxE L (m.1 38) 0) (s := bcF (m.1 13) (m.1 1) n8) (u := m.1 1) (n := n8) ⟨iv_bc hI, bcF_eqv hI.1⟩
  have hbd := tl_bd (L := L) (w := m.1 38) 121 1 (s := m.1 1) (nxE_le (L := L) (w := m.1 38) (Nat.zero_le L)).2
  have hneg : anT (tlF L (m.1 38) 121 1 (m.1 1) (nxE L (m.1 38) 0)) < 0 ↔ (tlF L (m.1 38) 121 1 (m.1 1) (nxE L (m.1 38) 0)).1 = false := anT_sign (fun q => by have := (hbd.1 q).2; omega) (fun q => by have := hbd.2 q; omega)
  have han : anT (tlF L (m.1 38) 121 1 (bcF (m.1 13) (m.1 1) n8) (nxE L (m.1 38) 0)) = anT (tlF L (m.1 38) 121 1 (m.1 1) (nxE L (m.1 38) 0)) := by unfold anT; rw [t1, t2]
  refine x_aload_n (q := 1) dX4_text_0 rfl rfl ?_
  refine x_getR (q := 4) dX4_text_1 rfl fl_X4_16 (or4_trial) ?_
  refine x_aload_n (q := 5) dX4_text_4 rfl rfl ?_
  refine x_getR (q := 8) dX4_text_5 rfl fl_X4_12 (or4_coast) ?_
  refine x_callV1n (q := 11) dX4_text_8 rfl ml_X4_129 mv_X0_becomeAs (rv0 isC_13) rfl (p_X0_becomeAs isC_13 isC_1 (by decide) hI.2.1 hI.1) (Nat.le_of_ble_eq_true rfl) ⟨by decide, by decide⟩ ?_
  refine x_aload_n (q := 12) dX4_text_11 rfl rfl ?_
  refine x_getR (q := 15) dX4_text_12 rfl fl_X4_29 (or4_tape) ?_
  refine x_aload_n (q := 16) dX4_text_15 rfl rfl ?_
  refine x_getR (q := 19) dX4_text_16 rfl fl_X4_16 (or4_trial) ?_
  rw [show sr m 13 (bcF (m.1 13) (m.1 1) n8) = sr (sr m 37 (m.1 37)) 13 (bcF (m.1 13) (m.1 1) n8) by rw [sr_self]]
  refine x_callV1i (q := 22) dX4_text_19 rfl ml_X4_173 mv_X3_tell rv3 rfl (c_X3_tell hL hL2 ⟨n8, iv_bc hI⟩) (Nat.le_of_ble_eq_true rfl) ⟨by decide, by decide⟩ (fun m9 h9 => ?_)
  obtain ⟨g19, s19, hg19, hs19, rfl⟩ := h9
  rw [han]
  rw [t1] at hs19
  refine x_istore_n (q := 23) dX4_text_22 rfl (by decide) rfl rfl ?_
  refine x_iload_n (q := 24) dX4_text_23 rfl rfl ?_
  refine x_if_lt (q := 27) (t := 38) dX4_text_24 rfl (by decide) (fun h24 => ?_) (fun h24 => ?_)
  · refine x_aload_n (q := 39) dX4_text_38 rfl rfl ?_
    refine x_getR (q := 42) dX4_text_39 rfl fl_X4_29 (or4_tape) ?_
    refine x_iconst (q := 43) (v := 0) dX4_text_42 rfl (by decide) ?_
    refine x_putI (q := 46) dX4_text_43 rfl fl_X4_166 (ob3_length) rfl rfl rfl rfl ?_
    refine x_iload_n (q := 47) dX4_text_46 rfl rfl ?_
    refine x_ireturn dX4_text_47 rfl rfl ?_
    rw [← mm42, mm41]
    exact ⟨rfl, n8, _, _, _, upd_self, fun q => (by rw [hneg.mp h24] at q; cases q), fun _ => rfl, rfl⟩
  have ht : (tlF L (m.1 38) 121 1 (m.1 1) (nxE L (m.1 38) 0)).1 = true := by
    cases e : (tlF L (m.1 38) 121 1 (m.1 1) (nxE L (m.1 38) 0)).1 with
    | false => exact absurd (hneg.mpr e) h24
    | true => rfl
  have hI1 : Iv n1 s19 := by rw [hs19 ht]; exact hn1.1
  refine x_aload_n (q := 28) dX4_text_27 rfl rfl ?_
  refine x_getR (q := 31) dX4_text_28 rfl fl_X4_12 (or4_coast) ?_
  refine x_aload_n (q := 32) dX4_text_31 rfl rfl ?_
  refine x_getR (q := 35) dX4_text_32 rfl fl_X4_16 (or4_trial) ?_
  refine x_callV1n (q := 38) dX4_text_35 rfl ml_X4_129 mv_X0_becomeAs (rv0 isC_1) rfl (p_X0_becomeAs (n8 := n1) isC_1 isC_13 (by decide) (by rw [sr_at]; exact hI1.2.1) hI1.1) (Nat.le_of_ble_eq_true rfl) ⟨by decide, by decide⟩ ?_
  rw [sr_at, show (sr (sr m 37 g19) 13 s19).1 1 = m.1 1 by rw [sr_ne (by decide), sr_ne (by decide)]]
  refine x_aload_n (q := 39) dX4_text_38 rfl rfl ?_
  refine x_getR (q := 42) dX4_text_39 rfl fl_X4_29 (or4_tape) ?_
  refine x_iconst (q := 43) (v := 0) dX4_text_42 rfl (by decide) ?_
  refine x_putI (q := 46) dX4_text_43 rfl fl_X4_166 (ob3_length) rfl rfl rfl rfl ?_
  refine x_iload_n (q := 47) dX4_text_46 rfl rfl ?_
  refine x_ireturn dX4_text_47 rfl rfl ?_
  rw [mm41]
  exact ⟨rfl, n1, _, _, _, upd_self, fun _ => ⟨(bcF_eqv hI1.1).sy.iv hI1, (bcF_eqv hI1.1).tr (hs19 ht ▸ hn1.2)⟩, fun q => (by rw [ht] at q; cases q), rfl⟩
def BB (b x : Int32) : Prop := ∃ c, c < 256 ∧ x = nI c ∧ b = (nI c).toInt8.toInt32
set_option maxRecDepth 100000 in
theorem bb_all : ∀ c, c < 256 → (outI (nI c) 97 122 = false ↔ sob (nI c).toInt8.toInt32 = 1) ∧ (outI (nI c) 48 57 = false ↔ sob (nI c).toInt8.toInt32 = 2) ∧ (nI c = 59 ↔ sob (nI c).toInt8.toInt32 = 3) ∧ (nI c = 32 ↔ (nI c).toInt8.toInt32 = 32) ∧ (sob (nI c).toInt8.toInt32 = 1 → nI c = (nI c).toInt8.toInt32) ∧ (sob (nI c).toInt8.toInt32 = 2 → nI c = (nI c).toInt8.toInt32) := by decide +kernel
theorem BB.all {b x : Int32} (h : BB b x) : (outI x 97 122 = false ↔ sob b = 1) ∧ (outI x 48 57 = false ↔ sob b = 2) ∧ (x = 59 ↔ sob b = 3) ∧ (x = 32 ↔ b = 32) ∧ (sob b = 1 → x = b) ∧ (sob b = 2 → x = b) := by
  obtain ⟨c, hc, rfl, rfl⟩ := h
  exact bb_all c hc
def cnF (v : Nat) (b : Int32) : Nat := if v ≤ 999999999999999 then v * 27 + (cl b - 96) else v
def cvF (L : Nat) (w : Nat → Int32) : Nat → Nat → Nat → Nat
  | 0, _, v => v
  | f + 1, e, v => if soF L w e = 1 then cvF L w f (e + 1) (cnF v (w e)) else v
def wvF (L : Nat) (w : Nat → Int32) (j : Nat) : Nat := cvF L w (L - j) j 0
def tkF (L : Nat) (w : Nat → Int32) (j : Nat) : Int32 := if soF L w j = 2 ∧ 999 < nvF L w j then 4 else soF L w j
/-- the reference stands at a token -/
def RS (z3 : Int32) (L : Nat) (w : Nat → Int32) (j : Nat) (g : Nat → Int32) (v : Int64) : Prop := g 6 = nI L ∧ g 7 = tkF L w j ∧ g 8 = nI j ∧ g 9 = nI (enF L w j) ∧ (soF L w j = 1 → v = lI (wvF L w j)) ∧ (soF L w j = 2 → v = lI (nvF L w j)) ∧ g 3 = z3
theorem cnF_le {v : Nat} {b : Int32} (hv : v < 27000000000000000) (h : sob b = 1) : cnF v b < 27000000000000000 := by
  have h1 := sob_let h
  unfold cnF
  split <;> omega
theorem lg_le {a b : Nat} (ha : a < 2 ^ 63) (hb : b < 2 ^ 63) : lg_cmp (lI a) (lI b) ≤ 0 ↔ a ≤ b := by
  rw [lg_cmp_le, Int64.le_iff_toInt_le, lI_i ha, lI_i hb]
  omega
theorem lI_add (a b : Nat) : lI a + lI b = lI (a + b) := (Int64.ofNat_add a b).symm
theorem cn_eq {v : Nat} {b : Int32} (h : sob b = 1) (hv : v ≤ 999999999999999) : lI v * 27 + b.toInt64 - 96 = lI (cnF v b) := by
  obtain ⟨c, h1, h2, rfl⟩ : ∃ c, 97 ≤ c ∧ c ≤ 122 ∧ b = nI c := ⟨cl b, sob_let h⟩
  have ec : cl (nI c) = c := jnI_clamp (by omega)
  unfold cnF
  rw [if_pos hv, ec, nI_lI (by omega)]
  have e1 : lI v * 27 = lI (v * 27) := lI_mul v 27
  have e2 : lI c = lI (c - 96) + 96 := by
    have := lI_add (c - 96) 96
    rw [Nat.sub_add_cancel (by omega)] at this
    exact this.symm
  rw [e1, e2, ← Int64.add_assoc, lI_add]
  exact Int64.add_sub_cancel ..
theorem dn_eq {v : Nat} {b : Int32} (h : sob b = 2) (hv : v ≤ 999) : lI v * 10 + b.toInt64 - 48 = lI (vnF v b) := by
  obtain ⟨c, h1, h2, rfl⟩ : ∃ c, 48 ≤ c ∧ c ≤ 57 ∧ b = nI c := ⟨cl b, sob_dig h⟩
  have ec : cl (nI c) = c := jnI_clamp (by omega)
  unfold vnF dgF
  rw [if_pos hv, ec, nI_lI (by omega)]
  have e1 : lI v * 10 = lI (v * 10) := lI_mul v 10
  have e2 : lI c = lI (c - 48) + 48 := by
    have := lI_add (c - 48) 48
    rw [Nat.sub_add_cancel (by omega)] at this
    exact this.symm
  rw [e1, e2, ← Int64.add_assoc, lI_add]
  exact Int64.add_sub_cancel ..
theorem nm1 {m : TM} {g : Nat → Int32} {v : Int64} : st2 (sr m 49 g) v = sr (st2 m v) 49 g := rfl
theorem nm2 {m : TM} {g : Nat → Int32} {v : Int64} : (sr (st2 m v) 49 g).2 = v := rfl
theorem nm3 {m : TM} {g : Nat → Int32} {v v' : Int64} : st2 (sr (st2 m v) 49 g) v' = sr (st2 m v') 49 g := rfl
theorem nm54 {m : TM} {g : Nat → Int32} {v : Int64} : (sr (st2 m v) 49 g).1 54 = m.1 54 := sr_ne (by decide)
theorem dX5_nextToken_0 : decode cX5_nextToken 0 = .ok (.aload_n 0, 1) := by decide +kernel
theorem dX5_nextToken_1 : decode cX5_nextToken 1 = .ok (.aload_n 0, 1) := by decide +kernel
theorem dX5_nextToken_2 : decode cX5_nextToken 2 = .ok (.getfield 181, 3) := by decide +kernel
theorem dX5_nextToken_5 : decode cX5_nextToken 5 = .ok (.putfield 184, 3) := by decide +kernel
theorem dX5_nextToken_8 : decode cX5_nextToken 8 = .ok (.aload_n 0, 1) := by decide +kernel
theorem dX5_nextToken_9 : decode cX5_nextToken 9 = .ok (.getfield 184, 3) := by decide +kernel
theorem dX5_nextToken_12 : decode cX5_nextToken 12 = .ok (.aload_n 0, 1) := by decide +kernel
theorem dX5_nextToken_13 : decode cX5_nextToken 13 = .ok (.getfield 177, 3) := by decide +kernel
theorem dX5_nextToken_16 : decode cX5_nextToken 16 = .ok (.if_icmp .ge 30, 3) := by decide +kernel
theorem dX5_nextToken_19 : decode cX5_nextToken 19 = .ok (.aload_n 0, 1) := by decide +kernel
theorem dX5_nextToken_20 : decode cX5_nextToken 20 = .ok (.getfield 22, 3) := by decide +kernel
theorem dX5_nextToken_23 : decode cX5_nextToken 23 = .ok (.aload_n 0, 1) := by decide +kernel
theorem dX5_nextToken_24 : decode cX5_nextToken 24 = .ok (.getfield 184, 3) := by decide +kernel
theorem dX5_nextToken_27 : decode cX5_nextToken 27 = .ok (.iaload, 1) := by decide +kernel
theorem dX5_nextToken_28 : decode cX5_nextToken 28 = .ok (.bipush 32, 2) := by decide +kernel
theorem dX5_nextToken_30 : decode cX5_nextToken 30 = .ok (.if_icmp .ne 16, 3) := by decide +kernel
theorem dX5_nextToken_33 : decode cX5_nextToken 33 = .ok (.aload_n 0, 1) := by decide +kernel
theorem dX5_nextToken_34 : decode cX5_nextToken 34 = .ok (.dup, 1) := by decide +kernel
theorem dX5_nextToken_35 : decode cX5_nextToken 35 = .ok (.getfield 184, 3) := by decide +kernel
theorem dX5_nextToken_38 : decode cX5_nextToken 38 = .ok (.iconst 1, 1) := by decide +kernel
theorem dX5_nextToken_39 : decode cX5_nextToken 39 = .ok (.iadd, 1) := by decide +kernel
theorem dX5_nextToken_40 : decode cX5_nextToken 40 = .ok (.putfield 184, 3) := by decide +kernel
theorem dX5_nextToken_43 : decode cX5_nextToken 43 = .ok (.goto (-35), 3) := by decide +kernel
theorem dX5_nextToken_46 : decode cX5_nextToken 46 = .ok (.aload_n 0, 1) := by decide +kernel
theorem dX5_nextToken_47 : decode cX5_nextToken 47 = .ok (.aload_n 0, 1) := by decide +kernel
theorem dX5_nextToken_48 : decode cX5_nextToken 48 = .ok (.getfield 184, 3) := by decide +kernel
theorem dX5_nextToken_51 : decode cX5_nextToken 51 = .ok (.putfield 181, 3) := by decide +kernel
theorem dX5_nextToken_54 : decode cX5_nextToken 54 = .ok (.aload_n 0, 1) := by decide +kernel
theorem dX5_nextToken_55 : decode cX5_nextToken 55 = .ok (.lconst 0, 1) := by decide +kernel
theorem dX5_nextToken_56 : decode cX5_nextToken 56 = .ok (.putfield 187, 3) := by decide +kernel
theorem dX5_nextToken_59 : decode cX5_nextToken 59 = .ok (.aload_n 0, 1) := by decide +kernel
theorem dX5_nextToken_60 : decode cX5_nextToken 60 = .ok (.getfield 184, 3) := by decide +kernel
theorem dX5_nextToken_63 : decode cX5_nextToken 63 = .ok (.aload_n 0, 1) := by decide +kernel
theorem dX5_nextToken_64 : decode cX5_nextToken 64 = .ok (.getfield 177, 3) := by decide +kernel
theorem dX5_nextToken_67 : decode cX5_nextToken 67 = .ok (.if_icmp .ne 11, 3) := by decide +kernel
theorem dX5_nextToken_70 : decode cX5_nextToken 70 = .ok (.aload_n 0, 1) := by decide +kernel
theorem dX5_nextToken_71 : decode cX5_nextToken 71 = .ok (.iconst 0, 1) := by decide +kernel
theorem dX5_nextToken_72 : decode cX5_nextToken 72 = .ok (.putfield 191, 3) := by decide +kernel
theorem dX5_nextToken_75 : decode cX5_nextToken 75 = .ok (.goto 262, 3) := by decide +kernel
theorem dX5_nextToken_78 : decode cX5_nextToken 78 = .ok (.aload_n 0, 1) := by decide +kernel
theorem dX5_nextToken_79 : decode cX5_nextToken 79 = .ok (.getfield 22, 3) := by decide +kernel
theorem dX5_nextToken_82 : decode cX5_nextToken 82 = .ok (.aload_n 0, 1) := by decide +kernel
theorem dX5_nextToken_83 : decode cX5_nextToken 83 = .ok (.getfield 184, 3) := by decide +kernel
theorem dX5_nextToken_86 : decode cX5_nextToken 86 = .ok (.iaload, 1) := by decide +kernel
theorem dX5_nextToken_87 : decode cX5_nextToken 87 = .ok (.invokestatic 194, 3) := by decide +kernel
theorem dX5_nextToken_90 : decode cX5_nextToken 90 = .ok (.ifCond .eq 92, 3) := by decide +kernel
theorem dX5_nextToken_93 : decode cX5_nextToken 93 = .ok (.aload_n 0, 1) := by decide +kernel
theorem dX5_nextToken_94 : decode cX5_nextToken 94 = .ok (.iconst 1, 1) := by decide +kernel
theorem dX5_nextToken_95 : decode cX5_nextToken 95 = .ok (.putfield 191, 3) := by decide +kernel
theorem dX5_nextToken_98 : decode cX5_nextToken 98 = .ok (.aload_n 0, 1) := by decide +kernel
theorem dX5_nextToken_99 : decode cX5_nextToken 99 = .ok (.getfield 181, 3) := by decide +kernel
theorem dX5_nextToken_102 : decode cX5_nextToken 102 = .ok (.aload_n 0, 1) := by decide +kernel
theorem dX5_nextToken_103 : decode cX5_nextToken 103 = .ok (.getfield 177, 3) := by decide +kernel
theorem dX5_nextToken_106 : decode cX5_nextToken 106 = .ok (.if_icmp .ge 231, 3) := by decide +kernel
theorem dX5_nextToken_109 : decode cX5_nextToken 109 = .ok (.aload_n 0, 1) := by decide +kernel
theorem dX5_nextToken_110 : decode cX5_nextToken 110 = .ok (.getfield 22, 3) := by decide +kernel
theorem dX5_nextToken_113 : decode cX5_nextToken 113 = .ok (.aload_n 0, 1) := by decide +kernel
theorem dX5_nextToken_114 : decode cX5_nextToken 114 = .ok (.getfield 181, 3) := by decide +kernel
theorem dX5_nextToken_117 : decode cX5_nextToken 117 = .ok (.iaload, 1) := by decide +kernel
theorem dX5_nextToken_118 : decode cX5_nextToken 118 = .ok (.invokestatic 194, 3) := by decide +kernel
theorem dX5_nextToken_121 : decode cX5_nextToken 121 = .ok (.ifCond .eq 216, 3) := by decide +kernel
theorem dX5_nextToken_124 : decode cX5_nextToken 124 = .ok (.aload_n 0, 1) := by decide +kernel
theorem dX5_nextToken_125 : decode cX5_nextToken 125 = .ok (.aload_n 0, 1) := by decide +kernel
theorem dX5_nextToken_126 : decode cX5_nextToken 126 = .ok (.getfield 187, 3) := by decide +kernel
theorem dX5_nextToken_129 : decode cX5_nextToken 129 = .ok (.ldc2_w 197, 3) := by decide +kernel
theorem dX5_nextToken_132 : decode cX5_nextToken 132 = .ok (.lcmp, 1) := by decide +kernel
theorem dX5_nextToken_133 : decode cX5_nextToken 133 = .ok (.ifCond .le 10, 3) := by decide +kernel
theorem dX5_nextToken_136 : decode cX5_nextToken 136 = .ok (.aload_n 0, 1) := by decide +kernel
theorem dX5_nextToken_137 : decode cX5_nextToken 137 = .ok (.getfield 187, 3) := by decide +kernel
theorem dX5_nextToken_140 : decode cX5_nextToken 140 = .ok (.goto 26, 3) := by decide +kernel
theorem dX5_nextToken_143 : decode cX5_nextToken 143 = .ok (.aload_n 0, 1) := by decide +kernel
theorem dX5_nextToken_144 : decode cX5_nextToken 144 = .ok (.getfield 187, 3) := by decide +kernel
theorem dX5_nextToken_147 : decode cX5_nextToken 147 = .ok (.ldc2_w 199, 3) := by decide +kernel
theorem dX5_nextToken_150 : decode cX5_nextToken 150 = .ok (.lmul, 1) := by decide +kernel
theorem dX5_nextToken_151 : decode cX5_nextToken 151 = .ok (.aload_n 0, 1) := by decide +kernel
theorem dX5_nextToken_152 : decode cX5_nextToken 152 = .ok (.getfield 22, 3) := by decide +kernel
theorem dX5_nextToken_155 : decode cX5_nextToken 155 = .ok (.aload_n 0, 1) := by decide +kernel
theorem dX5_nextToken_156 : decode cX5_nextToken 156 = .ok (.getfield 181, 3) := by decide +kernel
theorem dX5_nextToken_159 : decode cX5_nextToken 159 = .ok (.iaload, 1) := by decide +kernel
theorem dX5_nextToken_160 : decode cX5_nextToken 160 = .ok (.i2l, 1) := by decide +kernel
theorem dX5_nextToken_161 : decode cX5_nextToken 161 = .ok (.ladd, 1) := by decide +kernel
theorem dX5_nextToken_162 : decode cX5_nextToken 162 = .ok (.ldc2_w 201, 3) := by decide +kernel
theorem dX5_nextToken_165 : decode cX5_nextToken 165 = .ok (.lsub, 1) := by decide +kernel
theorem dX5_nextToken_166 : decode cX5_nextToken 166 = .ok (.putfield 187, 3) := by decide +kernel
theorem dX5_nextToken_169 : decode cX5_nextToken 169 = .ok (.aload_n 0, 1) := by decide +kernel
theorem dX5_nextToken_170 : decode cX5_nextToken 170 = .ok (.dup, 1) := by decide +kernel
theorem dX5_nextToken_171 : decode cX5_nextToken 171 = .ok (.getfield 181, 3) := by decide +kernel
theorem dX5_nextToken_174 : decode cX5_nextToken 174 = .ok (.iconst 1, 1) := by decide +kernel
theorem dX5_nextToken_175 : decode cX5_nextToken 175 = .ok (.iadd, 1) := by decide +kernel
theorem dX5_nextToken_176 : decode cX5_nextToken 176 = .ok (.putfield 181, 3) := by decide +kernel
theorem dX5_nextToken_179 : decode cX5_nextToken 179 = .ok (.goto (-81), 3) := by decide +kernel
theorem dX5_nextToken_182 : decode cX5_nextToken 182 = .ok (.aload_n 0, 1) := by decide +kernel
theorem dX5_nextToken_183 : decode cX5_nextToken 183 = .ok (.getfield 22, 3) := by decide +kernel
theorem dX5_nextToken_186 : decode cX5_nextToken 186 = .ok (.aload_n 0, 1) := by decide +kernel
theorem dX5_nextToken_187 : decode cX5_nextToken 187 = .ok (.getfield 184, 3) := by decide +kernel
theorem dX5_nextToken_190 : decode cX5_nextToken 190 = .ok (.iaload, 1) := by decide +kernel
theorem dX5_nextToken_191 : decode cX5_nextToken 191 = .ok (.invokestatic 203, 3) := by decide +kernel
theorem dX5_nextToken_194 : decode cX5_nextToken 194 = .ok (.ifCond .eq 110, 3) := by decide +kernel
theorem dX5_nextToken_197 : decode cX5_nextToken 197 = .ok (.aload_n 0, 1) := by decide +kernel
theorem dX5_nextToken_198 : decode cX5_nextToken 198 = .ok (.getfield 181, 3) := by decide +kernel
theorem dX5_nextToken_201 : decode cX5_nextToken 201 = .ok (.aload_n 0, 1) := by decide +kernel
theorem dX5_nextToken_202 : decode cX5_nextToken 202 = .ok (.getfield 177, 3) := by decide +kernel
theorem dX5_nextToken_205 : decode cX5_nextToken 205 = .ok (.if_icmp .ge 76, 3) := by decide +kernel
theorem dX5_nextToken_208 : decode cX5_nextToken 208 = .ok (.aload_n 0, 1) := by decide +kernel
theorem dX5_nextToken_209 : decode cX5_nextToken 209 = .ok (.getfield 22, 3) := by decide +kernel
theorem dX5_nextToken_212 : decode cX5_nextToken 212 = .ok (.aload_n 0, 1) := by decide +kernel
theorem dX5_nextToken_213 : decode cX5_nextToken 213 = .ok (.getfield 181, 3) := by decide +kernel
theorem dX5_nextToken_216 : decode cX5_nextToken 216 = .ok (.iaload, 1) := by decide +kernel
theorem dX5_nextToken_217 : decode cX5_nextToken 217 = .ok (.invokestatic 203, 3) := by decide +kernel
theorem dX5_nextToken_220 : decode cX5_nextToken 220 = .ok (.ifCond .eq 61, 3) := by decide +kernel
theorem dX5_nextToken_223 : decode cX5_nextToken 223 = .ok (.aload_n 0, 1) := by decide +kernel
theorem dX5_nextToken_224 : decode cX5_nextToken 224 = .ok (.aload_n 0, 1) := by decide +kernel
theorem dX5_nextToken_225 : decode cX5_nextToken 225 = .ok (.getfield 187, 3) := by decide +kernel
theorem dX5_nextToken_228 : decode cX5_nextToken 228 = .ok (.ldc2_w 206, 3) := by decide +kernel
theorem dX5_nextToken_231 : decode cX5_nextToken 231 = .ok (.lcmp, 1) := by decide +kernel
theorem dX5_nextToken_232 : decode cX5_nextToken 232 = .ok (.ifCond .le 10, 3) := by decide +kernel
theorem dX5_nextToken_235 : decode cX5_nextToken 235 = .ok (.aload_n 0, 1) := by decide +kernel
theorem dX5_nextToken_236 : decode cX5_nextToken 236 = .ok (.getfield 187, 3) := by decide +kernel
theorem dX5_nextToken_239 : decode cX5_nextToken 239 = .ok (.goto 26, 3) := by decide +kernel
theorem dX5_nextToken_242 : decode cX5_nextToken 242 = .ok (.aload_n 0, 1) := by decide +kernel
theorem dX5_nextToken_243 : decode cX5_nextToken 243 = .ok (.getfield 187, 3) := by decide +kernel
theorem dX5_nextToken_246 : decode cX5_nextToken 246 = .ok (.ldc2_w 208, 3) := by decide +kernel
theorem dX5_nextToken_249 : decode cX5_nextToken 249 = .ok (.lmul, 1) := by decide +kernel
theorem dX5_nextToken_250 : decode cX5_nextToken 250 = .ok (.aload_n 0, 1) := by decide +kernel
theorem dX5_nextToken_251 : decode cX5_nextToken 251 = .ok (.getfield 22, 3) := by decide +kernel
theorem dX5_nextToken_254 : decode cX5_nextToken 254 = .ok (.aload_n 0, 1) := by decide +kernel
theorem dX5_nextToken_255 : decode cX5_nextToken 255 = .ok (.getfield 181, 3) := by decide +kernel
theorem dX5_nextToken_258 : decode cX5_nextToken 258 = .ok (.iaload, 1) := by decide +kernel
theorem dX5_nextToken_259 : decode cX5_nextToken 259 = .ok (.i2l, 1) := by decide +kernel
theorem dX5_nextToken_260 : decode cX5_nextToken 260 = .ok (.ladd, 1) := by decide +kernel
theorem dX5_nextToken_261 : decode cX5_nextToken 261 = .ok (.ldc2_w 210, 3) := by decide +kernel
theorem dX5_nextToken_264 : decode cX5_nextToken 264 = .ok (.lsub, 1) := by decide +kernel
theorem dX5_nextToken_265 : decode cX5_nextToken 265 = .ok (.putfield 187, 3) := by decide +kernel
theorem dX5_nextToken_268 : decode cX5_nextToken 268 = .ok (.aload_n 0, 1) := by decide +kernel
theorem dX5_nextToken_269 : decode cX5_nextToken 269 = .ok (.dup, 1) := by decide +kernel
theorem dX5_nextToken_270 : decode cX5_nextToken 270 = .ok (.getfield 181, 3) := by decide +kernel
theorem dX5_nextToken_273 : decode cX5_nextToken 273 = .ok (.iconst 1, 1) := by decide +kernel
theorem dX5_nextToken_274 : decode cX5_nextToken 274 = .ok (.iadd, 1) := by decide +kernel
theorem dX5_nextToken_275 : decode cX5_nextToken 275 = .ok (.putfield 181, 3) := by decide +kernel
theorem dX5_nextToken_278 : decode cX5_nextToken 278 = .ok (.goto (-81), 3) := by decide +kernel
theorem dX5_nextToken_281 : decode cX5_nextToken 281 = .ok (.aload_n 0, 1) := by decide +kernel
theorem dX5_nextToken_282 : decode cX5_nextToken 282 = .ok (.aload_n 0, 1) := by decide +kernel
theorem dX5_nextToken_283 : decode cX5_nextToken 283 = .ok (.getfield 187, 3) := by decide +kernel
theorem dX5_nextToken_286 : decode cX5_nextToken 286 = .ok (.ldc2_w 206, 3) := by decide +kernel
theorem dX5_nextToken_289 : decode cX5_nextToken 289 = .ok (.lcmp, 1) := by decide +kernel
theorem dX5_nextToken_290 : decode cX5_nextToken 290 = .ok (.ifCond .le 7, 3) := by decide +kernel
theorem dX5_nextToken_293 : decode cX5_nextToken 293 = .ok (.iconst 4, 1) := by decide +kernel
theorem dX5_nextToken_294 : decode cX5_nextToken 294 = .ok (.goto 4, 3) := by decide +kernel
theorem dX5_nextToken_297 : decode cX5_nextToken 297 = .ok (.iconst 2, 1) := by decide +kernel
theorem dX5_nextToken_298 : decode cX5_nextToken 298 = .ok (.putfield 191, 3) := by decide +kernel
theorem dX5_nextToken_301 : decode cX5_nextToken 301 = .ok (.goto 36, 3) := by decide +kernel
theorem dX5_nextToken_304 : decode cX5_nextToken 304 = .ok (.aload_n 0, 1) := by decide +kernel
theorem dX5_nextToken_305 : decode cX5_nextToken 305 = .ok (.aload_n 0, 1) := by decide +kernel
theorem dX5_nextToken_306 : decode cX5_nextToken 306 = .ok (.getfield 22, 3) := by decide +kernel
theorem dX5_nextToken_309 : decode cX5_nextToken 309 = .ok (.aload_n 0, 1) := by decide +kernel
theorem dX5_nextToken_310 : decode cX5_nextToken 310 = .ok (.getfield 184, 3) := by decide +kernel
theorem dX5_nextToken_313 : decode cX5_nextToken 313 = .ok (.iaload, 1) := by decide +kernel
theorem dX5_nextToken_314 : decode cX5_nextToken 314 = .ok (.bipush 59, 2) := by decide +kernel
theorem dX5_nextToken_316 : decode cX5_nextToken 316 = .ok (.if_icmp .ne 7, 3) := by decide +kernel
theorem dX5_nextToken_319 : decode cX5_nextToken 319 = .ok (.iconst 3, 1) := by decide +kernel
theorem dX5_nextToken_320 : decode cX5_nextToken 320 = .ok (.goto 4, 3) := by decide +kernel
theorem dX5_nextToken_323 : decode cX5_nextToken 323 = .ok (.iconst 4, 1) := by decide +kernel
theorem dX5_nextToken_324 : decode cX5_nextToken 324 = .ok (.putfield 191, 3) := by decide +kernel
theorem dX5_nextToken_327 : decode cX5_nextToken 327 = .ok (.aload_n 0, 1) := by decide +kernel
theorem dX5_nextToken_328 : decode cX5_nextToken 328 = .ok (.dup, 1) := by decide +kernel
theorem dX5_nextToken_329 : decode cX5_nextToken 329 = .ok (.getfield 181, 3) := by decide +kernel
theorem dX5_nextToken_332 : decode cX5_nextToken 332 = .ok (.iconst 1, 1) := by decide +kernel
theorem dX5_nextToken_333 : decode cX5_nextToken 333 = .ok (.iadd, 1) := by decide +kernel
theorem dX5_nextToken_334 : decode cX5_nextToken 334 = .ok (.putfield 181, 3) := by decide +kernel
theorem dX5_nextToken_337 : decode cX5_nextToken 337 = .ok (.return_, 1) := by decide +kernel
set_option maxRecDepth 20000 in
set_option maxHeartbeats 4000000 in
theorem l_X5_next1 {K : Cx} {L j0 : Nat} {w g : Nat → Int32} {m : TM} {Qv : Option Value → TM → Prop} (hg : g 6 = nI L) (hL2 : L ≤ 120) (hB : ∀ i, i < L → BB (w i) (m.1 54 i)) (kk : XX RX5 cX5_nextToken 1 none 2 42 K 46 [some (.ref 49)] [] (sr m 49 (upd g 8 (nI (skF w (L - j0) j0)))) (fun r1 m1 => Qv r1 m1)) : ∀ (fu : Nat) (j : Nat), L - j < fu → j ≤ L → skF w (L - j) j = skF w (L - j0) j0 → XX RX5 cX5_nextToken 1 none 2 42 K 8 [some (.ref 49)] [] (sr m 49 (upd g 8 (nI j))) (fun r1 m1 => Qv r1 m1) := by
  intro fu
  induction fu with
  | zero => intro j hlt; exact absurd hlt (Nat.not_lt_zero _)
  | succ fu ih =>
    intro j hlt hj hs
    have e1 : upd g 8 (nI j) 6 = nI L := by rw [upd_ne (by decide)]; exact hg
    have e3 : upd g 8 (nI j) 8 = nI j := upd_self
    have e54 : ∀ q, (sr m 49 (upd g 8 (nI j))).1 54 q = m.1 54 q := fun q => by rw [sr_ne (by decide)]
    refine x_aload_n (q := 9) dX5_nextToken_8 rfl rfl ?_
    refine x_getIr (q := 12) dX5_nextToken_9 rfl fl_X5_184 (ob5_begun) ?_
    rw [e3]
    refine x_aload_n (q := 13) dX5_nextToken_12 rfl rfl ?_
    refine x_getIr (q := 16) dX5_nextToken_13 rfl fl_X5_177 (ob5_taped) ?_
    rw [e1]
    refine x_icmp_ge (q := 19) (t := 46) dX5_nextToken_16 rfl (by decide) (fun h16 => ?_) (fun h16 => ?_)
    · have e : L - j = 0 := by
        have := lp_stop rfl (by omega) (by omega) h16
        omega
      rw [e] at hs
      replace hs : j = _ := hs
      rw [hs]
      exact kk
    have hjL : j < L := lp_go rfl (by omega) (by omega) h16
    rw [show L - j = (L - (j + 1)) + 1 by omega] at hs
    simp only [skF] at hs
    refine x_aload_n (q := 20) dX5_nextToken_19 rfl rfl ?_
    refine x_getR (q := 23) dX5_nextToken_20 rfl fl_X5_22 (or5_tape) ?_
    refine x_aload_n (q := 24) dX5_nextToken_23 rfl rfl ?_
    refine x_getIr (q := 27) dX5_nextToken_24 rfl fl_X5_184 (ob5_begun) ?_
    rw [e3]
    refine x_iald (q := 28) dX5_nextToken_27 rfl (ar_54) (ix_nI (n := 120) (k := j) (by omega) (by decide)) (Nat.zero_add _) ?_
    rw [e54]
    refine x_bipush (q := 30) (v := 32) dX5_nextToken_28 rfl (by decide) ?_
    refine x_icmp_ne (q := 33) (t := 46) dX5_nextToken_30 rfl (by decide) (fun h30 => ?_) (fun h30 => ?_)
    · rw [if_neg (fun q => h30 ((hB j hjL).all.2.2.2.1.mpr q))] at hs
      replace hs : j = _ := hs
      rw [hs]
      exact kk
    refine x_aload_n (q := 34) dX5_nextToken_33 rfl rfl ?_
    refine x_dup (q := 35) dX5_nextToken_34 rfl rfl ?_
    refine x_getIr (q := 38) dX5_nextToken_35 rfl fl_X5_184 (ob5_begun) ?_
    rw [e3]
    refine x_iconst (q := 39) (v := 1) dX5_nextToken_38 rfl (by decide) ?_
    refine x_iadd (q := 40) dX5_nextToken_39 rfl ?_
    rw [nI_a1]
    refine x_putIr (q := 43) dX5_nextToken_40 rfl fl_X5_184 (ob5_begun) rfl rfl rfl  ?_
    refine x_goto (q := 8) dX5_nextToken_43 (by decide) ?_
    rw [if_pos ((hB j hjL).all.2.2.2.1.mp h30)] at hs
    rw [upd_upd]
    exact ih (j + 1) (by omega) (by omega) hs
set_option maxRecDepth 20000 in
set_option maxHeartbeats 4000000 in
theorem l_X5_next2 {K : Cx} {L j : Nat} {w g : Nat → Int32} {z3 : Int32} {m : TM} (hg3 : g 3 = z3) (hg6 : g 6 = nI L) (hg8 : g 8 = nI j) (hL2 : L ≤ 120) (hB : ∀ i, i < L → BB (w i) (m.1 54 i)) (hg7 : g 7 = 1) (hsj : soF L w j = 1) : ∀ (fu : Nat) (e v : Nat), L - e < fu → e ≤ L → v < 27000000000000000 → rnF L w 1 (L - e) e = enF L w j → cvF L w (L - e) e v = wvF L w j → XX RX5 cX5_nextToken 1 none 2 42 K 98 [some (.ref 49)] [] (sr (st2 m (lI v)) 49 (upd g 9 (nI e))) (fun r1 m1 => r1 = none ∧ ∃ g1 v1, RS z3 L w j g1 v1 ∧ m1 = sr (st2 m v1) 49 g1) := by
  intro fu
  induction fu with
  | zero => intro e v hlt; exact absurd hlt (Nat.not_lt_zero _)
  | succ fu ih =>
    intro e v hlt he hv9 hr hv
    have e6 : upd g 9 (nI e) 6 = nI L := by rw [upd_ne (by decide)]; exact hg6
    have e8 : upd g 9 (nI e) 8 = nI j := by rw [upd_ne (by decide)]; exact hg8
    have e9 : upd g 9 (nI e) 9 = nI e := upd_self
    refine x_aload_n (q := 99) dX5_nextToken_98 rfl rfl ?_
    refine x_getIr (q := 102) dX5_nextToken_99 rfl fl_X5_181 (ob5_ended) ?_
    rw [e9]
    refine x_aload_n (q := 103) dX5_nextToken_102 rfl rfl ?_
    refine x_getIr (q := 106) dX5_nextToken_103 rfl fl_X5_177 (ob5_taped) ?_
    rw [e6]
    refine x_icmp_ge (q := 109) (t := 337) dX5_nextToken_106 rfl (by decide) (fun h106 => ?_) (fun h106 => ?_)
    · refine x_return dX5_nextToken_337 rfl ?_
      have e0 : L - e = 0 := by
        have := lp_stop rfl (by omega) (by omega) h106
        omega
      rw [e0] at hr hv
      exact ⟨rfl, _, _, ⟨e6, by rw [upd_ne (by decide), hg7]; unfold tkF; rw [if_neg (fun q => absurd (hsj.symm.trans q.1) (by decide))]; exact hsj.symm, e8, by rw [e9]; exact congrArg nI hr, fun _ => congrArg lI hv, fun q => absurd (hsj.symm.trans q) (by decide), by (repeat rw [upd_ne (by decide)]); exact hg3⟩, rfl⟩
    have heL : e < L := lp_go rfl (by omega) (by omega) h106
    refine x_aload_n (q := 110) dX5_nextToken_109 rfl rfl ?_
    refine x_getR (q := 113) dX5_nextToken_110 rfl fl_X5_22 (or5_tape) ?_
    refine x_aload_n (q := 114) dX5_nextToken_113 rfl rfl ?_
    refine x_getIr (q := 117) dX5_nextToken_114 rfl fl_X5_181 (ob5_ended) ?_
    rw [e9]
    refine x_iald (q := 118) dX5_nextToken_117 rfl (ar_54) (ix_nI (n := 120) (k := e) (by omega) (by decide)) (Nat.zero_add _) ?_
    rw [nm54]
    refine x_callS1v (q := 121) dX5_nextToken_118 rfl ml_X5_194 ms_X5_isLetter c_X5_isLetter (Nat.le_of_ble_eq_true rfl) ⟨by decide, by decide⟩ ?_
    refine x_ifB_eq (q := 124) (t := 337) dX5_nextToken_121 rfl (by decide) (fun h121 => ?_) (fun h121 => ?_)
    · replace h121 := in_f h121
      refine x_return dX5_nextToken_337 rfl ?_
      have hs1 : ¬ soF L w e = 1 := by rw [soF_in heL, ← (hB e heL).all.1, h121]; decide
      rw [show L - e = (L - (e + 1)) + 1 by omega] at hr hv
      unfold rnF at hr
      unfold cvF at hv
      rw [if_neg hs1] at hr hv
      exact ⟨rfl, _, _, ⟨e6, by rw [upd_ne (by decide), hg7]; unfold tkF; rw [if_neg (fun q => absurd (hsj.symm.trans q.1) (by decide))]; exact hsj.symm, e8, by rw [e9]; exact congrArg nI hr, fun _ => congrArg lI hv, fun q => absurd (hsj.symm.trans q) (by decide), by (repeat rw [upd_ne (by decide)]); exact hg3⟩, rfl⟩
    replace h121 := in_t h121
    have hb1 : sob (w e) = 1 := (hB e heL).all.1.mp h121
    have hs1 : soF L w e = 1 := by rw [soF_in heL]; exact hb1
    refine x_aload_n (q := 125) dX5_nextToken_124 rfl rfl ?_
    refine x_aload_n (q := 126) dX5_nextToken_125 rfl rfl ?_
    refine x_getL (q := 129) dX5_nextToken_126 rfl fl_X5_187 ?_
    rw [nm2]
    refine x_ldc2 (q := 132) dX5_nextToken_129 rfl kl_X5_197 ?_
    refine x_lcmp (q := 133) dX5_nextToken_132 rfl ?_
    refine x_if_le (q := 136) (t := 143) dX5_nextToken_133 rfl (by decide) (fun h133 => ?_) (fun h133 => ?_)
    · refine x_aload_n (q := 144) dX5_nextToken_143 rfl rfl ?_
      refine x_getL (q := 147) dX5_nextToken_144 rfl fl_X5_187 ?_
      rw [nm2]
      refine x_ldc2 (q := 150) dX5_nextToken_147 rfl kl_X5_199 ?_
      refine x_lmul (q := 151) dX5_nextToken_150 rfl ?_
      refine x_aload_n (q := 152) dX5_nextToken_151 rfl rfl ?_
      refine x_getR (q := 155) dX5_nextToken_152 rfl fl_X5_22 (or5_tape) ?_
      refine x_aload_n (q := 156) dX5_nextToken_155 rfl rfl ?_
      refine x_getIr (q := 159) dX5_nextToken_156 rfl fl_X5_181 (ob5_ended) ?_
      rw [e9]
      refine x_iald (q := 160) dX5_nextToken_159 rfl (ar_54) (ix_nI (n := 120) (k := e) (by omega) (by decide)) (Nat.zero_add _) ?_
      rw [nm54, (hB e heL).all.2.2.2.2.1 hb1]
      refine x_i2l (q := 161) dX5_nextToken_160 rfl ?_
      refine x_ladd (q := 162) dX5_nextToken_161 rfl ?_
      refine x_ldc2 (q := 165) dX5_nextToken_162 rfl kl_X5_201 ?_
      refine x_lsub (q := 166) dX5_nextToken_165 rfl ?_
      rw [cn_eq hb1 ((lg_le (a := v) (b := 999999999999999) (by omega) (by decide)).mp h133)]
      refine x_putL (q := 169) dX5_nextToken_166 rfl fl_X5_187 rfl ?_
      rw [nm3]
      refine x_aload_n (q := 170) dX5_nextToken_169 rfl rfl ?_
      refine x_dup (q := 171) dX5_nextToken_170 rfl rfl ?_
      refine x_getIr (q := 174) dX5_nextToken_171 rfl fl_X5_181 (ob5_ended) ?_
      rw [e9]
      refine x_iconst (q := 175) (v := 1) dX5_nextToken_174 rfl (by decide) ?_
      refine x_iadd (q := 176) dX5_nextToken_175 rfl ?_
      rw [nI_a1]
      refine x_putIr (q := 179) dX5_nextToken_176 rfl fl_X5_181 (ob5_ended) rfl rfl rfl  ?_
      rw [upd_upd]
      refine x_goto (q := 98) dX5_nextToken_179 (by decide) ?_
      have hr2 : rnF L w 1 (L - (e + 1)) (e + 1) = enF L w j := by
        rw [show L - e = (L - (e + 1)) + 1 by omega] at hr
        unfold rnF at hr
        rw [if_pos hs1] at hr
        exact hr
      have hv2 : cvF L w (L - (e + 1)) (e + 1) (cnF v (w e)) = wvF L w j := by
        rw [show L - e = (L - (e + 1)) + 1 by omega] at hv
        unfold cvF at hv
        rw [if_pos hs1] at hv
        exact hv
      exact ih (e + 1) _ (by omega) (by omega) (cnF_le hv9 hb1) hr2 hv2
    refine x_aload_n (q := 137) dX5_nextToken_136 rfl rfl ?_
    refine x_getL (q := 140) dX5_nextToken_137 rfl fl_X5_187 ?_
    rw [nm2]
    refine x_goto (q := 166) dX5_nextToken_140 (by decide) ?_
    rw [show lI v = lI (cnF v (w e)) by unfold cnF; rw [if_neg (fun q => h133 ((lg_le (a := v) (b := 999999999999999) (by omega) (by decide)).mpr q))]]
    refine x_putL (q := 169) dX5_nextToken_166 rfl fl_X5_187 rfl ?_
    rw [nm3]
    refine x_aload_n (q := 170) dX5_nextToken_169 rfl rfl ?_
    refine x_dup (q := 171) dX5_nextToken_170 rfl rfl ?_
    refine x_getIr (q := 174) dX5_nextToken_171 rfl fl_X5_181 (ob5_ended) ?_
    rw [e9]
    refine x_iconst (q := 175) (v := 1) dX5_nextToken_174 rfl (by decide) ?_
    refine x_iadd (q := 176) dX5_nextToken_175 rfl ?_
    rw [nI_a1]
    refine x_putIr (q := 179) dX5_nextToken_176 rfl fl_X5_181 (ob5_ended) rfl rfl rfl  ?_
    rw [upd_upd]
    refine x_goto (q := 98) dX5_nextToken_179 (by decide) ?_
    have hr2 : rnF L w 1 (L - (e + 1)) (e + 1) = enF L w j := by
      rw [show L - e = (L - (e + 1)) + 1 by omega] at hr
      unfold rnF at hr
      rw [if_pos hs1] at hr
      exact hr
    have hv2 : cvF L w (L - (e + 1)) (e + 1) (cnF v (w e)) = wvF L w j := by
      rw [show L - e = (L - (e + 1)) + 1 by omega] at hv
      unfold cvF at hv
      rw [if_pos hs1] at hv
      exact hv
    exact ih (e + 1) _ (by omega) (by omega) (cnF_le hv9 hb1) hr2 hv2
set_option maxRecDepth 20000 in
set_option maxHeartbeats 4000000 in
theorem l_X5_next4 {K : Cx} {L j : Nat} {w g : Nat → Int32} {z3 : Int32} {m : TM} (hg3 : g 3 = z3) (hg6 : g 6 = nI L) (hg8 : g 8 = nI j) (hL2 : L ≤ 120) (hB : ∀ i, i < L → BB (w i) (m.1 54 i)) (hsj : soF L w j = 2) : ∀ (fu : Nat) (e v : Nat), L - e < fu → e ≤ L → v ≤ 9999 → rnF L w 2 (L - e) e = enF L w j → vlF L w (L - e) e v = nvF L w j → XX RX5 cX5_nextToken 1 none 2 42 K 197 [some (.ref 49)] [] (sr (st2 m (lI v)) 49 (upd g 9 (nI e))) (fun r1 m1 => r1 = none ∧ ∃ g1 v1, RS z3 L w j g1 v1 ∧ m1 = sr (st2 m v1) 49 g1) := by
  intro fu
  induction fu with
  | zero => intro e v hlt; exact absurd hlt (Nat.not_lt_zero _)
  | succ fu ih =>
    intro e v hlt he hv9 hr hv
    have e6 : upd g 9 (nI e) 6 = nI L := by rw [upd_ne (by decide)]; exact hg6
    have e8 : upd g 9 (nI e) 8 = nI j := by rw [upd_ne (by decide)]; exact hg8
    have e9 : upd g 9 (nI e) 9 = nI e := upd_self
    refine x_aload_n (q := 198) dX5_nextToken_197 rfl rfl ?_
    refine x_getIr (q := 201) dX5_nextToken_198 rfl fl_X5_181 (ob5_ended) ?_
    rw [e9]
    refine x_aload_n (q := 202) dX5_nextToken_201 rfl rfl ?_
    refine x_getIr (q := 205) dX5_nextToken_202 rfl fl_X5_177 (ob5_taped) ?_
    rw [e6]
    refine x_icmp_ge (q := 208) (t := 281) dX5_nextToken_205 rfl (by decide) (fun h205 => ?_) (fun h205 => ?_)
    · refine x_aload_n (q := 282) dX5_nextToken_281 rfl rfl ?_
      refine x_aload_n (q := 283) dX5_nextToken_282 rfl rfl ?_
      refine x_getL (q := 286) dX5_nextToken_283 rfl fl_X5_187 ?_
      rw [nm2]
      refine x_ldc2 (q := 289) dX5_nextToken_286 rfl kl_X5_206 ?_
      refine x_lcmp (q := 290) dX5_nextToken_289 rfl ?_
      refine x_if_le (q := 293) (t := 297) dX5_nextToken_290 rfl (by decide) (fun h290 => ?_) (fun h290 => ?_)
      · refine x_iconst (q := 298) (v := 2) dX5_nextToken_297 rfl (by decide) ?_
        refine x_putIr (q := 301) dX5_nextToken_298 rfl fl_X5_191 (ob5_token) rfl rfl rfl  ?_
        refine x_goto (q := 337) dX5_nextToken_301 (by decide) ?_
        refine x_return dX5_nextToken_337 rfl ?_
        have e0 : L - e = 0 := by
          have := lp_stop rfl (by omega) (by omega) h205
          omega
        rw [e0] at hr hv
        replace hv : v = nvF L w j := hv
        replace hr : e = enF L w j := hr
        exact ⟨rfl, _, _, ⟨by rw [upd_ne (by decide)]; exact e6, by rw [upd_self]; unfold tkF; rw [if_neg (fun q => absurd ((lg_le (a := v) (b := 999) (by omega) (by decide)).mp h290) (by rw [hv]; omega))]; exact hsj.symm, by rw [upd_ne (by decide)]; exact e8, by rw [upd_ne (by decide), e9]; exact congrArg nI hr, fun q => absurd (hsj.symm.trans q) (by decide), fun _ => congrArg lI hv, by (repeat rw [upd_ne (by decide)]); exact hg3⟩, rfl⟩
      refine x_iconst (q := 294) (v := 4) dX5_nextToken_293 rfl (by decide) ?_
      refine x_goto (q := 298) dX5_nextToken_294 (by decide) ?_
      refine x_putIr (q := 301) dX5_nextToken_298 rfl fl_X5_191 (ob5_token) rfl rfl rfl  ?_
      refine x_goto (q := 337) dX5_nextToken_301 (by decide) ?_
      refine x_return dX5_nextToken_337 rfl ?_
      have e0 : L - e = 0 := by
        have := lp_stop rfl (by omega) (by omega) h205
        omega
      rw [e0] at hr hv
      replace hv : v = nvF L w j := hv
      replace hr : e = enF L w j := hr
      exact ⟨rfl, _, _, ⟨by rw [upd_ne (by decide)]; exact e6, by rw [upd_self]; unfold tkF; rw [if_pos ⟨hsj, by rw [← hv]; exact Nat.lt_of_not_le (fun q => h290 ((lg_le (a := v) (b := 999) (by omega) (by decide)).mpr q))⟩], by rw [upd_ne (by decide)]; exact e8, by rw [upd_ne (by decide), e9]; exact congrArg nI hr, fun q => absurd (hsj.symm.trans q) (by decide), fun _ => congrArg lI hv, by (repeat rw [upd_ne (by decide)]); exact hg3⟩, rfl⟩
    have heL : e < L := lp_go rfl (by omega) (by omega) h205
    refine x_aload_n (q := 209) dX5_nextToken_208 rfl rfl ?_
    refine x_getR (q := 212) dX5_nextToken_209 rfl fl_X5_22 (or5_tape) ?_
    refine x_aload_n (q := 213) dX5_nextToken_212 rfl rfl ?_
    refine x_getIr (q := 216) dX5_nextToken_213 rfl fl_X5_181 (ob5_ended) ?_
    rw [e9]
    refine x_iald (q := 217) dX5_nextToken_216 rfl (ar_54) (ix_nI (n := 120) (k := e) (by omega) (by decide)) (Nat.zero_add _) ?_
    rw [nm54]
    refine x_callS1v (q := 220) dX5_nextToken_217 rfl ml_X5_203 ms_X5_isDigit c_X5_isDigit (Nat.le_of_ble_eq_true rfl) ⟨by decide, by decide⟩ ?_
    refine x_ifB_eq (q := 223) (t := 281) dX5_nextToken_220 rfl (by decide) (fun h220 => ?_) (fun h220 => ?_)
    · replace h220 := in_f h220
      refine x_aload_n (q := 282) dX5_nextToken_281 rfl rfl ?_
      refine x_aload_n (q := 283) dX5_nextToken_282 rfl rfl ?_
      refine x_getL (q := 286) dX5_nextToken_283 rfl fl_X5_187 ?_
      rw [nm2]
      refine x_ldc2 (q := 289) dX5_nextToken_286 rfl kl_X5_206 ?_
      refine x_lcmp (q := 290) dX5_nextToken_289 rfl ?_
      refine x_if_le (q := 293) (t := 297) dX5_nextToken_290 rfl (by decide) (fun h290 => ?_) (fun h290 => ?_)
      · refine x_iconst (q := 298) (v := 2) dX5_nextToken_297 rfl (by decide) ?_
        refine x_putIr (q := 301) dX5_nextToken_298 rfl fl_X5_191 (ob5_token) rfl rfl rfl  ?_
        refine x_goto (q := 337) dX5_nextToken_301 (by decide) ?_
        refine x_return dX5_nextToken_337 rfl ?_
        have hs1 : ¬ soF L w e = 2 := by rw [soF_in heL, ← (hB e heL).all.2.1, h220]; decide
        rw [show L - e = (L - (e + 1)) + 1 by omega] at hr hv
        unfold rnF at hr
        unfold vlF at hv
        rw [if_neg hs1] at hr hv
        replace hv : v = nvF L w j := hv
        replace hr : e = enF L w j := hr
        exact ⟨rfl, _, _, ⟨by rw [upd_ne (by decide)]; exact e6, by rw [upd_self]; unfold tkF; rw [if_neg (fun q => absurd ((lg_le (a := v) (b := 999) (by omega) (by decide)).mp h290) (by rw [hv]; omega))]; exact hsj.symm, by rw [upd_ne (by decide)]; exact e8, by rw [upd_ne (by decide), e9]; exact congrArg nI hr, fun q => absurd (hsj.symm.trans q) (by decide), fun _ => congrArg lI hv, by (repeat rw [upd_ne (by decide)]); exact hg3⟩, rfl⟩
      refine x_iconst (q := 294) (v := 4) dX5_nextToken_293 rfl (by decide) ?_
      refine x_goto (q := 298) dX5_nextToken_294 (by decide) ?_
      refine x_putIr (q := 301) dX5_nextToken_298 rfl fl_X5_191 (ob5_token) rfl rfl rfl  ?_
      refine x_goto (q := 337) dX5_nextToken_301 (by decide) ?_
      refine x_return dX5_nextToken_337 rfl ?_
      have hs1 : ¬ soF L w e = 2 := by rw [soF_in heL, ← (hB e heL).all.2.1, h220]; decide
      rw [show L - e = (L - (e + 1)) + 1 by omega] at hr hv
      unfold rnF at hr
      unfold vlF at hv
      rw [if_neg hs1] at hr hv
      replace hv : v = nvF L w j := hv
      replace hr : e = enF L w j := hr
      exact ⟨rfl, _, _, ⟨by rw [upd_ne (by decide)]; exact e6, by rw [upd_self]; unfold tkF; rw [if_pos ⟨hsj, by rw [← hv]; exact Nat.lt_of_not_le (fun q => h290 ((lg_le (a := v) (b := 999) (by omega) (by decide)).mpr q))⟩], by rw [upd_ne (by decide)]; exact e8, by rw [upd_ne (by decide), e9]; exact congrArg nI hr, fun q => absurd (hsj.symm.trans q) (by decide), fun _ => congrArg lI hv, by (repeat rw [upd_ne (by decide)]); exact hg3⟩, rfl⟩
    replace h220 := in_t h220
    have hb1 : sob (w e) = 2 := (hB e heL).all.2.1.mp h220
    have hs1 : soF L w e = 2 := by rw [soF_in heL]; exact hb1
    refine x_aload_n (q := 224) dX5_nextToken_223 rfl rfl ?_
    refine x_aload_n (q := 225) dX5_nextToken_224 rfl rfl ?_
    refine x_getL (q := 228) dX5_nextToken_225 rfl fl_X5_187 ?_
    rw [nm2]
    refine x_ldc2 (q := 231) dX5_nextToken_228 rfl kl_X5_206 ?_
    refine x_lcmp (q := 232) dX5_nextToken_231 rfl ?_
    refine x_if_le (q := 235) (t := 242) dX5_nextToken_232 rfl (by decide) (fun h232 => ?_) (fun h232 => ?_)
    · refine x_aload_n (q := 243) dX5_nextToken_242 rfl rfl ?_
      refine x_getL (q := 246) dX5_nextToken_243 rfl fl_X5_187 ?_
      rw [nm2]
      refine x_ldc2 (q := 249) dX5_nextToken_246 rfl kl_X5_208 ?_
      refine x_lmul (q := 250) dX5_nextToken_249 rfl ?_
      refine x_aload_n (q := 251) dX5_nextToken_250 rfl rfl ?_
      refine x_getR (q := 254) dX5_nextToken_251 rfl fl_X5_22 (or5_tape) ?_
      refine x_aload_n (q := 255) dX5_nextToken_254 rfl rfl ?_
      refine x_getIr (q := 258) dX5_nextToken_255 rfl fl_X5_181 (ob5_ended) ?_
      rw [e9]
      refine x_iald (q := 259) dX5_nextToken_258 rfl (ar_54) (ix_nI (n := 120) (k := e) (by omega) (by decide)) (Nat.zero_add _) ?_
      rw [nm54, (hB e heL).all.2.2.2.2.2 hb1]
      refine x_i2l (q := 260) dX5_nextToken_259 rfl ?_
      refine x_ladd (q := 261) dX5_nextToken_260 rfl ?_
      refine x_ldc2 (q := 264) dX5_nextToken_261 rfl kl_X5_210 ?_
      refine x_lsub (q := 265) dX5_nextToken_264 rfl ?_
      rw [dn_eq hb1 ((lg_le (a := v) (b := 999) (by omega) (by decide)).mp h232)]
      refine x_putL (q := 268) dX5_nextToken_265 rfl fl_X5_187 rfl ?_
      rw [nm3]
      refine x_aload_n (q := 269) dX5_nextToken_268 rfl rfl ?_
      refine x_dup (q := 270) dX5_nextToken_269 rfl rfl ?_
      refine x_getIr (q := 273) dX5_nextToken_270 rfl fl_X5_181 (ob5_ended) ?_
      rw [e9]
      refine x_iconst (q := 274) (v := 1) dX5_nextToken_273 rfl (by decide) ?_
      refine x_iadd (q := 275) dX5_nextToken_274 rfl ?_
      rw [nI_a1]
      refine x_putIr (q := 278) dX5_nextToken_275 rfl fl_X5_181 (ob5_ended) rfl rfl rfl  ?_
      rw [upd_upd]
      refine x_goto (q := 197) dX5_nextToken_278 (by decide) ?_
      have hr2 : rnF L w 2 (L - (e + 1)) (e + 1) = enF L w j := by
        rw [show L - e = (L - (e + 1)) + 1 by omega] at hr
        unfold rnF at hr
        rw [if_pos hs1] at hr
        exact hr
      have hv2 : vlF L w (L - (e + 1)) (e + 1) (vnF v (w e)) = nvF L w j := by
        rw [show L - e = (L - (e + 1)) + 1 by omega] at hv
        unfold vlF at hv
        rw [if_pos hs1] at hv
        exact hv
      exact ih (e + 1) _ (by omega) (by omega) (vnF_le hv9 hb1) hr2 hv2
    refine x_aload_n (q := 236) dX5_nextToken_235 rfl rfl ?_
    refine x_getL (q := 239) dX5_nextToken_236 rfl fl_X5_187 ?_
    rw [nm2]
    refine x_goto (q := 265) dX5_nextToken_239 (by decide) ?_
    rw [show lI v = lI (vnF v (w e)) by unfold vnF; rw [if_neg (fun q => h232 ((lg_le (a := v) (b := 999) (by omega) (by decide)).mpr q))]]
    refine x_putL (q := 268) dX5_nextToken_265 rfl fl_X5_187 rfl ?_
    rw [nm3]
    refine x_aload_n (q := 269) dX5_nextToken_268 rfl rfl ?_
    refine x_dup (q := 270) dX5_nextToken_269 rfl rfl ?_
    refine x_getIr (q := 273) dX5_nextToken_270 rfl fl_X5_181 (ob5_ended) ?_
    rw [e9]
    refine x_iconst (q := 274) (v := 1) dX5_nextToken_273 rfl (by decide) ?_
    refine x_iadd (q := 275) dX5_nextToken_274 rfl ?_
    rw [nI_a1]
    refine x_putIr (q := 278) dX5_nextToken_275 rfl fl_X5_181 (ob5_ended) rfl rfl rfl  ?_
    rw [upd_upd]
    refine x_goto (q := 197) dX5_nextToken_278 (by decide) ?_
    have hr2 : rnF L w 2 (L - (e + 1)) (e + 1) = enF L w j := by
      rw [show L - e = (L - (e + 1)) + 1 by omega] at hr
      unfold rnF at hr
      rw [if_pos hs1] at hr
      exact hr
    have hv2 : vlF L w (L - (e + 1)) (e + 1) (vnF v (w e)) = nvF L w j := by
      rw [show L - e = (L - (e + 1)) + 1 by omega] at hv
      unfold vlF at hv
      rw [if_pos hs1] at hv
      exact hv
    exact ih (e + 1) _ (by omega) (by omega) (vnF_le hv9 hb1) hr2 hv2
set_option maxRecDepth 20000 in
set_option maxHeartbeats 4000000 in
theorem l_X5_next3 {K : Cx} {L j : Nat} {w g : Nat → Int32} {z3 : Int32} {m : TM} (hg3 : g 3 = z3) (hg : g 6 = nI L) (hL2 : L ≤ 120) (hB : ∀ i, i < L → BB (w i) (m.1 54 i)) (hj : j ≤ L) : XX RX5 cX5_nextToken 1 none 2 42 K 46 [some (.ref 49)] [] (sr m 49 (upd g 8 (nI j))) (fun r1 m1 => r1 = none ∧ ∃ g1 v1, RS z3 L w j g1 v1 ∧ m1 = sr (st2 m v1) 49 g1) := by
  have b6 : (upd (upd g 8 (nI j)) 9 (nI j)) 6 = nI L := by rw [upd_ne (by decide), upd_ne (by decide)]; exact hg
  have b8 : (upd (upd g 8 (nI j)) 9 (nI j)) 8 = nI j := by rw [upd_ne (by decide)]; exact upd_self
  have b9 : (upd (upd g 8 (nI j)) 9 (nI j)) 9 = nI j := upd_self
  refine x_aload_n (q := 47) dX5_nextToken_46 rfl rfl ?_
  refine x_aload_n (q := 48) dX5_nextToken_47 rfl rfl ?_
  refine x_getIr (q := 51) dX5_nextToken_48 rfl fl_X5_184 (ob5_begun) ?_
  rw [upd_self]
  refine x_putIr (q := 54) dX5_nextToken_51 rfl fl_X5_181 (ob5_ended) rfl rfl rfl  ?_
  refine x_aload_n (q := 55) dX5_nextToken_54 rfl rfl ?_
  refine x_lconst (q := 56) (v := 0) dX5_nextToken_55 rfl (by decide) ?_
  refine x_putL (q := 59) dX5_nextToken_56 rfl fl_X5_187 rfl ?_
  rw [nm1]
  refine x_aload_n (q := 60) dX5_nextToken_59 rfl rfl ?_
  refine x_getIr (q := 63) dX5_nextToken_60 rfl fl_X5_184 (ob5_begun) ?_
  rw [b8]
  refine x_aload_n (q := 64) dX5_nextToken_63 rfl rfl ?_
  refine x_getIr (q := 67) dX5_nextToken_64 rfl fl_X5_177 (ob5_taped) ?_
  rw [b6]
  refine x_icmp_ne (q := 70) (t := 78) dX5_nextToken_67 rfl (by decide) (fun h67 => ?_) (fun h67 => ?_)
  · have hjL : j < L := by
      have h9 : ¬ j = L := fun q => h67 (congrArg nI q)
      omega
    refine x_aload_n (q := 79) dX5_nextToken_78 rfl rfl ?_
    refine x_getR (q := 82) dX5_nextToken_79 rfl fl_X5_22 (or5_tape) ?_
    refine x_aload_n (q := 83) dX5_nextToken_82 rfl rfl ?_
    refine x_getIr (q := 86) dX5_nextToken_83 rfl fl_X5_184 (ob5_begun) ?_
    rw [b8]
    refine x_iald (q := 87) dX5_nextToken_86 rfl (ar_54) (ix_nI (n := 120) (k := j) (by omega) (by decide)) (Nat.zero_add _) ?_
    rw [nm54]
    refine x_callS1v (q := 90) dX5_nextToken_87 rfl ml_X5_194 ms_X5_isLetter c_X5_isLetter (Nat.le_of_ble_eq_true rfl) ⟨by decide, by decide⟩ ?_
    refine x_ifB_eq (q := 93) (t := 182) dX5_nextToken_90 rfl (by decide) (fun h90 => ?_) (fun h90 => ?_)
    · replace h90 := in_f h90
      have hs1 : ¬ soF L w j = 1 := by rw [soF_in hjL, ← (hB j hjL).all.1, h90]; decide
      refine x_aload_n (q := 183) dX5_nextToken_182 rfl rfl ?_
      refine x_getR (q := 186) dX5_nextToken_183 rfl fl_X5_22 (or5_tape) ?_
      refine x_aload_n (q := 187) dX5_nextToken_186 rfl rfl ?_
      refine x_getIr (q := 190) dX5_nextToken_187 rfl fl_X5_184 (ob5_begun) ?_
      rw [b8]
      refine x_iald (q := 191) dX5_nextToken_190 rfl (ar_54) (ix_nI (n := 120) (k := j) (by omega) (by decide)) (Nat.zero_add _) ?_
      rw [nm54]
      refine x_callS1v (q := 194) dX5_nextToken_191 rfl ml_X5_203 ms_X5_isDigit c_X5_isDigit (Nat.le_of_ble_eq_true rfl) ⟨by decide, by decide⟩ ?_
      refine x_ifB_eq (q := 197) (t := 304) dX5_nextToken_194 rfl (by decide) (fun h194 => ?_) (fun h194 => ?_)
      · replace h194 := in_f h194
        have hs2 : ¬ soF L w j = 2 := by rw [soF_in hjL, ← (hB j hjL).all.2.1, h194]; decide
        refine x_aload_n (q := 305) dX5_nextToken_304 rfl rfl ?_
        refine x_aload_n (q := 306) dX5_nextToken_305 rfl rfl ?_
        refine x_getR (q := 309) dX5_nextToken_306 rfl fl_X5_22 (or5_tape) ?_
        refine x_aload_n (q := 310) dX5_nextToken_309 rfl rfl ?_
        refine x_getIr (q := 313) dX5_nextToken_310 rfl fl_X5_184 (ob5_begun) ?_
        rw [b8]
        refine x_iald (q := 314) dX5_nextToken_313 rfl (ar_54) (ix_nI (n := 120) (k := j) (by omega) (by decide)) (Nat.zero_add _) ?_
        rw [nm54]
        refine x_bipush (q := 316) (v := 59) dX5_nextToken_314 rfl (by decide) ?_
        refine x_icmp_ne (q := 319) (t := 323) dX5_nextToken_316 rfl (by decide) (fun h316 => ?_) (fun h316 => ?_)
        · refine x_iconst (q := 324) (v := 4) dX5_nextToken_323 rfl (by decide) ?_
          refine x_putIr (q := 327) dX5_nextToken_324 rfl fl_X5_191 (ob5_token) rfl rfl rfl  ?_
          refine x_aload_n (q := 328) dX5_nextToken_327 rfl rfl ?_
          refine x_dup (q := 329) dX5_nextToken_328 rfl rfl ?_
          refine x_getIr (q := 332) dX5_nextToken_329 rfl fl_X5_181 (ob5_ended) ?_
          rw [upd_ne (by decide), b9]
          refine x_iconst (q := 333) (v := 1) dX5_nextToken_332 rfl (by decide) ?_
          refine x_iadd (q := 334) dX5_nextToken_333 rfl ?_
          rw [nI_a1]
          refine x_putIr (q := 337) dX5_nextToken_334 rfl fl_X5_181 (ob5_ended) rfl rfl rfl  ?_
          refine x_return dX5_nextToken_337 rfl ?_
          have hs3 : soF L w j = 4 := by
            rw [soF_in hjL]
            rcases sob_5 (w j) with q | q | q | q
            · exact absurd ((soF_in hjL).trans q) hs1
            · exact absurd ((soF_in hjL).trans q) hs2
            · exact absurd ((hB j hjL).all.2.2.1.mpr q) h316
            · exact q
          exact ⟨rfl, _, _, ⟨by rw [upd_ne (by decide), upd_ne (by decide)]; exact b6, by rw [upd_ne (by decide), upd_self]; unfold tkF; rw [if_neg (fun q => hs2 q.1)]; exact hs3.symm, by rw [upd_ne (by decide), upd_ne (by decide)]; exact b8, by rw [upd_self]; unfold enF; rw [if_neg (fun q => q.elim hs1 hs2), if_neg (fun z => absurd (hs3.symm.trans z) (by decide))], fun q => absurd q hs1, fun q => absurd q hs2, by (repeat rw [upd_ne (by decide)]); exact hg3⟩, rfl⟩
        refine x_iconst (q := 320) (v := 3) dX5_nextToken_319 rfl (by decide) ?_
        refine x_goto (q := 324) dX5_nextToken_320 (by decide) ?_
        refine x_putIr (q := 327) dX5_nextToken_324 rfl fl_X5_191 (ob5_token) rfl rfl rfl  ?_
        refine x_aload_n (q := 328) dX5_nextToken_327 rfl rfl ?_
        refine x_dup (q := 329) dX5_nextToken_328 rfl rfl ?_
        refine x_getIr (q := 332) dX5_nextToken_329 rfl fl_X5_181 (ob5_ended) ?_
        rw [upd_ne (by decide), b9]
        refine x_iconst (q := 333) (v := 1) dX5_nextToken_332 rfl (by decide) ?_
        refine x_iadd (q := 334) dX5_nextToken_333 rfl ?_
        rw [nI_a1]
        refine x_putIr (q := 337) dX5_nextToken_334 rfl fl_X5_181 (ob5_ended) rfl rfl rfl  ?_
        refine x_return dX5_nextToken_337 rfl ?_
        have hs3 : soF L w j = 3 := by rw [soF_in hjL]; exact (hB j hjL).all.2.2.1.mp h316
        exact ⟨rfl, _, _, ⟨by rw [upd_ne (by decide), upd_ne (by decide)]; exact b6, by rw [upd_ne (by decide), upd_self]; unfold tkF; rw [if_neg (fun q => hs2 q.1)]; exact hs3.symm, by rw [upd_ne (by decide), upd_ne (by decide)]; exact b8, by rw [upd_self]; unfold enF; rw [if_neg (fun q => q.elim hs1 hs2), if_neg (fun z => absurd (hs3.symm.trans z) (by decide))], fun q => absurd q hs1, fun q => absurd q hs2, by (repeat rw [upd_ne (by decide)]); exact hg3⟩, rfl⟩
      replace h194 := in_t h194
      have hs2 : soF L w j = 2 := by rw [soF_in hjL]; exact (hB j hjL).all.2.1.mp h194
      have b7 : (upd (upd g 8 (nI j)) 9 (nI j)) = upd (upd (upd g 8 (nI j)) 9 (nI j)) 9 (nI j) := (upd_id b9).symm
      rw [b7]
      exact l_X5_next4 (by (repeat rw [upd_ne (by decide)]); exact hg3) b6 b8 hL2 hB hs2 (L + 1) j 0 (by omega) hj (by decide) (by unfold enF; rw [if_pos (Or.inr hs2), hs2]) rfl
    replace h90 := in_t h90
    have hs1 : soF L w j = 1 := by rw [soF_in hjL]; exact (hB j hjL).all.1.mp h90
    refine x_aload_n (q := 94) dX5_nextToken_93 rfl rfl ?_
    refine x_iconst (q := 95) (v := 1) dX5_nextToken_94 rfl (by decide) ?_
    refine x_putIr (q := 98) dX5_nextToken_95 rfl fl_X5_191 (ob5_token) rfl rfl rfl  ?_
    have b7 : upd (upd (upd g 8 (nI j)) 9 (nI j)) 7 1 = upd (upd (upd (upd g 8 (nI j)) 9 (nI j)) 7 1) 9 (nI j) := (upd_id (by rw [upd_ne (by decide)]; exact b9)).symm
    rw [b7]
    exact l_X5_next2 (by (repeat rw [upd_ne (by decide)]); exact hg3) (by rw [upd_ne (by decide)]; exact b6) (by rw [upd_ne (by decide)]; exact b8) hL2 hB upd_self hs1 (L + 1) j 0 (by omega) hj (by decide) (by unfold enF; rw [if_pos (Or.inl hs1), hs1]) rfl
  refine x_aload_n (q := 71) dX5_nextToken_70 rfl rfl ?_
  refine x_iconst (q := 72) (v := 0) dX5_nextToken_71 rfl (by decide) ?_
  refine x_putIr (q := 75) dX5_nextToken_72 rfl fl_X5_191 (ob5_token) rfl rfl rfl  ?_
  refine x_goto (q := 337) dX5_nextToken_75 (by decide) ?_
  refine x_return dX5_nextToken_337 rfl ?_
  have ejL : j = L := (jnI_inj (by omega) (by omega)).mp h67
  have hs0 : soF L w j = 0 := soF_0 (by omega)
  exact ⟨rfl, _, _, ⟨by rw [upd_ne (by decide)]; exact b6, by rw [upd_self]; unfold tkF; rw [if_neg (fun q => absurd (hs0.symm.trans q.1) (by decide))]; exact hs0.symm, by rw [upd_ne (by decide)]; exact b8, by rw [upd_ne (by decide), b9]; unfold enF; rw [if_neg (fun q => q.elim (fun z => absurd (hs0.symm.trans z) (by decide)) (fun z => absurd (hs0.symm.trans z) (by decide))), if_pos hs0], fun q => absurd (hs0.symm.trans q) (by decide), fun q => absurd (hs0.symm.trans q) (by decide), by (repeat rw [upd_ne (by decide)]); exact hg3⟩, rfl⟩
set_option maxRecDepth 20000 in
set_option maxHeartbeats 4000000 in
theorem c_X5_nextToken {K : Cx} {L e : Nat} {w : Nat → Int32} {m : TM} (hL : m.1 49 6 = nI L) (hL2 : L ≤ 120) (he : m.1 49 9 = nI e) (heL : e ≤ L) (hB : ∀ i, i < L → BB (w i) (m.1 54 i)) : CQ yX5_nextToken cX5_nextToken 1 none 2 42 K [.ref 49] (m) (fun r1 m1 => r1 = none ∧ ∃ g1 v1, RS (m.1 49 3) L w (nxE L w e) g1 v1 ∧ m1 = sr (st2 m v1) 49 g1) := by
  refine ct_ofq (n := 0) (by decide +kernel) rfl rfl ?_
  show XX RX5 cX5_nextToken 1 none 2 42 K 0 [some (.ref 49)] [] (m) (fun r1 m1 => r1 = none ∧ ∃ g1 v1, RS (m.1 49 3) L w (nxE L w e) g1 v1 ∧ m1 = sr (st2 m v1) 49 g1)
  refine x_aload_n (q := 1) dX5_nextToken_0 rfl rfl ?_
  refine x_aload_n (q := 2) dX5_nextToken_1 rfl rfl ?_
  refine x_getI (q := 5) dX5_nextToken_2 rfl fl_X5_181 (ob5_ended) ?_
  rw [he]
  refine x_putI (q := 8) dX5_nextToken_5 rfl fl_X5_184 (ob5_begun) rfl rfl rfl rfl ?_
  rw [st1_eq]
  exact l_X5_next1 (K := K) (L := L) (j0 := e) (g := m.1 49) (m := m) (Qv := fun r1 m1 => r1 = none ∧ ∃ g1 v1, RS (m.1 49 3) L w (nxE L w e) g1 v1 ∧ m1 = sr (st2 m v1) 49 g1) hL hL2 hB (l_X5_next3 (z3 := m.1 49 3) rfl hL hL2 hB (nxE_le heL).2) (L + 1) e (by omega) heL rfl
