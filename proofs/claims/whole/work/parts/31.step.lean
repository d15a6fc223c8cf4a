/-! a step to the next token -/
def skF (w : Nat → Int32) : Nat → Nat → Nat
  | 0, j => j
  | f + 1, j => if w j = 32 then skF w f (j + 1) else j
def rnF (L : Nat) (w : Nat → Int32) (s : Int32) : Nat → Nat → Nat
  | 0, e => e
  | f + 1, e => if soF L w e = s then rnF L w s f (e + 1) else e
def dgF (b : Int32) : Nat := cl b - 48
def vnF (v : Nat) (b : Int32) : Nat := if v ≤ 999 then v * 10 + dgF b else v
def vlF (L : Nat) (w : Nat → Int32) : Nat → Nat → Nat → Nat
  | 0, _, v => v
  | f + 1, e, v => if soF L w e = 2 then vlF L w f (e + 1) (vnF v (w e)) else v
def enF (L : Nat) (w : Nat → Int32) (j : Nat) : Nat := if soF L w j = 1 ∨ soF L w j = 2 then rnF L w (soF L w j) (L - j) j else if soF L w j = 0 then j else j + 1
def nvF (L : Nat) (w : Nat → Int32) (j : Nat) : Nat := vlF L w (L - j) j 0
/-- the tape stands at a token -/
def TS (L : Nat) (w : Nat → Int32) (j : Nat) (g : Nat → Int32) : Prop := g 1 = nI L ∧ g 2 = soF L w j ∧ g 3 = nI j ∧ g 4 = nI (enF L w j) ∧ (soF L w j = 2 → g 5 = nI (nvF L w j))
theorem upd_upd {g : Nat → Int32} {k : Nat} {a b : Int32} : upd (upd g k a) k b = upd g k b := by
  funext q
  unfold upd
  split <;> rfl
theorem upd_id {g : Nat → Int32} {k : Nat} {a : Int32} (h : g k = a) : upd g k a = g := by
  funext q
  unfold upd
  split
  · rename_i e; rw [e, h]
  · rfl
theorem upd_545 {g : Nat → Int32} {a b c : Int32} : upd (upd (upd g 4 a) 5 b) 4 c = upd (upd g 4 c) 5 b := by
  funext q
  unfold upd
  by_cases h4 : q = 4
  · rw [if_pos h4, if_neg (by omega), if_pos h4]
  · rw [if_neg h4]
    by_cases h5 : q = 5
    · rw [if_pos h5, if_pos h5]
    · rw [if_neg h5, if_neg h5, if_neg h4, if_neg h4]
theorem i_range {b : Int32} {lo hi : Nat} (hh : hi < 2147483648) (hlo : lo ≤ hi) (h1 : ¬ b < nI lo) (h2 : ¬ nI hi < b) : lo ≤ cl b ∧ cl b ≤ hi ∧ b = nI (cl b) := by
  have h0 : ¬ b < 0 := by
    intro q
    apply h1
    rw [Int32.lt_iff_toInt_lt] at q ⊢
    rw [jnI_toInt (by omega)]
    have : (0 : Int32).toInt = 0 := rfl
    omega
  have e : b = nI (cl b) := jnI_of h0
  have hb : cl b < 2147483648 := by
    show b.toInt.toNat < _
    have := Int32.toInt_lt b
    omega
  rw [e] at h1 h2
  have h3 : ¬ cl b < lo := fun q => h1 ((jnI_lt hb (by omega)).mpr q)
  have h4 : ¬ hi < cl b := fun q => h2 ((jnI_lt hh hb).mpr q)
  exact ⟨by omega, by omega, e⟩
theorem sob_dig {b : Int32} (h : sob b = 2) : 48 ≤ cl b ∧ cl b ≤ 57 ∧ b = nI (cl b) := by
  unfold sob at h
  by_cases c1 : b < 97 ∨ 122 < b
  · rw [if_pos c1] at h
    by_cases c2 : b < 48 ∨ 57 < b
    · rw [if_pos c2] at h
      by_cases c3 : b = 59
      · rw [if_pos c3] at h; exact absurd h (by decide)
      · rw [if_neg c3] at h; exact absurd h (by decide)
    · exact i_range (lo := 48) (hi := 57) (by decide) (by decide) (fun q => c2 (Or.inl q)) (fun q => c2 (Or.inr q))
  · rw [if_neg c1] at h; exact absurd h (by decide)
theorem sob_let {b : Int32} (h : sob b = 1) : 97 ≤ cl b ∧ cl b ≤ 122 ∧ b = nI (cl b) := by
  unfold sob at h
  by_cases c1 : b < 97 ∨ 122 < b
  · rw [if_pos c1] at h
    by_cases c2 : b < 48 ∨ 57 < b
    · rw [if_pos c2] at h
      by_cases c3 : b = 59
      · rw [if_pos c3] at h; exact absurd h (by decide)
      · rw [if_neg c3] at h; exact absurd h (by decide)
    · rw [if_neg c2] at h; exact absurd h (by decide)
  · exact i_range (lo := 97) (hi := 122) (by decide) (by decide) (fun q => c1 (Or.inl q)) (fun q => c1 (Or.inr q))
theorem sob_5 (b : Int32) : sob b = 1 ∨ sob b = 2 ∨ sob b = 3 ∨ sob b = 4 := by
  unfold sob
  split
  · split
    · split
      · exact Or.inr (Or.inr (Or.inl rfl))
      · exact Or.inr (Or.inr (Or.inr rfl))
    · exact Or.inr (Or.inl rfl)
  · exact Or.inl rfl
theorem soF_lt {L e : Nat} {w : Nat → Int32} (h : ¬ soF L w e = 0) : e < L := by
  unfold soF at h
  by_cases q : e < L
  · exact q
  · rw [if_neg q] at h; exact absurd rfl h
theorem soF_in {L e : Nat} {w : Nat → Int32} (h : e < L) : soF L w e = sob (w e) := if_pos h
theorem soF_0 {L e : Nat} {w : Nat → Int32} (h : L ≤ e) : soF L w e = 0 := if_neg (by omega)
theorem soF_n0 {L e : Nat} {w : Nat → Int32} (h : e < L) : ¬ soF L w e = 0 := by
  rw [soF_in h]
  rcases sob_5 (w e) with q | q | q | q <;> rw [q] <;> decide
theorem rnF_le {L : Nat} {w : Nat → Int32} {s : Int32} : ∀ f e, e ≤ rnF L w s f e ∧ rnF L w s f e ≤ e + f
  | 0, e => ⟨Nat.le_refl _, Nat.le_refl _⟩
  | f + 1, e => by
    have h := rnF_le (L := L) (w := w) (s := s) f (e + 1)
    unfold rnF
    split
    · exact ⟨by omega, by omega⟩
    · exact ⟨by omega, by omega⟩
theorem enF_le {L j : Nat} {w : Nat → Int32} (h : j ≤ L) : j ≤ enF L w j ∧ enF L w j ≤ L := by
  unfold enF
  split
  · have := rnF_le (L := L) (w := w) (s := soF L w j) (L - j) j
    omega
  · split
    · omega
    · rename_i h0
      have := soF_lt h0
      omega
theorem enF_gt {L j : Nat} {w : Nat → Int32} (h : ¬ soF L w j = 0) : j < enF L w j := by
  have hj := soF_lt h
  unfold enF
  split
  · rw [show L - j = (L - (j + 1)) + 1 by omega]
    unfold rnF
    rw [if_pos rfl]
    have := rnF_le (L := L) (w := w) (s := soF L w j) (L - (j + 1)) (j + 1)
    omega
  · omega
theorem skF_le {w : Nat → Int32} : ∀ f j, j ≤ skF w f j ∧ skF w f j ≤ j + f
  | 0, j => ⟨Nat.le_refl _, Nat.le_refl _⟩
  | f + 1, j => by
    have h := skF_le (w := w) f (j + 1)
    unfold skF
    split
    · exact ⟨by omega, by omega⟩
    · exact ⟨by omega, by omega⟩
/-- where the next token begins -/
def nxE (L : Nat) (w : Nat → Int32) (e : Nat) : Nat := skF w (L - e) e
def nxF (L : Nat) (w : Nat → Int32) (j : Nat) : Nat := nxE L w (enF L w j)
theorem nxE_le {L e : Nat} {w : Nat → Int32} (h : e ≤ L) : e ≤ nxE L w e ∧ nxE L w e ≤ L := by
  have := skF_le (w := w) (L - e) e
  unfold nxE
  omega
theorem nxF_le {L j : Nat} {w : Nat → Int32} (h : j ≤ L) : j ≤ nxF L w j ∧ nxF L w j ≤ L := by
  have h1 := enF_le (w := w) h
  have h2 := nxE_le (w := w) h1.2
  unfold nxF
  omega
theorem nxF_gt {L j : Nat} {w : Nat → Int32} (h : ¬ soF L w j = 0) : j < nxF L w j := by
  have hj := soF_lt h
  have h1 := enF_le (L := L) (j := j) (w := w) (by omega)
  have h2 := nxE_le (w := w) h1.2
  have h3 := enF_gt h
  unfold nxF
  omega
theorem vnF_le {v : Nat} {b : Int32} (hv : v ≤ 9999) (h : sob b = 2) : vnF v b ≤ 9999 := by
  have h1 := sob_dig h
  unfold vnF dgF
  split <;> omega
theorem vlF_le {L : Nat} {w : Nat → Int32} : ∀ f e v, v ≤ 9999 → vlF L w f e v ≤ 9999
  | 0, _, v, h => h
  | f + 1, e, v, h => by
    unfold vlF
    split
    · rename_i q
      have hl := soF_lt (L := L) (w := w) (e := e) (by rw [q]; decide)
      rw [soF_in hl] at q
      exact vlF_le f (e + 1) _ (vnF_le h q)
    · exact h
theorem nvF_le {L j : Nat} {w : Nat → Int32} : nvF L w j ≤ 9999 := vlF_le _ _ _ (by decide)
theorem vn_eq {v : Nat} {b : Int32} (h : sob b = 2) (hv : ¬ (999 : Int32) < nI v) (hv2 : v ≤ 9999) : nI v * 10 + (b - 48) = nI (vnF v b) := by
  obtain ⟨c, h1, h2, rfl⟩ : ∃ c, 48 ≤ c ∧ c ≤ 57 ∧ b = nI c := ⟨cl b, sob_dig h⟩
  have e1 : v ≤ 999 := by
    have h9 : ¬ 999 < v := fun q => hv ((jnI_lt (a := 999) (b := v) (by decide) (by omega)).mpr q)
    omega
  unfold vnF dgF
  have ec : cl (nI c) = c := jnI_clamp (by omega)
  rw [if_pos e1, ec]
  have e3 : nI (c - 48 + 48) = nI (c - 48) + nI 48 := Int32.ofNat_add _ _
  rw [Nat.sub_add_cancel h1] at e3
  have e2 : nI c - 48 = nI (c - 48) := by
    rw [e3]
    exact Int32.add_sub_cancel ..
  rw [e2]
  have e4 : nI v * 10 = nI (v * 10) := jnI_mul v 10
  rw [e4]
  exact (Int32.ofNat_add _ _).symm
theorem dX3_step_0 : decode cX3_step 0 = .ok (.aload_n 0, 1) := by decide +kernel
theorem dX3_step_1 : decode cX3_step 1 = .ok (.aload_n 0, 1) := by decide +kernel
theorem dX3_step_2 : decode cX3_step 2 = .ok (.getfield 25, 3) := by decide +kernel
theorem dX3_step_5 : decode cX3_step 5 = .ok (.putfield 22, 3) := by decide +kernel
theorem dX3_step_8 : decode cX3_step 8 = .ok (.aload_n 0, 1) := by decide +kernel
theorem dX3_step_9 : decode cX3_step 9 = .ok (.getfield 22, 3) := by decide +kernel
theorem dX3_step_12 : decode cX3_step 12 = .ok (.aload_n 0, 1) := by decide +kernel
theorem dX3_step_13 : decode cX3_step 13 = .ok (.getfield 15, 3) := by decide +kernel
theorem dX3_step_16 : decode cX3_step 16 = .ok (.if_icmp .ge 30, 3) := by decide +kernel
theorem dX3_step_19 : decode cX3_step 19 = .ok (.aload_n 0, 1) := by decide +kernel
theorem dX3_step_20 : decode cX3_step 20 = .ok (.getfield 9, 3) := by decide +kernel
theorem dX3_step_23 : decode cX3_step 23 = .ok (.aload_n 0, 1) := by decide +kernel
theorem dX3_step_24 : decode cX3_step 24 = .ok (.getfield 22, 3) := by decide +kernel
theorem dX3_step_27 : decode cX3_step 27 = .ok (.baload, 1) := by decide +kernel
theorem dX3_step_28 : decode cX3_step 28 = .ok (.bipush 32, 2) := by decide +kernel
theorem dX3_step_30 : decode cX3_step 30 = .ok (.if_icmp .ne 16, 3) := by decide +kernel
theorem dX3_step_33 : decode cX3_step 33 = .ok (.aload_n 0, 1) := by decide +kernel
theorem dX3_step_34 : decode cX3_step 34 = .ok (.dup, 1) := by decide +kernel
theorem dX3_step_35 : decode cX3_step 35 = .ok (.getfield 22, 3) := by decide +kernel
theorem dX3_step_38 : decode cX3_step 38 = .ok (.iconst 1, 1) := by decide +kernel
theorem dX3_step_39 : decode cX3_step 39 = .ok (.iadd, 1) := by decide +kernel
theorem dX3_step_40 : decode cX3_step 40 = .ok (.putfield 22, 3) := by decide +kernel
theorem dX3_step_43 : decode cX3_step 43 = .ok (.goto (-35), 3) := by decide +kernel
theorem dX3_step_46 : decode cX3_step 46 = .ok (.aload_n 0, 1) := by decide +kernel
theorem dX3_step_47 : decode cX3_step 47 = .ok (.aload_n 0, 1) := by decide +kernel
theorem dX3_step_48 : decode cX3_step 48 = .ok (.getfield 22, 3) := by decide +kernel
theorem dX3_step_51 : decode cX3_step 51 = .ok (.putfield 25, 3) := by decide +kernel
theorem dX3_step_54 : decode cX3_step 54 = .ok (.aload_n 0, 1) := by decide +kernel
theorem dX3_step_55 : decode cX3_step 55 = .ok (.aload_n 0, 1) := by decide +kernel
theorem dX3_step_56 : decode cX3_step 56 = .ok (.aload_n 0, 1) := by decide +kernel
theorem dX3_step_57 : decode cX3_step 57 = .ok (.getfield 22, 3) := by decide +kernel
theorem dX3_step_60 : decode cX3_step 60 = .ok (.invokevirtual 126, 3) := by decide +kernel
theorem dX3_step_63 : decode cX3_step 63 = .ok (.putfield 19, 3) := by decide +kernel
theorem dX3_step_66 : decode cX3_step 66 = .ok (.aload_n 0, 1) := by decide +kernel
theorem dX3_step_67 : decode cX3_step 67 = .ok (.getfield 19, 3) := by decide +kernel
theorem dX3_step_70 : decode cX3_step 70 = .ok (.iconst 1, 1) := by decide +kernel
theorem dX3_step_71 : decode cX3_step 71 = .ok (.if_icmp .eq 11, 3) := by decide +kernel
theorem dX3_step_74 : decode cX3_step 74 = .ok (.aload_n 0, 1) := by decide +kernel
theorem dX3_step_75 : decode cX3_step 75 = .ok (.getfield 19, 3) := by decide +kernel
theorem dX3_step_78 : decode cX3_step 78 = .ok (.iconst 2, 1) := by decide +kernel
theorem dX3_step_79 : decode cX3_step 79 = .ok (.if_icmp .ne 89, 3) := by decide +kernel
theorem dX3_step_82 : decode cX3_step 82 = .ok (.aload_n 0, 1) := by decide +kernel
theorem dX3_step_83 : decode cX3_step 83 = .ok (.iconst 0, 1) := by decide +kernel
theorem dX3_step_84 : decode cX3_step 84 = .ok (.putfield 28, 3) := by decide +kernel
theorem dX3_step_87 : decode cX3_step 87 = .ok (.aload_n 0, 1) := by decide +kernel
theorem dX3_step_88 : decode cX3_step 88 = .ok (.getfield 25, 3) := by decide +kernel
theorem dX3_step_91 : decode cX3_step 91 = .ok (.aload_n 0, 1) := by decide +kernel
theorem dX3_step_92 : decode cX3_step 92 = .ok (.getfield 15, 3) := by decide +kernel
theorem dX3_step_95 : decode cX3_step 95 = .ok (.if_icmp .ge 90, 3) := by decide +kernel
theorem dX3_step_98 : decode cX3_step 98 = .ok (.aload_n 0, 1) := by decide +kernel
theorem dX3_step_99 : decode cX3_step 99 = .ok (.aload_n 0, 1) := by decide +kernel
theorem dX3_step_100 : decode cX3_step 100 = .ok (.getfield 25, 3) := by decide +kernel
theorem dX3_step_103 : decode cX3_step 103 = .ok (.invokevirtual 126, 3) := by decide +kernel
theorem dX3_step_106 : decode cX3_step 106 = .ok (.aload_n 0, 1) := by decide +kernel
theorem dX3_step_107 : decode cX3_step 107 = .ok (.getfield 19, 3) := by decide +kernel
theorem dX3_step_110 : decode cX3_step 110 = .ok (.if_icmp .ne 75, 3) := by decide +kernel
theorem dX3_step_113 : decode cX3_step 113 = .ok (.aload_n 0, 1) := by decide +kernel
theorem dX3_step_114 : decode cX3_step 114 = .ok (.getfield 19, 3) := by decide +kernel
theorem dX3_step_117 : decode cX3_step 117 = .ok (.iconst 2, 1) := by decide +kernel
theorem dX3_step_118 : decode cX3_step 118 = .ok (.if_icmp .ne 37, 3) := by decide +kernel
theorem dX3_step_121 : decode cX3_step 121 = .ok (.aload_n 0, 1) := by decide +kernel
theorem dX3_step_122 : decode cX3_step 122 = .ok (.getfield 28, 3) := by decide +kernel
theorem dX3_step_125 : decode cX3_step 125 = .ok (.sipush 999, 3) := by decide +kernel
theorem dX3_step_128 : decode cX3_step 128 = .ok (.if_icmp .gt 27, 3) := by decide +kernel
theorem dX3_step_131 : decode cX3_step 131 = .ok (.aload_n 0, 1) := by decide +kernel
theorem dX3_step_132 : decode cX3_step 132 = .ok (.aload_n 0, 1) := by decide +kernel
theorem dX3_step_133 : decode cX3_step 133 = .ok (.getfield 28, 3) := by decide +kernel
theorem dX3_step_136 : decode cX3_step 136 = .ok (.bipush 10, 2) := by decide +kernel
theorem dX3_step_138 : decode cX3_step 138 = .ok (.imul, 1) := by decide +kernel
theorem dX3_step_139 : decode cX3_step 139 = .ok (.aload_n 0, 1) := by decide +kernel
theorem dX3_step_140 : decode cX3_step 140 = .ok (.getfield 9, 3) := by decide +kernel
theorem dX3_step_143 : decode cX3_step 143 = .ok (.aload_n 0, 1) := by decide +kernel
theorem dX3_step_144 : decode cX3_step 144 = .ok (.getfield 25, 3) := by decide +kernel
theorem dX3_step_147 : decode cX3_step 147 = .ok (.baload, 1) := by decide +kernel
theorem dX3_step_148 : decode cX3_step 148 = .ok (.bipush 48, 2) := by decide +kernel
theorem dX3_step_150 : decode cX3_step 150 = .ok (.isub, 1) := by decide +kernel
theorem dX3_step_151 : decode cX3_step 151 = .ok (.iadd, 1) := by decide +kernel
theorem dX3_step_152 : decode cX3_step 152 = .ok (.putfield 28, 3) := by decide +kernel
theorem dX3_step_155 : decode cX3_step 155 = .ok (.aload_n 0, 1) := by decide +kernel
theorem dX3_step_156 : decode cX3_step 156 = .ok (.dup, 1) := by decide +kernel
theorem dX3_step_157 : decode cX3_step 157 = .ok (.getfield 25, 3) := by decide +kernel
theorem dX3_step_160 : decode cX3_step 160 = .ok (.iconst 1, 1) := by decide +kernel
theorem dX3_step_161 : decode cX3_step 161 = .ok (.iadd, 1) := by decide +kernel
theorem dX3_step_162 : decode cX3_step 162 = .ok (.putfield 25, 3) := by decide +kernel
theorem dX3_step_165 : decode cX3_step 165 = .ok (.goto (-78), 3) := by decide +kernel
theorem dX3_step_168 : decode cX3_step 168 = .ok (.aload_n 0, 1) := by decide +kernel
theorem dX3_step_169 : decode cX3_step 169 = .ok (.getfield 19, 3) := by decide +kernel
theorem dX3_step_172 : decode cX3_step 172 = .ok (.ifCond .eq 13, 3) := by decide +kernel
theorem dX3_step_175 : decode cX3_step 175 = .ok (.aload_n 0, 1) := by decide +kernel
theorem dX3_step_176 : decode cX3_step 176 = .ok (.dup, 1) := by decide +kernel
theorem dX3_step_177 : decode cX3_step 177 = .ok (.getfield 25, 3) := by decide +kernel
theorem dX3_step_180 : decode cX3_step 180 = .ok (.iconst 1, 1) := by decide +kernel
theorem dX3_step_181 : decode cX3_step 181 = .ok (.iadd, 1) := by decide +kernel
theorem dX3_step_182 : decode cX3_step 182 = .ok (.putfield 25, 3) := by decide +kernel
theorem dX3_step_185 : decode cX3_step 185 = .ok (.return_, 1) := by decide +kernel
set_option maxRecDepth 20000 in
set_option maxHeartbeats 4000000 in
theorem l_X3_step1 {K : Cx} {L j0 : Nat} {g : Nat → Int32} {m : TM} {Qv : Option Value → TM → Prop} (hg : g 1 = nI L) (hL2 : L ≤ 120) (kk : XX RX3 cX3_step 1 none 1 22 K 46 [some (.ref 37)] [] (sr m 37 (upd g 3 (nI (skF (m.1 38) (L - j0) j0)))) (fun r1 m1 => Qv r1 m1)) : ∀ (fu : Nat) (j : Nat), L - j < fu → j ≤ L → skF (m.1 38) (L - j) j = skF (m.1 38) (L - j0) j0 → XX RX3 cX3_step 1 none 1 22 K 8 [some (.ref 37)] [] (sr m 37 (upd g 3 (nI j))) (fun r1 m1 => Qv r1 m1) := by
  intro fu
  induction fu with
  | zero => intro j hlt; exact absurd hlt (Nat.not_lt_zero _)
  | succ fu ih =>
    intro j hlt hj hs
    have e1 : upd g 3 (nI j) 1 = nI L := by rw [upd_ne (by decide)]; exact hg
    have e3 : upd g 3 (nI j) 3 = nI j := upd_self
    have e38 : ∀ q, (sr m 37 (upd g 3 (nI j))).1 38 q = m.1 38 q := fun q => by rw [sr_ne (by decide)]
    refine x_aload_n (q := 9) dX3_step_8 rfl rfl ?_
    refine x_getIr (q := 12) dX3_step_9 rfl fl_X3_22 (ob3_start) ?_
    rw [e3]
    refine x_aload_n (q := 13) dX3_step_12 rfl rfl ?_
    refine x_getIr (q := 16) dX3_step_13 rfl fl_X3_15 (ob3_length) ?_
    rw [e1]
    refine x_icmp_ge (q := 19) (t := 46) dX3_step_16 rfl (by decide) (fun h16 => ?_) (fun h16 => ?_)
    · have e : L - j = 0 := by
        have := lp_stop rfl (by omega) (by omega) h16
        omega
      rw [e] at hs
      replace hs : j = _ := hs
      rw [hs]
      exact kk
    have hjL : j < L := lp_go rfl (by omega) (by omega) h16
    rw [show L - j = (L - (j + 1)) + 1 by omega] at hs
    simp only [skF] at hs
    refine x_aload_n (q := 20) dX3_step_19 rfl rfl ?_
    refine x_getR (q := 23) dX3_step_20 rfl fl_X3_9 (or3_bytes) ?_
    refine x_aload_n (q := 24) dX3_step_23 rfl rfl ?_
    refine x_getIr (q := 27) dX3_step_24 rfl fl_X3_22 (ob3_start) ?_
    rw [e3]
    refine x_bald (q := 28) dX3_step_27 rfl (ar_38) (ix_nI (n := 120) (k := j) (by omega) (by decide)) (Nat.zero_add _) ?_
    rw [e38]
    refine x_bipush (q := 30) (v := 32) dX3_step_28 rfl (by decide) ?_
    refine x_icmp_ne (q := 33) (t := 46) dX3_step_30 rfl (by decide) (fun h30 => ?_) (fun h30 => ?_)
    · rw [if_neg h30] at hs
      replace hs : j = _ := hs
      rw [hs]
      exact kk
    refine x_aload_n (q := 34) dX3_step_33 rfl rfl ?_
    refine x_dup (q := 35) dX3_step_34 rfl rfl ?_
    refine x_getIr (q := 38) dX3_step_35 rfl fl_X3_22 (ob3_start) ?_
    rw [e3]
    refine x_iconst (q := 39) (v := 1) dX3_step_38 rfl (by decide) ?_
    refine x_iadd (q := 40) dX3_step_39 rfl ?_
    rw [nI_a1]
    refine x_putIr (q := 43) dX3_step_40 rfl fl_X3_22 (ob3_start) rfl rfl rfl  ?_
    refine x_goto (q := 8) dX3_step_43 (by decide) ?_
    rw [if_pos h30] at hs
    rw [upd_upd]
    exact ih (j + 1) (by omega) (by omega) hs
set_option maxRecDepth 20000 in
set_option maxHeartbeats 4000000 in
theorem l_X3_step2 {K : Cx} {L j : Nat} {s : Int32} {g : Nat → Int32} {m : TM} (hg1 : g 1 = nI L) (hg2 : g 2 = s) (hg3 : g 3 = nI j) (hL2 : L ≤ 120) (hs12 : s = 1 ∨ s = 2) (hsj : soF L (m.1 38) j = s) : ∀ (fu : Nat) (e v : Nat), L - e < fu → e ≤ L → v ≤ 9999 → rnF L (m.1 38) s (L - e) e = enF L (m.1 38) j → (s = 2 → vlF L (m.1 38) (L - e) e v = nvF L (m.1 38) j) → XX RX3 cX3_step 1 none 1 22 K 87 [some (.ref 37)] [] (sr m 37 (upd (upd g 4 (nI e)) 5 (nI v))) (fun r1 m1 => r1 = none ∧ ∃ g1, TS L (m.1 38) j g1 ∧ m1 = sr m 37 g1) := by
  intro fu
  induction fu with
  | zero => intro e v hlt; exact absurd hlt (Nat.not_lt_zero _)
  | succ fu ih =>
    intro e v hlt he hv9 hr hvl
    have e1 : upd (upd g 4 (nI e)) 5 (nI v) 1 = nI L := by rw [upd_ne (by decide), upd_ne (by decide)]; exact hg1
    have e2 : upd (upd g 4 (nI e)) 5 (nI v) 2 = s := by rw [upd_ne (by decide), upd_ne (by decide)]; exact hg2
    have e3 : upd (upd g 4 (nI e)) 5 (nI v) 3 = nI j := by rw [upd_ne (by decide), upd_ne (by decide)]; exact hg3
    have e4 : upd (upd g 4 (nI e)) 5 (nI v) 4 = nI e := by rw [upd_ne (by decide)]; exact upd_self
    have e5 : upd (upd g 4 (nI e)) 5 (nI v) 5 = nI v := upd_self
    have e38 : (sr m 37 (upd (upd g 4 (nI e)) 5 (nI v))).1 38 = m.1 38 := sr_ne (by decide)
    have hLm : (sr m 37 (upd (upd g 4 (nI e)) 5 (nI v))).1 37 1 = nI L := by rw [sr_at]; exact e1
    refine x_aload_n (q := 88) dX3_step_87 rfl rfl ?_
    refine x_getIr (q := 91) dX3_step_88 rfl fl_X3_25 (ob3_end) ?_
    rw [e4]
    refine x_aload_n (q := 92) dX3_step_91 rfl rfl ?_
    refine x_getIr (q := 95) dX3_step_92 rfl fl_X3_15 (ob3_length) ?_
    rw [e1]
    refine x_icmp_ge (q := 98) (t := 185) dX3_step_95 rfl (by decide) (fun h95 => ?_) (fun h95 => ?_)
    · refine x_return dX3_step_185 rfl ?_
      have e0 : L - e = 0 := by
        have := lp_stop rfl (by omega) (by omega) h95
        omega
      rw [e0] at hr hvl
      refine ⟨rfl, _, ⟨e1, e2.trans hsj.symm, e3, ?_, fun q => ?_⟩, rfl⟩
      · rw [e4]; exact congrArg nI hr
      · rw [e5]; exact congrArg nI (hvl (hsj.symm.trans q))
    have heL : e < L := lp_go rfl (by omega) (by omega) h95
    refine x_aload_n (q := 99) dX3_step_98 rfl rfl ?_
    refine x_aload_n (q := 100) dX3_step_99 rfl rfl ?_
    refine x_getIr (q := 103) dX3_step_100 rfl fl_X3_25 (ob3_end) ?_
    rw [e4]
    refine x_callV1v (q := 106) dX3_step_103 rfl ml_X3_126 mv_X3_sortAt rv3 rfl (c_X3_sortAt (L := L) (j := e) hLm hL2 (by omega)) (Nat.le_of_ble_eq_true rfl) ⟨by decide, by decide⟩ ?_
    rw [e38]
    refine x_aload_n (q := 107) dX3_step_106 rfl rfl ?_
    refine x_getIr (q := 110) dX3_step_107 rfl fl_X3_19 (ob3_sort) ?_
    rw [e2]
    refine x_icmp_ne (q := 113) (t := 185) dX3_step_110 rfl (by decide) (fun h110 => ?_) (fun h110 => ?_)
    · refine x_return dX3_step_185 rfl ?_
      rw [show L - e = (L - (e + 1)) + 1 by omega] at hr hvl
      simp only [rnF, vlF, if_neg h110] at hr
      have hvl2 : s = 2 → v = nvF L (m.1 38) j := fun q => by
        have h9 := hvl q
        unfold vlF at h9
        rw [if_neg (fun z => h110 (z.trans q.symm))] at h9
        exact h9
      refine ⟨rfl, _, ⟨e1, e2.trans hsj.symm, e3, ?_, fun q => ?_⟩, rfl⟩
      · rw [e4]; exact congrArg nI hr
      · rw [e5]; exact congrArg nI (hvl2 (hsj.symm.trans q))
    have hr2 : rnF L (m.1 38) s (L - (e + 1)) (e + 1) = enF L (m.1 38) j := by
      rw [show L - e = (L - (e + 1)) + 1 by omega] at hr
      unfold rnF at hr
      rw [if_pos h110] at hr
      exact hr
    have hv2 : s = 2 → vlF L (m.1 38) (L - (e + 1)) (e + 1) (vnF v (m.1 38 e)) = nvF L (m.1 38) j := fun q => by
      have h9 := hvl q
      rw [show L - e = (L - (e + 1)) + 1 by omega] at h9
      unfold vlF at h9
      rw [if_pos (h110.trans q)] at h9
      exact h9
    refine x_aload_n (q := 114) dX3_step_113 rfl rfl ?_
    refine x_getIr (q := 117) dX3_step_114 rfl fl_X3_19 (ob3_sort) ?_
    rw [e2]
    refine x_iconst (q := 118) (v := 2) dX3_step_117 rfl (by decide) ?_
    refine x_icmp_ne (q := 121) (t := 155) dX3_step_118 rfl (by decide) (fun h118 => ?_) (fun h118 => ?_)
    · refine x_aload_n (q := 156) dX3_step_155 rfl rfl ?_
      refine x_dup (q := 157) dX3_step_156 rfl rfl ?_
      refine x_getIr (q := 160) dX3_step_157 rfl fl_X3_25 (ob3_end) ?_
      rw [e4]
      refine x_iconst (q := 161) (v := 1) dX3_step_160 rfl (by decide) ?_
      refine x_iadd (q := 162) dX3_step_161 rfl ?_
      rw [nI_a1]
      refine x_putIr (q := 165) dX3_step_162 rfl fl_X3_25 (ob3_end) rfl rfl rfl  ?_
      refine x_goto (q := 87) dX3_step_165 (by decide) ?_
      rw [upd_545]
      exact ih (e + 1) v (by omega) (by omega) hv9 hr2 (fun q => absurd q h118)
    have hb2 : sob (m.1 38 e) = 2 := by rw [← soF_in heL, h110, h118]
    refine x_aload_n (q := 122) dX3_step_121 rfl rfl ?_
    refine x_getIr (q := 125) dX3_step_122 rfl fl_X3_28 (ob3_value) ?_
    rw [e5]
    refine x_sipush (q := 128) (v := 999) dX3_step_125 rfl (by decide) ?_
    refine x_icmp_gt (q := 131) (t := 155) dX3_step_128 rfl (by decide) (fun h128 => ?_) (fun h128 => ?_)
    · refine x_aload_n (q := 156) dX3_step_155 rfl rfl ?_
      refine x_dup (q := 157) dX3_step_156 rfl rfl ?_
      refine x_getIr (q := 160) dX3_step_157 rfl fl_X3_25 (ob3_end) ?_
      rw [e4]
      refine x_iconst (q := 161) (v := 1) dX3_step_160 rfl (by decide) ?_
      refine x_iadd (q := 162) dX3_step_161 rfl ?_
      rw [nI_a1]
      refine x_putIr (q := 165) dX3_step_162 rfl fl_X3_25 (ob3_end) rfl rfl rfl  ?_
      refine x_goto (q := 87) dX3_step_165 (by decide) ?_
      have ev : vnF v (m.1 38 e) = v := if_neg (fun q => absurd (Nat.lt_of_lt_of_le ((jnI_lt (a := 999) (b := v) (by decide) (by omega)).mp h128) q) (by omega))
      rw [upd_545]
      exact ih (e + 1) v (by omega) (by omega) hv9 hr2 (fun q => by have h9 := hv2 q; rw [ev] at h9; exact h9)
    refine x_aload_n (q := 132) dX3_step_131 rfl rfl ?_
    refine x_aload_n (q := 133) dX3_step_132 rfl rfl ?_
    refine x_getIr (q := 136) dX3_step_133 rfl fl_X3_28 (ob3_value) ?_
    rw [e5]
    refine x_bipush (q := 138) (v := 10) dX3_step_136 rfl (by decide) ?_
    refine x_imul (q := 139) dX3_step_138 rfl ?_
    refine x_aload_n (q := 140) dX3_step_139 rfl rfl ?_
    refine x_getR (q := 143) dX3_step_140 rfl fl_X3_9 (or3_bytes) ?_
    refine x_aload_n (q := 144) dX3_step_143 rfl rfl ?_
    refine x_getIr (q := 147) dX3_step_144 rfl fl_X3_25 (ob3_end) ?_
    rw [e4]
    refine x_bald (q := 148) dX3_step_147 rfl (ar_38) (ix_nI (n := 120) (k := e) (by omega) (by decide)) (Nat.zero_add _) ?_
    rw [e38]
    refine x_bipush (q := 150) (v := 48) dX3_step_148 rfl (by decide) ?_
    refine x_isub (q := 151) dX3_step_150 rfl ?_
    refine x_iadd (q := 152) dX3_step_151 rfl ?_
    rw [vn_eq hb2 h128 hv9]
    refine x_putIr (q := 155) dX3_step_152 rfl fl_X3_28 (ob3_value) rfl rfl rfl  ?_
    refine x_aload_n (q := 156) dX3_step_155 rfl rfl ?_
    refine x_dup (q := 157) dX3_step_156 rfl rfl ?_
    refine x_getIr (q := 160) dX3_step_157 rfl fl_X3_25 (ob3_end) ?_
    rw [upd_upd]
    have e4b : ∀ x, upd (upd g 4 (nI e)) 5 x 4 = nI e := fun x => by rw [upd_ne (by decide)]; exact upd_self
    rw [e4b]
    refine x_iconst (q := 161) (v := 1) dX3_step_160 rfl (by decide) ?_
    refine x_iadd (q := 162) dX3_step_161 rfl ?_
    rw [nI_a1]
    refine x_putIr (q := 165) dX3_step_162 rfl fl_X3_25 (ob3_end) rfl rfl rfl  ?_
    refine x_goto (q := 87) dX3_step_165 (by decide) ?_
    rw [upd_545]
    exact ih (e + 1) _ (by omega) (by omega) (vnF_le hv9 hb2) hr2 hv2
set_option maxRecDepth 20000 in
set_option maxHeartbeats 4000000 in
theorem l_X3_step3 {K : Cx} {L j : Nat} {g : Nat → Int32} {m : TM} (hg : g 1 = nI L) (hL2 : L ≤ 120) (hj : j ≤ L) : XX RX3 cX3_step 1 none 1 22 K 46 [some (.ref 37)] [] (sr m 37 (upd g 3 (nI j))) (fun r1 m1 => r1 = none ∧ ∃ g1, TS L (m.1 38) j g1 ∧ m1 = sr m 37 g1) := by
  have a3 : upd (upd g 3 (nI j)) 4 (nI j) 3 = nI j := by rw [upd_ne (by decide)]; exact upd_self
  have b1 : (upd (upd (upd g 3 (nI j)) 4 (nI j)) 2 (soF L (m.1 38) j)) 1 = nI L := by rw [upd_ne (by decide), upd_ne (by decide), upd_ne (by decide)]; exact hg
  have b2 : (upd (upd (upd g 3 (nI j)) 4 (nI j)) 2 (soF L (m.1 38) j)) 2 = soF L (m.1 38) j := upd_self
  have b3 : (upd (upd (upd g 3 (nI j)) 4 (nI j)) 2 (soF L (m.1 38) j)) 3 = nI j := by rw [upd_ne (by decide)]; exact a3
  have b4 : (upd (upd (upd g 3 (nI j)) 4 (nI j)) 2 (soF L (m.1 38) j)) 4 = nI j := by rw [upd_ne (by decide)]; exact upd_self
  refine x_aload_n (q := 47) dX3_step_46 rfl rfl ?_
  refine x_aload_n (q := 48) dX3_step_47 rfl rfl ?_
  refine x_getIr (q := 51) dX3_step_48 rfl fl_X3_22 (ob3_start) ?_
  rw [upd_self]
  refine x_putIr (q := 54) dX3_step_51 rfl fl_X3_25 (ob3_end) rfl rfl rfl  ?_
  refine x_aload_n (q := 55) dX3_step_54 rfl rfl ?_
  refine x_aload_n (q := 56) dX3_step_55 rfl rfl ?_
  refine x_aload_n (q := 57) dX3_step_56 rfl rfl ?_
  refine x_getIr (q := 60) dX3_step_57 rfl fl_X3_22 (ob3_start) ?_
  rw [a3]
  have hLm : (sr m 37 (upd (upd g 3 (nI j)) 4 (nI j))).1 37 1 = nI L := by rw [sr_at, upd_ne (by decide), upd_ne (by decide)]; exact hg
  have e38 : (sr m 37 (upd (upd g 3 (nI j)) 4 (nI j))).1 38 = m.1 38 := sr_ne (by decide)
  refine x_callV1v (q := 63) dX3_step_60 rfl ml_X3_126 mv_X3_sortAt rv3 rfl (c_X3_sortAt (L := L) (j := j) hLm hL2 (by omega)) (Nat.le_of_ble_eq_true rfl) ⟨by decide, by decide⟩ ?_
  rw [e38]
  refine x_putIr (q := 66) dX3_step_63 rfl fl_X3_19 (ob3_sort) rfl rfl rfl  ?_
  refine x_aload_n (q := 67) dX3_step_66 rfl rfl ?_
  refine x_getIr (q := 70) dX3_step_67 rfl fl_X3_19 (ob3_sort) ?_
  rw [b2]
  refine x_iconst (q := 71) (v := 1) dX3_step_70 rfl (by decide) ?_
  refine x_icmp_eq (q := 74) (t := 82) dX3_step_71 rfl (by decide) (fun h71 => ?_) (fun h71 => ?_)
  · 
    refine x_aload_n (q := 83) dX3_step_82 rfl rfl ?_
    refine x_iconst (q := 84) (v := 0) dX3_step_83 rfl (by decide) ?_
    refine x_putIr (q := 87) dX3_step_84 rfl fl_X3_28 (ob3_value) rfl rfl rfl  ?_
    have hs2 : soF L (m.1 38) j = 1 ∨ soF L (m.1 38) j = 2 := Or.inl h71
    have b6 : upd (upd (upd g 3 (nI j)) 4 (nI j)) 2 (soF L (m.1 38) j) = upd (upd (upd (upd g 3 (nI j)) 4 (nI j)) 2 (soF L (m.1 38) j)) 4 (nI j) := (upd_id b4).symm
    rw [b6]
    have h := l_X3_step2 (K := K) (g := upd (upd (upd g 3 (nI j)) 4 (nI j)) 2 (soF L (m.1 38) j)) (L := L) (j := j) (s := soF L (m.1 38) j) (m := m) b1 b2 b3 hL2 hs2 rfl (L + 1) j 0 (by omega) hj (by decide) (by unfold enF; rw [if_pos hs2]) (fun _ => rfl)
    exact h
  refine x_aload_n (q := 75) dX3_step_74 rfl rfl ?_
  refine x_getIr (q := 78) dX3_step_75 rfl fl_X3_19 (ob3_sort) ?_
  rw [b2]
  refine x_iconst (q := 79) (v := 2) dX3_step_78 rfl (by decide) ?_
  refine x_icmp_ne (q := 82) (t := 168) dX3_step_79 rfl (by decide) (fun h79 => ?_) (fun h79 => ?_)
  · refine x_aload_n (q := 169) dX3_step_168 rfl rfl ?_
    refine x_getIr (q := 172) dX3_step_169 rfl fl_X3_19 (ob3_sort) ?_
    rw [b2]
    refine x_if_eq (q := 175) (t := 185) dX3_step_172 rfl (by decide) (fun h172 => ?_) (fun h172 => ?_)
    · refine x_return dX3_step_185 rfl ?_
      have en : enF L (m.1 38) j = j := by unfold enF; rw [if_neg (fun q => q.elim h71 h79), if_pos h172]
      exact ⟨rfl, _, ⟨b1, b2, b3, by rw [en]; exact b4, fun q => absurd q h79⟩, rfl⟩
    refine x_aload_n (q := 176) dX3_step_175 rfl rfl ?_
    refine x_dup (q := 177) dX3_step_176 rfl rfl ?_
    refine x_getIr (q := 180) dX3_step_177 rfl fl_X3_25 (ob3_end) ?_
    rw [b4]
    refine x_iconst (q := 181) (v := 1) dX3_step_180 rfl (by decide) ?_
    refine x_iadd (q := 182) dX3_step_181 rfl ?_
    rw [nI_a1]
    refine x_putIr (q := 185) dX3_step_182 rfl fl_X3_25 (ob3_end) rfl rfl rfl  ?_
    refine x_return dX3_step_185 rfl ?_
    have en : enF L (m.1 38) j = j + 1 := by unfold enF; rw [if_neg (fun q => q.elim h71 h79), if_neg h172]
    exact ⟨rfl, _, ⟨by rw [upd_ne (by decide)]; exact b1, by rw [upd_ne (by decide)]; exact b2, by rw [upd_ne (by decide)]; exact b3, by rw [en]; exact upd_self, fun q => absurd q h79⟩, rfl⟩
  
  refine x_aload_n (q := 83) dX3_step_82 rfl rfl ?_
  refine x_iconst (q := 84) (v := 0) dX3_step_83 rfl (by decide) ?_
  refine x_putIr (q := 87) dX3_step_84 rfl fl_X3_28 (ob3_value) rfl rfl rfl  ?_
  have hs2 : soF L (m.1 38) j = 1 ∨ soF L (m.1 38) j = 2 := Or.inr h79
  have b6 : upd (upd (upd g 3 (nI j)) 4 (nI j)) 2 (soF L (m.1 38) j) = upd (upd (upd (upd g 3 (nI j)) 4 (nI j)) 2 (soF L (m.1 38) j)) 4 (nI j) := (upd_id b4).symm
  rw [b6]
  have h := l_X3_step2 (K := K) (g := upd (upd (upd g 3 (nI j)) 4 (nI j)) 2 (soF L (m.1 38) j)) (L := L) (j := j) (s := soF L (m.1 38) j) (m := m) b1 b2 b3 hL2 hs2 rfl (L + 1) j 0 (by omega) hj (by decide) (by unfold enF; rw [if_pos hs2]) (fun _ => rfl)
  exact h
set_option maxRecDepth 20000 in
set_option maxHeartbeats 4000000 in
theorem c_X3_step {K : Cx} {L e : Nat} {m : TM} (hL : m.1 37 1 = nI L) (hL2 : L ≤ 120) (he : m.1 37 4 = nI e) (heL : e ≤ L) : CQ yX3_step cX3_step 1 none 1 22 K [.ref 37] (m) (fun r1 m1 => r1 = none ∧ ∃ g1, TS L (m.1 38) (nxE L (m.1 38) e) g1 ∧ m1 = sr m 37 g1) := by
  refine ct_ofq (n := 0) (by decide +kernel) rfl rfl ?_
  show XX RX3 cX3_step 1 none 1 22 K 0 [some (.ref 37)] [] (m) (fun r1 m1 => r1 = none ∧ ∃ g1, TS L (m.1 38) (nxE L (m.1 38) e) g1 ∧ m1 = sr m 37 g1)
  refine x_aload_n (q := 1) dX3_step_0 rfl rfl ?_
  refine x_aload_n (q := 2) dX3_step_1 rfl rfl ?_
  refine x_getI (q := 5) dX3_step_2 rfl fl_X3_25 (ob3_end) ?_
  rw [he]
  refine x_putI (q := 8) dX3_step_5 rfl fl_X3_22 (ob3_start) rfl rfl rfl rfl ?_
  rw [st1_eq]
  have h := l_X3_step1 (K := K) (L := L) (j0 := e) (g := m.1 37) (m := m) (Qv := fun r1 m1 => r1 = none ∧ ∃ g1, TS L (m.1 38) (nxE L (m.1 38) e) g1 ∧ m1 = sr m 37 g1) hL hL2 (l_X3_step3 hL hL2 (nxE_le heL).2) (L + 1) e (by omega) heL rfl
  exact h
