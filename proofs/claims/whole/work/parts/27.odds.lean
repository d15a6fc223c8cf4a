/-! odds -/
def lI (n : Nat) : Int64 := Int64.ofNat n
theorem lI_mul (a b : Nat) : lI a * lI b = lI (a * b) := (Int64.ofNat_mul a b).symm
theorem lI_i {n : Nat} (h : n < 2 ^ 63) : (lI n).toInt = n := lg_ofNat_toInt h
theorem lI_div {a b : Nat} (ha : a < 2 ^ 63) (hb : b < 2 ^ 63) (h0 : 0 < b) : lI a / lI b = lI (a / b) := by
  apply Int64.toInt.inj
  have h1 := lI_i ha
  have h2 := lI_i hb
  rw [lg_ldiv_nonneg (by omega) (by omega), h1, h2, lI_i (Nat.lt_of_le_of_lt (Nat.div_le_self _ _) ha)]
  rfl
theorem lI_rem {a b : Nat} (ha : a < 2 ^ 63) (hb : b < 2 ^ 63) (h0 : 0 < b) : lI a - lI a / lI b * lI b = lI (a % b) := by
  rw [lI_div ha hb h0, lI_mul]
  have e : lI a = lI (a % b) + lI (a / b * b) := by
    have h := Nat.mod_add_div a b
    have h2 : lI (a % b) + lI (a / b * b) = lI (a % b + a / b * b) := (Int64.ofNat_add _ _).symm
    rw [h2, Nat.mul_comm (a / b) b, h]
  rw [e]
  exact Int64.add_sub_cancel ..
theorem lI_0 {a : Nat} (ha : a < 2 ^ 63) : lI a = 0 ↔ a = 0 := by
  constructor
  · intro h
    have h1 := lI_i ha
    rw [h] at h1
    have h2 : (0 : Int64).toInt = 0 := rfl
    omega
  · intro h
    subst h
    rfl
theorem nI_lI {r : Nat} (h : r < 2147483648) : (nI r).toInt64 = lI r := by
  apply Int64.toInt.inj
  rw [Int32.toInt_toInt64, jnI_toInt h, lI_i (by omega)]
def rfN (P : Nat → Bool) : Nat → Nat
  | 0 => 0
  | j + 1 => if P j = true then rfN P j else rfN P j + 1
theorem rfN_le (P : Nat → Bool) : ∀ j, rfN P j ≤ j
  | 0 => Nat.le_refl 0
  | j + 1 => by
    have h := rfN_le P j
    unfold rfN
    split <;> omega
theorem rfN_congr {P Q : Nat → Bool} (h : ∀ j, P j = Q j) : ∀ j, rfN P j = rfN Q j
  | 0 => rfl
  | j + 1 => by unfold rfN; rw [h j, rfN_congr h j]
def dvN (r : Nat) : Nat → Nat
  | 0 => 1
  | g + 1 => if r % (g + 1) = 0 ∧ 21 % (g + 1) = 0 then g + 1 else dvN r g
theorem od_rem : ∀ r, r < 22 → ∀ g, g < 22 → 0 < g → (nI r - nI r / nI g * nI g = 0 ↔ r % g = 0) := by decide +kernel
theorem od_div : ∀ r, r < 22 → ∀ g, g < 22 → 0 < g → (nI r / nI g).toInt64 = lI (r / g) := by decide +kernel
theorem od_ne : ∀ g, g < 22 → 0 < g → ¬ nI g = 0 := by decide +kernel
def odN (r n : Nat) (w : Int32) : Nat := (if w = 0 then r / dvN r 21 else 21 / dvN r 21) ^ n
theorem od_eq : ∀ r, r < 22 → ∀ n, n < 14 → r ^ n / Nat.gcd (r ^ n) (21 ^ n) = (r / dvN r 21) ^ n ∧ 21 ^ n / Nat.gcd (r ^ n) (21 ^ n) = (21 / dvN r 21) ^ n ∧ 0 < Nat.gcd (r ^ n) (21 ^ n) ∧ r ^ n < 2 ^ 63 ∧ 21 ^ n < 2 ^ 63 ∧ Nat.gcd (r ^ n) (21 ^ n) < 2 ^ 63 := by decide +kernel
theorem nI_m1 {j : Nat} (h : 0 < j) : nI j + Int32.ofInt (-1) = nI (j - 1) := by
  obtain ⟨i, rfl⟩ : ∃ i, j = i + 1 := ⟨j - 1, by omega⟩
  have := nI_p1 (j := i)
  rw [Int32.sub_eq_add_neg] at this
  exact this
theorem w_01 {w : Int32} (h : outI w 0 1 = false) : True := trivial
theorem dX4_odds_0 : decode cX4_odds 0 = .ok (.aload_n 0, 1) := by decide +kernel
theorem dX4_odds_1 : decode cX4_odds 1 = .ok (.iload_n 1, 1) := by decide +kernel
theorem dX4_odds_2 : decode cX4_odds 2 = .ok (.invokevirtual 76, 3) := by decide +kernel
theorem dX4_odds_5 : decode cX4_odds 5 = .ok (.ifCond .ne 22, 3) := by decide +kernel
theorem dX4_odds_8 : decode cX4_odds 8 = .ok (.iload_n 2, 1) := by decide +kernel
theorem dX4_odds_9 : decode cX4_odds 9 = .ok (.iconst 0, 1) := by decide +kernel
theorem dX4_odds_10 : decode cX4_odds 10 = .ok (.bipush 13, 2) := by decide +kernel
theorem dX4_odds_12 : decode cX4_odds 12 = .ok (.invokestatic 44, 3) := by decide +kernel
theorem dX4_odds_15 : decode cX4_odds 15 = .ok (.ifCond .ne 12, 3) := by decide +kernel
theorem dX4_odds_18 : decode cX4_odds 18 = .ok (.iload_n 3, 1) := by decide +kernel
theorem dX4_odds_19 : decode cX4_odds 19 = .ok (.iconst 0, 1) := by decide +kernel
theorem dX4_odds_20 : decode cX4_odds 20 = .ok (.iconst 1, 1) := by decide +kernel
theorem dX4_odds_21 : decode cX4_odds 21 = .ok (.invokestatic 44, 3) := by decide +kernel
theorem dX4_odds_24 : decode cX4_odds 24 = .ok (.ifCond .eq 11, 3) := by decide +kernel
theorem dX4_odds_27 : decode cX4_odds 27 = .ok (.aload_n 0, 1) := by decide +kernel
theorem dX4_odds_28 : decode cX4_odds 28 = .ok (.ldc 48, 2) := by decide +kernel
theorem dX4_odds_30 : decode cX4_odds 30 = .ok (.invokevirtual 49, 3) := by decide +kernel
theorem dX4_odds_33 : decode cX4_odds 33 = .ok (.i2l, 1) := by decide +kernel
theorem dX4_odds_34 : decode cX4_odds 34 = .ok (.lreturn, 1) := by decide +kernel
theorem dX4_odds_35 : decode cX4_odds 35 = .ok (.iconst 0, 1) := by decide +kernel
theorem dX4_odds_36 : decode cX4_odds 36 = .ok (.istore 4, 2) := by decide +kernel
theorem dX4_odds_38 : decode cX4_odds 38 = .ok (.iconst 0, 1) := by decide +kernel
theorem dX4_odds_39 : decode cX4_odds 39 = .ok (.istore 5, 2) := by decide +kernel
theorem dX4_odds_41 : decode cX4_odds 41 = .ok (.iload 5, 2) := by decide +kernel
theorem dX4_odds_43 : decode cX4_odds 43 = .ok (.bipush 20, 2) := by decide +kernel
theorem dX4_odds_45 : decode cX4_odds 45 = .ok (.if_icmp .gt 36, 3) := by decide +kernel
theorem dX4_odds_48 : decode cX4_odds 48 = .ok (.aload_n 0, 1) := by decide +kernel
theorem dX4_odds_49 : decode cX4_odds 49 = .ok (.getfield 12, 3) := by decide +kernel
theorem dX4_odds_52 : decode cX4_odds 52 = .ok (.getfield 80, 3) := by decide +kernel
theorem dX4_odds_55 : decode cX4_odds 55 = .ok (.iload_n 1, 1) := by decide +kernel
theorem dX4_odds_56 : decode cX4_odds 56 = .ok (.aaload, 1) := by decide +kernel
theorem dX4_odds_57 : decode cX4_odds 57 = .ok (.iload 5, 2) := by decide +kernel
theorem dX4_odds_59 : decode cX4_odds 59 = .ok (.aload_n 0, 1) := by decide +kernel
theorem dX4_odds_60 : decode cX4_odds 60 = .ok (.getfield 12, 3) := by decide +kernel
theorem dX4_odds_63 : decode cX4_odds 63 = .ok (.getfield 97, 3) := by decide +kernel
theorem dX4_odds_66 : decode cX4_odds 66 = .ok (.invokevirtual 100, 3) := by decide +kernel
theorem dX4_odds_69 : decode cX4_odds 69 = .ok (.ifCond .ne 6, 3) := by decide +kernel
theorem dX4_odds_72 : decode cX4_odds 72 = .ok (.iinc 4 1, 3) := by decide +kernel
theorem dX4_odds_75 : decode cX4_odds 75 = .ok (.iinc 5 1, 3) := by decide +kernel
theorem dX4_odds_78 : decode cX4_odds 78 = .ok (.goto (-37), 3) := by decide +kernel
theorem dX4_odds_81 : decode cX4_odds 81 = .ok (.bipush 21, 2) := by decide +kernel
theorem dX4_odds_83 : decode cX4_odds 83 = .ok (.istore 5, 2) := by decide +kernel
theorem dX4_odds_85 : decode cX4_odds 85 = .ok (.iload 5, 2) := by decide +kernel
theorem dX4_odds_87 : decode cX4_odds 87 = .ok (.iconst 1, 1) := by decide +kernel
theorem dX4_odds_88 : decode cX4_odds 88 = .ok (.if_icmp .le 25, 3) := by decide +kernel
theorem dX4_odds_91 : decode cX4_odds 91 = .ok (.iload 4, 2) := by decide +kernel
theorem dX4_odds_93 : decode cX4_odds 93 = .ok (.iload 5, 2) := by decide +kernel
theorem dX4_odds_95 : decode cX4_odds 95 = .ok (.irem, 1) := by decide +kernel
theorem dX4_odds_96 : decode cX4_odds 96 = .ok (.ifCond .ne 11, 3) := by decide +kernel
theorem dX4_odds_99 : decode cX4_odds 99 = .ok (.bipush 21, 2) := by decide +kernel
theorem dX4_odds_101 : decode cX4_odds 101 = .ok (.iload 5, 2) := by decide +kernel
theorem dX4_odds_103 : decode cX4_odds 103 = .ok (.irem, 1) := by decide +kernel
theorem dX4_odds_104 : decode cX4_odds 104 = .ok (.ifCond .eq 9, 3) := by decide +kernel
theorem dX4_odds_107 : decode cX4_odds 107 = .ok (.iinc 5 (-1), 3) := by decide +kernel
theorem dX4_odds_110 : decode cX4_odds 110 = .ok (.goto (-25), 3) := by decide +kernel
theorem dX4_odds_113 : decode cX4_odds 113 = .ok (.iload_n 3, 1) := by decide +kernel
theorem dX4_odds_114 : decode cX4_odds 114 = .ok (.ifCond .ne 12, 3) := by decide +kernel
theorem dX4_odds_117 : decode cX4_odds 117 = .ok (.iload 4, 2) := by decide +kernel
theorem dX4_odds_119 : decode cX4_odds 119 = .ok (.iload 5, 2) := by decide +kernel
theorem dX4_odds_121 : decode cX4_odds 121 = .ok (.idiv, 1) := by decide +kernel
theorem dX4_odds_122 : decode cX4_odds 122 = .ok (.i2l, 1) := by decide +kernel
theorem dX4_odds_123 : decode cX4_odds 123 = .ok (.goto 9, 3) := by decide +kernel
theorem dX4_odds_126 : decode cX4_odds 126 = .ok (.bipush 21, 2) := by decide +kernel
theorem dX4_odds_128 : decode cX4_odds 128 = .ok (.iload 5, 2) := by decide +kernel
theorem dX4_odds_130 : decode cX4_odds 130 = .ok (.idiv, 1) := by decide +kernel
theorem dX4_odds_131 : decode cX4_odds 131 = .ok (.i2l, 1) := by decide +kernel
theorem dX4_odds_132 : decode cX4_odds 132 = .ok (.lstore 6, 2) := by decide +kernel
theorem dX4_odds_134 : decode cX4_odds 134 = .ok (.lconst 1, 1) := by decide +kernel
theorem dX4_odds_135 : decode cX4_odds 135 = .ok (.lstore 8, 2) := by decide +kernel
theorem dX4_odds_137 : decode cX4_odds 137 = .ok (.iconst 0, 1) := by decide +kernel
theorem dX4_odds_138 : decode cX4_odds 138 = .ok (.istore 10, 2) := by decide +kernel
theorem dX4_odds_140 : decode cX4_odds 140 = .ok (.iload 10, 2) := by decide +kernel
theorem dX4_odds_142 : decode cX4_odds 142 = .ok (.iload_n 2, 1) := by decide +kernel
theorem dX4_odds_143 : decode cX4_odds 143 = .ok (.if_icmp .ge 16, 3) := by decide +kernel
theorem dX4_odds_146 : decode cX4_odds 146 = .ok (.lload 8, 2) := by decide +kernel
theorem dX4_odds_148 : decode cX4_odds 148 = .ok (.lload 6, 2) := by decide +kernel
theorem dX4_odds_150 : decode cX4_odds 150 = .ok (.lmul, 1) := by decide +kernel
theorem dX4_odds_151 : decode cX4_odds 151 = .ok (.lstore 8, 2) := by decide +kernel
theorem dX4_odds_153 : decode cX4_odds 153 = .ok (.iinc 10 1, 3) := by decide +kernel
theorem dX4_odds_156 : decode cX4_odds 156 = .ok (.goto (-16), 3) := by decide +kernel
theorem dX4_odds_159 : decode cX4_odds 159 = .ok (.lload 8, 2) := by decide +kernel
theorem dX4_odds_161 : decode cX4_odds 161 = .ok (.lreturn, 1) := by decide +kernel
set_option maxRecDepth 20000 in
set_option maxHeartbeats 4000000 in
theorem l_X4_odds3 {K : Cx} {k n : Nat} {w a b : Int32} {v : Nat} {m : TM} (hn : n ≤ 13) : ∀ (fu : Nat) (j : Nat), n - j < fu → j ≤ n → XX RX4 cX4_odds 11 (some .long) 2 44 K 140 [some (.ref 0), some (.int (nI k)), some (.int (nI n)), some (.int w), some (.int a), some (.int b), some (.long (lI v)), none, some (.long (lI (v ^ j))), none, some (.int (nI j))] [] (m) (fun r1 m1 => r1 = (some (.long (lI (v ^ n)))) ∧ m1 = m) := by
  intro fu
  induction fu with
  | zero => intro j hlt; exact absurd hlt (Nat.not_lt_zero _)
  | succ fu ih =>
    intro j hlt hj
    refine x_iload (q := 142) dX4_odds_140 rfl rfl ?_
    refine x_iload_n (q := 143) dX4_odds_142 rfl rfl ?_
    refine x_icmp_ge (q := 146) (t := 159) dX4_odds_143 rfl (by decide) (fun h143 => ?_) (fun h143 => ?_)
    · refine x_lload (q := 161) dX4_odds_159 rfl rfl ?_
      refine x_lreturn dX4_odds_161 rfl ?_
      have e : j = n := Nat.le_antisymm hj (lp_stop rfl (by omega) (by omega) h143)
      subst e
      exact ⟨rfl, rfl⟩
    have hjn : j < n := lp_go rfl (by omega) (by omega) h143
    refine x_lload (q := 148) dX4_odds_146 rfl rfl ?_
    refine x_lload (q := 150) dX4_odds_148 rfl rfl ?_
    refine x_lmul (q := 151) dX4_odds_150 rfl ?_
    refine x_lstore (q := 153) dX4_odds_151 rfl (by decide) rfl rfl ?_
    refine x_iinc (q := 156) (v := nI (j + 1)) dX4_odds_153 rfl rfl (jnI_s j) (by decide) rfl rfl ?_
    refine x_goto (q := 140) dX4_odds_156 (by decide) ?_
    have h := ih (j + 1) (by omega) (by omega)
    rw [lI_mul, ← Nat.pow_succ]
    exact h
set_option maxRecDepth 20000 in
set_option maxHeartbeats 4000000 in
theorem l_X4_odds2 {K : Cx} {k n r : Nat} {w : Int32} {m : TM} (hn : n ≤ 13) (hr : r < 22) : ∀ (fu : Nat) (g : Nat), g < fu → 1 ≤ g → g ≤ 21 → XX RX4 cX4_odds 11 (some .long) 2 44 K 85 [some (.ref 0), some (.int (nI k)), some (.int (nI n)), some (.int w), some (.int (nI r)), some (.int (nI g)), none, none, none, none, none] [] (m) (fun r1 m1 => r1 = (some (.long (lI ((if w = 0 then r / dvN r g else 21 / dvN r g) ^ n)))) ∧ m1 = m) := by
  intro fu
  induction fu with
  | zero => intro g hlt; exact absurd hlt (Nat.not_lt_zero _)
  | succ fu ih =>
    intro g hlt hg1 hg2
    refine x_iload (q := 87) dX4_odds_85 rfl rfl ?_
    refine x_iconst (q := 88) (v := 1) dX4_odds_87 rfl (by decide) ?_
    refine x_icmp_le (q := 91) (t := 113) dX4_odds_88 rfl (by decide) (fun h88 => ?_) (fun h88 => ?_)
    · refine x_iload_n (q := 114) dX4_odds_113 rfl rfl ?_
      refine x_if_ne (q := 117) (t := 126) dX4_odds_114 rfl (by decide) (fun h114 => ?_) (fun h114 => ?_)
      · refine x_bipush (q := 128) (v := 21) dX4_odds_126 rfl (by decide) ?_
        refine x_iload (q := 130) dX4_odds_128 rfl rfl ?_
        refine x_idiv (q := 131) dX4_odds_130 rfl (od_ne g (by omega) (by omega)) ?_
        refine x_i2l (q := 132) dX4_odds_131 rfl ?_
        refine x_lstore (q := 134) dX4_odds_132 rfl (by decide) rfl rfl ?_
        refine x_lconst (q := 135) (v := 1) dX4_odds_134 rfl (by decide) ?_
        refine x_lstore (q := 137) dX4_odds_135 rfl (by decide) rfl rfl ?_
        refine x_iconst (q := 138) (v := 0) dX4_odds_137 rfl (by decide) ?_
        refine x_istore (q := 140) dX4_odds_138 rfl (by decide) rfl rfl ?_
        have hg1 : g ≤ 1 := (jnI_le' (by omega) (by decide)).mp h88
        obtain rfl : g = 1 := by omega
        have ed : dvN r 1 = 1 := by simp [dvN, Nat.mod_one]
        rw [if_neg h114, ed]
        have e2 := od_div 21 (by decide) 1 (by omega) (by omega)
        have h := l_X4_odds3 (K := K) (k := k) (w := w) (a := nI r) (b := nI 1) (v := 21 / 1) (m := m) hn (n + 1) 0 (by omega) (by omega)
        rw [← e2] at h
        exact h
      refine x_iload (q := 119) dX4_odds_117 rfl rfl ?_
      refine x_iload (q := 121) dX4_odds_119 rfl rfl ?_
      refine x_idiv (q := 122) dX4_odds_121 rfl (od_ne g (by omega) (by omega)) ?_
      refine x_i2l (q := 123) dX4_odds_122 rfl ?_
      refine x_goto (q := 132) dX4_odds_123 (by decide) ?_
      refine x_lstore (q := 134) dX4_odds_132 rfl (by decide) rfl rfl ?_
      refine x_lconst (q := 135) (v := 1) dX4_odds_134 rfl (by decide) ?_
      refine x_lstore (q := 137) dX4_odds_135 rfl (by decide) rfl rfl ?_
      refine x_iconst (q := 138) (v := 0) dX4_odds_137 rfl (by decide) ?_
      refine x_istore (q := 140) dX4_odds_138 rfl (by decide) rfl rfl ?_
      have hg1 : g ≤ 1 := (jnI_le' (by omega) (by decide)).mp h88
      obtain rfl : g = 1 := by omega
      have ed : dvN r 1 = 1 := by simp [dvN, Nat.mod_one]
      rw [if_pos h114, ed]
      have e2 := od_div r hr 1 (by omega) (by omega)
      have h := l_X4_odds3 (K := K) (k := k) (w := w) (a := nI r) (b := nI 1) (v := r / 1) (m := m) hn (n + 1) 0 (by omega) (by omega)
      rw [← e2] at h
      exact h
    have hgg : 1 < g := by
      have h9 : ¬ g ≤ 1 := fun q => h88 ((jnI_le' (by omega) (by decide)).mpr q)
      omega
    refine x_iload (q := 93) dX4_odds_91 rfl rfl ?_
    refine x_iload (q := 95) dX4_odds_93 rfl rfl ?_
    refine x_irem (q := 96) dX4_odds_95 rfl (od_ne g (by omega) (by omega)) ?_
    refine x_if_ne (q := 99) (t := 107) dX4_odds_96 rfl (by decide) (fun h96 => ?_) (fun h96 => ?_)
    · refine x_iinc (q := 110) (v := nI (g - 1)) dX4_odds_107 rfl rfl (nI_m1 (by omega)) (by decide) rfl rfl ?_
      refine x_goto (q := 85) dX4_odds_110 (by decide) ?_
      have ed : dvN r g = dvN r (g - 1) := by
        obtain ⟨i, rfl⟩ : ∃ i, g = i + 1 := ⟨g - 1, by omega⟩
        show (if r % (i + 1) = 0 ∧ 21 % (i + 1) = 0 then i + 1 else dvN r i) = _
        rw [if_neg (fun q => h96 ((od_rem r hr _ (by omega) (by omega)).mpr q.1))]
        rfl
      rw [ed]
      exact ih (g - 1) (by omega) (by omega) (by omega)
    refine x_bipush (q := 101) (v := 21) dX4_odds_99 rfl (by decide) ?_
    refine x_iload (q := 103) dX4_odds_101 rfl rfl ?_
    refine x_irem (q := 104) dX4_odds_103 rfl (od_ne g (by omega) (by omega)) ?_
    refine x_if_eq (q := 107) (t := 113) dX4_odds_104 rfl (by decide) (fun h104 => ?_) (fun h104 => ?_)
    · refine x_iload_n (q := 114) dX4_odds_113 rfl rfl ?_
      refine x_if_ne (q := 117) (t := 126) dX4_odds_114 rfl (by decide) (fun h114 => ?_) (fun h114 => ?_)
      · refine x_bipush (q := 128) (v := 21) dX4_odds_126 rfl (by decide) ?_
        refine x_iload (q := 130) dX4_odds_128 rfl rfl ?_
        refine x_idiv (q := 131) dX4_odds_130 rfl (od_ne g (by omega) (by omega)) ?_
        refine x_i2l (q := 132) dX4_odds_131 rfl ?_
        refine x_lstore (q := 134) dX4_odds_132 rfl (by decide) rfl rfl ?_
        refine x_lconst (q := 135) (v := 1) dX4_odds_134 rfl (by decide) ?_
        refine x_lstore (q := 137) dX4_odds_135 rfl (by decide) rfl rfl ?_
        refine x_iconst (q := 138) (v := 0) dX4_odds_137 rfl (by decide) ?_
        refine x_istore (q := 140) dX4_odds_138 rfl (by decide) rfl rfl ?_
        have h96b := (od_rem r hr g (by omega) (by omega)).mp h96
        have h104b := (od_rem 21 (by decide) g (by omega) (by omega)).mp h104
        have ed : dvN r g = g := by
          obtain ⟨i, rfl⟩ : ∃ i, g = i + 1 := ⟨g - 1, by omega⟩
          unfold dvN
          rw [if_pos ⟨h96b, h104b⟩]
        rw [if_neg h114, ed]
        have e2 := od_div 21 (by decide) g (by omega) (by omega)
        have h := l_X4_odds3 (K := K) (k := k) (w := w) (a := nI r) (b := nI g) (v := 21 / g) (m := m) hn (n + 1) 0 (by omega) (by omega)
        rw [← e2] at h
        exact h
      refine x_iload (q := 119) dX4_odds_117 rfl rfl ?_
      refine x_iload (q := 121) dX4_odds_119 rfl rfl ?_
      refine x_idiv (q := 122) dX4_odds_121 rfl (od_ne g (by omega) (by omega)) ?_
      refine x_i2l (q := 123) dX4_odds_122 rfl ?_
      refine x_goto (q := 132) dX4_odds_123 (by decide) ?_
      refine x_lstore (q := 134) dX4_odds_132 rfl (by decide) rfl rfl ?_
      refine x_lconst (q := 135) (v := 1) dX4_odds_134 rfl (by decide) ?_
      refine x_lstore (q := 137) dX4_odds_135 rfl (by decide) rfl rfl ?_
      refine x_iconst (q := 138) (v := 0) dX4_odds_137 rfl (by decide) ?_
      refine x_istore (q := 140) dX4_odds_138 rfl (by decide) rfl rfl ?_
      have h96b := (od_rem r hr g (by omega) (by omega)).mp h96
      have h104b := (od_rem 21 (by decide) g (by omega) (by omega)).mp h104
      have ed : dvN r g = g := by
        obtain ⟨i, rfl⟩ : ∃ i, g = i + 1 := ⟨g - 1, by omega⟩
        unfold dvN
        rw [if_pos ⟨h96b, h104b⟩]
      rw [if_pos h114, ed]
      have e2 := od_div r hr g (by omega) (by omega)
      have h := l_X4_odds3 (K := K) (k := k) (w := w) (a := nI r) (b := nI g) (v := r / g) (m := m) hn (n + 1) 0 (by omega) (by omega)
      rw [← e2] at h
      exact h
    refine x_iinc (q := 110) (v := nI (g - 1)) dX4_odds_107 rfl rfl (nI_m1 (by omega)) (by decide) rfl rfl ?_
    refine x_goto (q := 85) dX4_odds_110 (by decide) ?_
    have ed : dvN r g = dvN r (g - 1) := by
      obtain ⟨i, rfl⟩ : ∃ i, g = i + 1 := ⟨g - 1, by omega⟩
      show (if r % (i + 1) = 0 ∧ 21 % (i + 1) = 0 then i + 1 else dvN r i) = _
      rw [if_neg (fun q => h104 ((od_rem 21 (by decide) _ (by omega) (by omega)).mpr q.2))]
      rfl
    rw [ed]
    exact ih (g - 1) (by omega) (by omega) (by omega)
set_option maxRecDepth 20000 in
set_option maxHeartbeats 4000000 in
theorem l_X4_odds1 {K : Cx} {k n : Nat} {w : Int32} {m : TM} (hn : n ≤ 13) (hk8 : k < 8) : ∀ (fu : Nat) (j : Nat), 21 - j < fu → j ≤ 21 → XX RX4 cX4_odds 11 (some .long) 2 44 K 41 [some (.ref 0), some (.int (nI k)), some (.int (nI n)), some (.int w), some (.int (nI (rfN (fun t => sg (m.1 1 (12 + 7 * k + 0)) (m.1 1 (12 + 7 * k + 1)) (m.1 1 (12 + 7 * k + 2)) (m.1 1 (12 + 7 * k + 6)) (m.1 1 0) (nI t)) j))), some (.int (nI j)), none, none, none, none, none] [] (m) (fun r1 m1 => r1 = (some (.long (lI (odN (rfN (fun t => sg (m.1 1 (12 + 7 * k + 0)) (m.1 1 (12 + 7 * k + 1)) (m.1 1 (12 + 7 * k + 2)) (m.1 1 (12 + 7 * k + 6)) (m.1 1 0) (nI t)) 21) n w)))) ∧ m1 = m) := by
  intro fu
  induction fu with
  | zero => intro j hlt; exact absurd hlt (Nat.not_lt_zero _)
  | succ fu ih =>
    intro j hlt hj
    refine x_iload (q := 43) dX4_odds_41 rfl rfl ?_
    refine x_bipush (q := 45) (v := 20) dX4_odds_43 rfl (by decide) ?_
    refine x_icmp_gt (q := 48) (t := 81) dX4_odds_45 rfl (by decide) (fun h45 => ?_) (fun h45 => ?_)
    · have e21 : j = 21 := by
        have h9 : 20 < j := (jnI_lt (by decide) (by omega)).mp h45
        omega
      subst e21
      refine x_bipush (q := 83) (v := 21) dX4_odds_81 rfl (by decide) ?_
      refine x_istore (q := 85) dX4_odds_83 rfl (by decide) rfl rfl ?_
      exact x_ls (l_X4_odds2 (K := K) (m := m) hn (Nat.lt_succ_of_le (rfN_le _ 21)) 22 21 (by omega) (by omega) (by omega)) (And.intro rfl (And.intro rfl (And.intro rfl (And.intro rfl (And.intro rfl (And.intro rfl trivial))))))
    have hj20 : j < 21 := by
      have h9 : ¬ 20 < j := fun q => h45 ((jnI_lt (by decide) (by omega)).mpr q)
      omega
    refine x_aload_n (q := 49) dX4_odds_48 rfl rfl ?_
    refine x_getR (q := 52) dX4_odds_49 rfl fl_X4_12 (or4_coast) ?_
    refine x_getR (q := 55) dX4_odds_52 rfl fl_X4_80 (or0_slip isC_1) ?_
    refine x_iload_n (q := 56) dX4_odds_55 rfl rfl ?_
    refine x_slip (q := 57) dX4_odds_56 rfl isC_1 (ix_nI (n := 8) hk8 (by decide)) ?_
    refine x_iload (q := 59) dX4_odds_57 rfl rfl ?_
    refine x_aload_n (q := 60) dX4_odds_59 rfl rfl ?_
    refine x_getR (q := 63) dX4_odds_60 rfl fl_X4_12 (or4_coast) ?_
    refine x_getI (q := 66) dX4_odds_63 rfl fl_X4_97 (ob0_day isC_1) ?_
    refine x_callV2v (q := 69) dX4_odds_66 rfl ml_X4_100 mv_X1_isSignedFor (rv1 isC_1 hk8) rfl (p_X1_isSignedFor isC_1 hk8) (Nat.le_of_ble_eq_true rfl) ⟨by decide, by decide⟩ ?_
    refine x_ifB_ne (q := 72) (t := 75) dX4_odds_69 rfl (by decide) (fun h69 => ?_) (fun h69 => ?_)
    · refine x_iinc (q := 78) (v := nI (j + 1)) dX4_odds_75 rfl rfl (jnI_s j) (by decide) rfl rfl ?_
      refine x_goto (q := 41) dX4_odds_78 (by decide) ?_
      have er : rfN (fun t => sg (m.1 1 (12 + 7 * k + 0)) (m.1 1 (12 + 7 * k + 1)) (m.1 1 (12 + 7 * k + 2)) (m.1 1 (12 + 7 * k + 6)) (m.1 1 0) (nI t)) (j + 1) = rfN (fun t => sg (m.1 1 (12 + 7 * k + 0)) (m.1 1 (12 + 7 * k + 1)) (m.1 1 (12 + 7 * k + 2)) (m.1 1 (12 + 7 * k + 6)) (m.1 1 0) (nI t)) j := by
        show (if sg (m.1 1 (12 + 7 * k + 0)) (m.1 1 (12 + 7 * k + 1)) (m.1 1 (12 + 7 * k + 2)) (m.1 1 (12 + 7 * k + 6)) (m.1 1 0) (nI j) = true then _ else _) = _
        rw [if_pos h69]
      have h := ih (j + 1) (by omega) (by omega)
      rw [er] at h
      exact x_ls h (And.intro rfl (And.intro rfl (And.intro rfl (And.intro rfl (And.intro rfl (And.intro rfl trivial))))))
    refine x_iinc (q := 75) (v := nI (rfN (fun t => sg (m.1 1 (12 + 7 * k + 0)) (m.1 1 (12 + 7 * k + 1)) (m.1 1 (12 + 7 * k + 2)) (m.1 1 (12 + 7 * k + 6)) (m.1 1 0) (nI t)) j + 1)) dX4_odds_72 rfl rfl (jnI_s _) (by decide) rfl rfl ?_
    refine x_iinc (q := 78) (v := nI (j + 1)) dX4_odds_75 rfl rfl (jnI_s j) (by decide) rfl rfl ?_
    refine x_goto (q := 41) dX4_odds_78 (by decide) ?_
    have er : rfN (fun t => sg (m.1 1 (12 + 7 * k + 0)) (m.1 1 (12 + 7 * k + 1)) (m.1 1 (12 + 7 * k + 2)) (m.1 1 (12 + 7 * k + 6)) (m.1 1 0) (nI t)) (j + 1) = rfN (fun t => sg (m.1 1 (12 + 7 * k + 0)) (m.1 1 (12 + 7 * k + 1)) (m.1 1 (12 + 7 * k + 2)) (m.1 1 (12 + 7 * k + 6)) (m.1 1 0) (nI t)) j + 1 := by
      show (if sg (m.1 1 (12 + 7 * k + 0)) (m.1 1 (12 + 7 * k + 1)) (m.1 1 (12 + 7 * k + 2)) (m.1 1 (12 + 7 * k + 6)) (m.1 1 0) (nI j) = true then _ else _) = _
      rw [if_neg (by rw [h69]; decide)]
    have h := ih (j + 1) (by omega) (by omega)
    rw [er] at h
    exact x_ls h (And.intro rfl (And.intro rfl (And.intro rfl (And.intro rfl (And.intro rfl (And.intro rfl trivial))))))
set_option maxRecDepth 20000 in
set_option maxHeartbeats 4000000 in
theorem c_X4_oddsB {K : Cx} {p n w : Int32} {m : TM} (hb : (outI p 0 (m.1 1 1 - 1) || outI n 0 13 || outI w 0 1) = true) : CT yX4_odds cX4_odds 11 (some .long) 2 44 K [.ref 0, .int p, .int n, .int w] (m) (some (.long ((-1000001 : Int32).toInt64))) (fnd m 0) := by
  refine ct_ofd (n := 7) (by decide +kernel) rfl rfl ?_
  show XX RX4 cX4_odds 11 (some .long) 2 44 K 0 [some (.ref 0), some (.int p), some (.int n), some (.int w), none, none, none, none, none, none, none] [] (m) (fun r1 m1 => r1 = (some (.long ((-1000001 : Int32).toInt64))) ∧ m1 = fnd m 0)
  refine x_aload_n (q := 1) dX4_odds_0 rfl rfl ?_
  refine x_iload_n (q := 2) dX4_odds_1 rfl rfl ?_
  refine x_callV1v (q := 5) dX4_odds_2 rfl ml_X4_76 mv_X4_isNoParcel rv4 rfl c_X4_isNoParcel (Nat.le_of_ble_eq_true rfl) ⟨by decide, by decide⟩ ?_
  refine x_ifB_ne (q := 8) (t := 27) dX4_odds_5 rfl (by decide) (fun h5 => ?_) (fun h5 => ?_)
  · refine x_aload_n (q := 28) dX4_odds_27 rfl rfl ?_
    refine x_ldc (q := 30) dX4_odds_28 rfl kc_X4_48 ?_
    refine x_callV1v (q := 33) dX4_odds_30 rfl ml_X4_49 mv_X4_finding rv4 rfl (c_X4_finding (w := 0) (by decide) (by decide)) (Nat.le_of_ble_eq_true rfl) ⟨by decide, by decide⟩ ?_
    refine x_i2l (q := 34) dX4_odds_33 rfl ?_
    refine x_lreturn dX4_odds_34 rfl ?_
    exact ⟨rfl, rfl⟩
  refine x_iload_n (q := 9) dX4_odds_8 rfl rfl ?_
  refine x_iconst (q := 10) (v := 0) dX4_odds_9 rfl (by decide) ?_
  refine x_bipush (q := 12) (v := 13) dX4_odds_10 rfl (by decide) ?_
  refine x_callS3v (q := 15) dX4_odds_12 rfl ml_X4_44 ms_X4_isOut c_X4_isOut (Nat.le_of_ble_eq_true rfl) ⟨by decide, by decide⟩ ?_
  refine x_ifB_ne (q := 18) (t := 27) dX4_odds_15 rfl (by decide) (fun h15 => ?_) (fun h15 => ?_)
  · refine x_aload_n (q := 28) dX4_odds_27 rfl rfl ?_
    refine x_ldc (q := 30) dX4_odds_28 rfl kc_X4_48 ?_
    refine x_callV1v (q := 33) dX4_odds_30 rfl ml_X4_49 mv_X4_finding rv4 rfl (c_X4_finding (w := 0) (by decide) (by decide)) (Nat.le_of_ble_eq_true rfl) ⟨by decide, by decide⟩ ?_
    refine x_i2l (q := 34) dX4_odds_33 rfl ?_
    refine x_lreturn dX4_odds_34 rfl ?_
    exact ⟨rfl, rfl⟩
  refine x_iload_n (q := 19) dX4_odds_18 rfl rfl ?_
  refine x_iconst (q := 20) (v := 0) dX4_odds_19 rfl (by decide) ?_
  refine x_iconst (q := 21) (v := 1) dX4_odds_20 rfl (by decide) ?_
  refine x_callS3v (q := 24) dX4_odds_21 rfl ml_X4_44 ms_X4_isOut c_X4_isOut (Nat.le_of_ble_eq_true rfl) ⟨by decide, by decide⟩ ?_
  refine x_ifB_eq (q := 27) (t := 35) dX4_odds_24 rfl (by decide) (fun h24 => ?_) (fun h24 => ?_)
  · exact absurd hb (by simp [h5, h15, h24])
  refine x_aload_n (q := 28) dX4_odds_27 rfl rfl ?_
  refine x_ldc (q := 30) dX4_odds_28 rfl kc_X4_48 ?_
  refine x_callV1v (q := 33) dX4_odds_30 rfl ml_X4_49 mv_X4_finding rv4 rfl (c_X4_finding (w := 0) (by decide) (by decide)) (Nat.le_of_ble_eq_true rfl) ⟨by decide, by decide⟩ ?_
  refine x_i2l (q := 34) dX4_odds_33 rfl ?_
  refine x_lreturn dX4_odds_34 rfl ?_
  exact ⟨rfl, rfl⟩
set_option maxRecDepth 20000 in
set_option maxHeartbeats 4000000 in
theorem c_X4_odds {K : Cx} {k n8 n : Nat} {w : Int32} {m : TM} (hI : Iv n8 (m.1 1)) (hk : k < n8) (hn : n ≤ 13) (hw : outI w 0 1 = false) : CT yX4_odds cX4_odds 11 (some .long) 2 44 K [.ref 0, .int (nI k), .int (nI n), .int w] (m) (some (.long (lI (odN (rfN (fun t => sg (m.1 1 (12 + 7 * k + 0)) (m.1 1 (12 + 7 * k + 1)) (m.1 1 (12 + 7 * k + 2)) (m.1 1 (12 + 7 * k + 6)) (m.1 1 0) (nI t)) 21) n w)))) (m) := by
  refine ct_ofd (n := 7) (by decide +kernel) rfl rfl ?_
  show XX RX4 cX4_odds 11 (some .long) 2 44 K 0 [some (.ref 0), some (.int (nI k)), some (.int (nI n)), some (.int w), none, none, none, none, none, none, none] [] (m) (fun r1 m1 => r1 = (some (.long (lI (odN (rfN (fun t => sg (m.1 1 (12 + 7 * k + 0)) (m.1 1 (12 + 7 * k + 1)) (m.1 1 (12 + 7 * k + 2)) (m.1 1 (12 + 7 * k + 6)) (m.1 1 0) (nI t)) 21) n w)))) ∧ m1 = m)
  refine x_aload_n (q := 1) dX4_odds_0 rfl rfl ?_
  refine x_iload_n (q := 2) dX4_odds_1 rfl rfl ?_
  refine x_callV1v (q := 5) dX4_odds_2 rfl ml_X4_76 mv_X4_isNoParcel rv4 rfl c_X4_isNoParcel (Nat.le_of_ble_eq_true rfl) ⟨by decide, by decide⟩ ?_
  refine x_ifB_ne (q := 8) (t := 27) dX4_odds_5 rfl (by decide) (fun h5 => ?_) (fun h5 => ?_)
  · exact absurd (par_in hI.2.1 hI.1 hk) (by rw [h5]; decide)
  refine x_iload_n (q := 9) dX4_odds_8 rfl rfl ?_
  refine x_iconst (q := 10) (v := 0) dX4_odds_9 rfl (by decide) ?_
  refine x_bipush (q := 12) (v := 13) dX4_odds_10 rfl (by decide) ?_
  refine x_callS3v (q := 15) dX4_odds_12 rfl ml_X4_44 ms_X4_isOut c_X4_isOut (Nat.le_of_ble_eq_true rfl) ⟨by decide, by decide⟩ ?_
  refine x_ifB_ne (q := 18) (t := 27) dX4_odds_15 rfl (by decide) (fun h15 => ?_) (fun h15 => ?_)
  · exact absurd (show outI (nI n) 0 13 = false from rng_in (c := n) (a := 0) (b := 13) (Nat.zero_le _) hn (by decide)) (by rw [h15]; decide)
  refine x_iload_n (q := 19) dX4_odds_18 rfl rfl ?_
  refine x_iconst (q := 20) (v := 0) dX4_odds_19 rfl (by decide) ?_
  refine x_iconst (q := 21) (v := 1) dX4_odds_20 rfl (by decide) ?_
  refine x_callS3v (q := 24) dX4_odds_21 rfl ml_X4_44 ms_X4_isOut c_X4_isOut (Nat.le_of_ble_eq_true rfl) ⟨by decide, by decide⟩ ?_
  refine x_ifB_eq (q := 27) (t := 35) dX4_odds_24 rfl (by decide) (fun h24 => ?_) (fun h24 => ?_)
  · refine x_iconst (q := 36) (v := 0) dX4_odds_35 rfl (by decide) ?_
    refine x_istore (q := 38) dX4_odds_36 rfl (by decide) rfl rfl ?_
    refine x_iconst (q := 39) (v := 0) dX4_odds_38 rfl (by decide) ?_
    refine x_istore (q := 41) dX4_odds_39 rfl (by decide) rfl rfl ?_
    have hk8 : k < 8 := by have := hI.1; omega
    exact x_ls (l_X4_odds1 hn hk8 22 0 (by omega) (by omega)) (And.intro rfl (And.intro rfl (And.intro rfl (And.intro rfl (And.intro rfl (And.intro rfl trivial))))))
  exact absurd hw (by rw [h24]; decide)
theorem dX5_odds_0 : decode cX5_odds 0 = .ok (.aload_n 0, 1) := by decide +kernel
theorem dX5_odds_1 : decode cX5_odds 1 = .ok (.iload_n 1, 1) := by decide +kernel
theorem dX5_odds_2 : decode cX5_odds 2 = .ok (.invokevirtual 109, 3) := by decide +kernel
theorem dX5_odds_5 : decode cX5_odds 5 = .ok (.ifCond .eq 22, 3) := by decide +kernel
theorem dX5_odds_8 : decode cX5_odds 8 = .ok (.iload_n 2, 1) := by decide +kernel
theorem dX5_odds_9 : decode cX5_odds 9 = .ok (.iconst 0, 1) := by decide +kernel
theorem dX5_odds_10 : decode cX5_odds 10 = .ok (.bipush 13, 2) := by decide +kernel
theorem dX5_odds_12 : decode cX5_odds 12 = .ok (.invokestatic 48, 3) := by decide +kernel
theorem dX5_odds_15 : decode cX5_odds 15 = .ok (.ifCond .eq 12, 3) := by decide +kernel
theorem dX5_odds_18 : decode cX5_odds 18 = .ok (.iload_n 3, 1) := by decide +kernel
theorem dX5_odds_19 : decode cX5_odds 19 = .ok (.iconst 0, 1) := by decide +kernel
theorem dX5_odds_20 : decode cX5_odds 20 = .ok (.iconst 1, 1) := by decide +kernel
theorem dX5_odds_21 : decode cX5_odds 21 = .ok (.invokestatic 48, 3) := by decide +kernel
theorem dX5_odds_24 : decode cX5_odds 24 = .ok (.ifCond .ne 10, 3) := by decide +kernel
theorem dX5_odds_27 : decode cX5_odds 27 = .ok (.aload_n 0, 1) := by decide +kernel
theorem dX5_odds_28 : decode cX5_odds 28 = .ok (.iconst 0, 1) := by decide +kernel
theorem dX5_odds_29 : decode cX5_odds 29 = .ok (.invokevirtual 103, 3) := by decide +kernel
theorem dX5_odds_32 : decode cX5_odds 32 = .ok (.i2l, 1) := by decide +kernel
theorem dX5_odds_33 : decode cX5_odds 33 = .ok (.lreturn, 1) := by decide +kernel
theorem dX5_odds_34 : decode cX5_odds 34 = .ok (.iconst 0, 1) := by decide +kernel
theorem dX5_odds_35 : decode cX5_odds 35 = .ok (.istore 4, 2) := by decide +kernel
theorem dX5_odds_37 : decode cX5_odds 37 = .ok (.iconst 0, 1) := by decide +kernel
theorem dX5_odds_38 : decode cX5_odds 38 = .ok (.istore 5, 2) := by decide +kernel
theorem dX5_odds_40 : decode cX5_odds 40 = .ok (.iload 5, 2) := by decide +kernel
theorem dX5_odds_42 : decode cX5_odds 42 = .ok (.bipush 20, 2) := by decide +kernel
theorem dX5_odds_44 : decode cX5_odds 44 = .ok (.if_icmp .gt 29, 3) := by decide +kernel
theorem dX5_odds_47 : decode cX5_odds 47 = .ok (.iload 4, 2) := by decide +kernel
theorem dX5_odds_49 : decode cX5_odds 49 = .ok (.aload_n 0, 1) := by decide +kernel
theorem dX5_odds_50 : decode cX5_odds 50 = .ok (.iload_n 1, 1) := by decide +kernel
theorem dX5_odds_51 : decode cX5_odds 51 = .ok (.iload 5, 2) := by decide +kernel
theorem dX5_odds_53 : decode cX5_odds 53 = .ok (.invokevirtual 56, 3) := by decide +kernel
theorem dX5_odds_56 : decode cX5_odds 56 = .ok (.ifCond .eq 7, 3) := by decide +kernel
theorem dX5_odds_59 : decode cX5_odds 59 = .ok (.iconst 0, 1) := by decide +kernel
theorem dX5_odds_60 : decode cX5_odds 60 = .ok (.goto 4, 3) := by decide +kernel
theorem dX5_odds_63 : decode cX5_odds 63 = .ok (.iconst 1, 1) := by decide +kernel
theorem dX5_odds_64 : decode cX5_odds 64 = .ok (.iadd, 1) := by decide +kernel
theorem dX5_odds_65 : decode cX5_odds 65 = .ok (.istore 4, 2) := by decide +kernel
theorem dX5_odds_67 : decode cX5_odds 67 = .ok (.iinc 5 1, 3) := by decide +kernel
theorem dX5_odds_70 : decode cX5_odds 70 = .ok (.goto (-30), 3) := by decide +kernel
theorem dX5_odds_73 : decode cX5_odds 73 = .ok (.lconst 1, 1) := by decide +kernel
theorem dX5_odds_74 : decode cX5_odds 74 = .ok (.lstore 5, 2) := by decide +kernel
theorem dX5_odds_76 : decode cX5_odds 76 = .ok (.lconst 1, 1) := by decide +kernel
theorem dX5_odds_77 : decode cX5_odds 77 = .ok (.lstore 7, 2) := by decide +kernel
theorem dX5_odds_79 : decode cX5_odds 79 = .ok (.iconst 0, 1) := by decide +kernel
theorem dX5_odds_80 : decode cX5_odds 80 = .ok (.istore 9, 2) := by decide +kernel
theorem dX5_odds_82 : decode cX5_odds 82 = .ok (.iload 9, 2) := by decide +kernel
theorem dX5_odds_84 : decode cX5_odds 84 = .ok (.iload_n 2, 1) := by decide +kernel
theorem dX5_odds_85 : decode cX5_odds 85 = .ok (.if_icmp .ge 25, 3) := by decide +kernel
theorem dX5_odds_88 : decode cX5_odds 88 = .ok (.lload 5, 2) := by decide +kernel
theorem dX5_odds_90 : decode cX5_odds 90 = .ok (.iload 4, 2) := by decide +kernel
theorem dX5_odds_92 : decode cX5_odds 92 = .ok (.i2l, 1) := by decide +kernel
theorem dX5_odds_93 : decode cX5_odds 93 = .ok (.lmul, 1) := by decide +kernel
theorem dX5_odds_94 : decode cX5_odds 94 = .ok (.lstore 5, 2) := by decide +kernel
theorem dX5_odds_96 : decode cX5_odds 96 = .ok (.lload 7, 2) := by decide +kernel
theorem dX5_odds_98 : decode cX5_odds 98 = .ok (.ldc2_w 175, 3) := by decide +kernel
theorem dX5_odds_101 : decode cX5_odds 101 = .ok (.lmul, 1) := by decide +kernel
theorem dX5_odds_102 : decode cX5_odds 102 = .ok (.lstore 7, 2) := by decide +kernel
theorem dX5_odds_104 : decode cX5_odds 104 = .ok (.iinc 9 1, 3) := by decide +kernel
theorem dX5_odds_107 : decode cX5_odds 107 = .ok (.goto (-25), 3) := by decide +kernel
theorem dX5_odds_110 : decode cX5_odds 110 = .ok (.lload 5, 2) := by decide +kernel
theorem dX5_odds_112 : decode cX5_odds 112 = .ok (.lstore 9, 2) := by decide +kernel
theorem dX5_odds_114 : decode cX5_odds 114 = .ok (.lload 7, 2) := by decide +kernel
theorem dX5_odds_116 : decode cX5_odds 116 = .ok (.lstore 11, 2) := by decide +kernel
theorem dX5_odds_118 : decode cX5_odds 118 = .ok (.lload 11, 2) := by decide +kernel
theorem dX5_odds_120 : decode cX5_odds 120 = .ok (.lconst 0, 1) := by decide +kernel
theorem dX5_odds_121 : decode cX5_odds 121 = .ok (.lcmp, 1) := by decide +kernel
theorem dX5_odds_122 : decode cX5_odds 122 = .ok (.ifCond .eq 21, 3) := by decide +kernel
theorem dX5_odds_125 : decode cX5_odds 125 = .ok (.lload 9, 2) := by decide +kernel
theorem dX5_odds_127 : decode cX5_odds 127 = .ok (.lload 11, 2) := by decide +kernel
theorem dX5_odds_129 : decode cX5_odds 129 = .ok (.lrem, 1) := by decide +kernel
theorem dX5_odds_130 : decode cX5_odds 130 = .ok (.lstore 13, 2) := by decide +kernel
theorem dX5_odds_132 : decode cX5_odds 132 = .ok (.lload 11, 2) := by decide +kernel
theorem dX5_odds_134 : decode cX5_odds 134 = .ok (.lstore 9, 2) := by decide +kernel
theorem dX5_odds_136 : decode cX5_odds 136 = .ok (.lload 13, 2) := by decide +kernel
theorem dX5_odds_138 : decode cX5_odds 138 = .ok (.lstore 11, 2) := by decide +kernel
theorem dX5_odds_140 : decode cX5_odds 140 = .ok (.goto (-22), 3) := by decide +kernel
theorem dX5_odds_143 : decode cX5_odds 143 = .ok (.iload_n 3, 1) := by decide +kernel
theorem dX5_odds_144 : decode cX5_odds 144 = .ok (.ifCond .ne 11, 3) := by decide +kernel
theorem dX5_odds_147 : decode cX5_odds 147 = .ok (.lload 5, 2) := by decide +kernel
theorem dX5_odds_149 : decode cX5_odds 149 = .ok (.lload 9, 2) := by decide +kernel
theorem dX5_odds_151 : decode cX5_odds 151 = .ok (.ldiv, 1) := by decide +kernel
theorem dX5_odds_152 : decode cX5_odds 152 = .ok (.goto 8, 3) := by decide +kernel
theorem dX5_odds_155 : decode cX5_odds 155 = .ok (.lload 7, 2) := by decide +kernel
theorem dX5_odds_157 : decode cX5_odds 157 = .ok (.lload 9, 2) := by decide +kernel
theorem dX5_odds_159 : decode cX5_odds 159 = .ok (.ldiv, 1) := by decide +kernel
theorem dX5_odds_160 : decode cX5_odds 160 = .ok (.lreturn, 1) := by decide +kernel
set_option maxRecDepth 20000 in
set_option maxHeartbeats 4000000 in
theorem l_X5_odds3 {K : Cx} {k n r : Nat} {w : Int32} {m : TM} (hn : n ≤ 13) (hr : r < 22) : ∀ (fu : Nat) (B A : Nat), B < fu → A < 2 ^ 63 → B < 2 ^ 63 → Nat.gcd A B = Nat.gcd (r ^ n) (21 ^ n) → XX RX5 cX5_odds 15 (some .long) 2 47 K 118 [some (.ref 49), some (.int (nI k)), some (.int (nI n)), some (.int w), some (.int (nI r)), some (.long (lI (r ^ n))), none, some (.long (lI (21 ^ n))), none, some (.long (lI A)), none, some (.long (lI B)), none, none, none] [] (m) (fun r1 m1 => r1 = (some (.long (lI (odN r n w)))) ∧ m1 = m) := by
  intro fu
  induction fu with
  | zero => intro B A hlt; exact absurd hlt (Nat.not_lt_zero _)
  | succ fu ih =>
    intro B A hlt hA hB hG
    refine x_lload (q := 120) dX5_odds_118 rfl rfl ?_
    refine x_lconst (q := 121) (v := 0) dX5_odds_120 rfl (by decide) ?_
    refine x_lcmp (q := 122) dX5_odds_121 rfl ?_
    refine x_if_eq (q := 125) (t := 143) dX5_odds_122 rfl (by decide) (fun h122 => ?_) (fun h122 => ?_)
    · obtain rfl := (lI_0 hB).mp ((lg_cmp_eq _ _).mp h122)
      rw [Nat.gcd_zero_right] at hG
      subst hG
      obtain ⟨o1, o2, o3, o4, o5, o6⟩ := od_eq r hr n (by omega)
      have hg0 : ¬ lI (Nat.gcd (r ^ n) (21 ^ n)) = 0 := fun q => absurd ((lI_0 hA).mp q) (by omega)
      refine x_iload_n (q := 144) dX5_odds_143 rfl rfl ?_
      refine x_if_ne (q := 147) (t := 155) dX5_odds_144 rfl (by decide) (fun h144 => ?_) (fun h144 => ?_)
      · refine x_lload (q := 157) dX5_odds_155 rfl rfl ?_
        refine x_lload (q := 159) dX5_odds_157 rfl rfl ?_
        refine x_ldiv (q := 160) dX5_odds_159 rfl hg0 ?_
        refine x_lreturn dX5_odds_160 rfl ?_
        rw [lI_div o5 o6 o3]
        exact ⟨by unfold odN; rw [if_neg h144, o2], rfl⟩
      refine x_lload (q := 149) dX5_odds_147 rfl rfl ?_
      refine x_lload (q := 151) dX5_odds_149 rfl rfl ?_
      refine x_ldiv (q := 152) dX5_odds_151 rfl hg0 ?_
      refine x_goto (q := 160) dX5_odds_152 (by decide) ?_
      refine x_lreturn dX5_odds_160 rfl ?_
      rw [lI_div o4 o6 o3]
      exact ⟨by unfold odN; rw [if_pos h144, o1], rfl⟩
    have hB0 : ¬ B = 0 := fun q => h122 ((lg_cmp_eq _ _).mpr ((lI_0 hB).mpr q))
    have e1 := lI_rem hA hB (by omega)
    refine x_lload (q := 127) dX5_odds_125 rfl rfl ?_
    refine x_lload (q := 129) dX5_odds_127 rfl rfl ?_
    refine x_lrem (q := 130) dX5_odds_129 rfl (fun q => hB0 ((lI_0 hB).mp q)) ?_
    rw [e1]
    refine x_lstore (q := 132) dX5_odds_130 rfl (by decide) rfl rfl ?_
    refine x_lload (q := 134) dX5_odds_132 rfl rfl ?_
    refine x_lstore (q := 136) dX5_odds_134 rfl (by decide) rfl rfl ?_
    refine x_lload (q := 138) dX5_odds_136 rfl rfl ?_
    refine x_lstore (q := 140) dX5_odds_138 rfl (by decide) rfl rfl ?_
    refine x_goto (q := 118) dX5_odds_140 (by decide) ?_
    exact x_ls (ih (A % B) B (Nat.lt_of_lt_of_le (Nat.mod_lt A (by omega)) (by omega)) hB (Nat.lt_trans (Nat.mod_lt A (by omega)) hB) (by rw [← hG, Nat.gcd_comm B, ← Nat.gcd_rec, Nat.gcd_comm])) (And.intro rfl (And.intro rfl (And.intro rfl (And.intro rfl (And.intro rfl (And.intro rfl (And.intro rfl (And.intro rfl (And.intro rfl trivial)))))))))
set_option maxRecDepth 20000 in
set_option maxHeartbeats 4000000 in
theorem l_X5_odds2 {K : Cx} {k n r : Nat} {w : Int32} {m : TM} (hn : n ≤ 13) (hr : r < 22) : ∀ (fu : Nat) (j : Nat), n - j < fu → j ≤ n → XX RX5 cX5_odds 15 (some .long) 2 47 K 82 [some (.ref 49), some (.int (nI k)), some (.int (nI n)), some (.int w), some (.int (nI r)), some (.long (lI (r ^ j))), none, some (.long (lI (21 ^ j))), none, some (.int (nI j)), none, none, none, none, none] [] (m) (fun r1 m1 => r1 = (some (.long (lI (odN r n w)))) ∧ m1 = m) := by
  intro fu
  induction fu with
  | zero => intro j hlt; exact absurd hlt (Nat.not_lt_zero _)
  | succ fu ih =>
    intro j hlt hj
    refine x_iload (q := 84) dX5_odds_82 rfl rfl ?_
    refine x_iload_n (q := 85) dX5_odds_84 rfl rfl ?_
    refine x_icmp_ge (q := 88) (t := 110) dX5_odds_85 rfl (by decide) (fun h85 => ?_) (fun h85 => ?_)
    · have e : j = n := Nat.le_antisymm hj (lp_stop rfl (by omega) (by omega) h85)
      subst e
      obtain ⟨o1, o2, o3, o4, o5, o6⟩ := od_eq r hr j (by omega)
      refine x_lload (q := 112) dX5_odds_110 rfl rfl ?_
      refine x_lstore (q := 114) dX5_odds_112 rfl (by decide) rfl rfl ?_
      refine x_lload (q := 116) dX5_odds_114 rfl rfl ?_
      refine x_lstore (q := 118) dX5_odds_116 rfl (by decide) rfl rfl ?_
      exact x_ls (l_X5_odds3 (K := K) (m := m) hn hr _ _ _ (Nat.lt_succ_self _) o4 o5 rfl) (And.intro rfl (And.intro rfl (And.intro rfl (And.intro rfl (And.intro rfl (And.intro rfl (And.intro rfl (And.intro rfl (And.intro rfl trivial)))))))))
    have hjn : j < n := lp_go rfl (by omega) (by omega) h85
    refine x_lload (q := 90) dX5_odds_88 rfl rfl ?_
    refine x_iload (q := 92) dX5_odds_90 rfl rfl ?_
    refine x_i2l (q := 93) dX5_odds_92 rfl ?_
    rw [nI_lI (by omega)]
    refine x_lmul (q := 94) dX5_odds_93 rfl ?_
    refine x_lstore (q := 96) dX5_odds_94 rfl (by decide) rfl rfl ?_
    refine x_lload (q := 98) dX5_odds_96 rfl rfl ?_
    refine x_ldc2 (q := 101) dX5_odds_98 rfl kl_X5_175 ?_
    refine x_lmul (q := 102) dX5_odds_101 rfl ?_
    refine x_lstore (q := 104) dX5_odds_102 rfl (by decide) rfl rfl ?_
    refine x_iinc (q := 107) (v := nI (j + 1)) dX5_odds_104 rfl rfl (jnI_s j) (by decide) rfl rfl ?_
    refine x_goto (q := 82) dX5_odds_107 (by decide) ?_
    have h := ih (j + 1) (by omega) (by omega)
    rw [lI_mul, ← Nat.pow_succ, show (21 : Int64) = lI 21 from rfl, lI_mul, ← Nat.pow_succ]
    exact h
set_option maxRecDepth 20000 in
set_option maxHeartbeats 4000000 in
theorem l_X5_odds1 {K : Cx} {k n : Nat} {w : Int32} {m : TM} (hn : n ≤ 13) (hk8 : k < 8) : ∀ (fu : Nat) (j : Nat), 21 - j < fu → j ≤ 21 → XX RX5 cX5_odds 15 (some .long) 2 47 K 40 [some (.ref 49), some (.int (nI k)), some (.int (nI n)), some (.int w), some (.int (nI (rfN (fun t => sg (m.1 50 (12 + 7 * k + 0)) (m.1 50 (12 + 7 * k + 1)) (m.1 50 (12 + 7 * k + 2)) (m.1 50 (12 + 7 * k + 6)) (m.1 50 0) (nI t)) j))), some (.int (nI j)), none, none, none, none, none, none, none, none, none] [] (m) (fun r1 m1 => r1 = (some (.long (lI (odN (rfN (fun t => sg (m.1 50 (12 + 7 * k + 0)) (m.1 50 (12 + 7 * k + 1)) (m.1 50 (12 + 7 * k + 2)) (m.1 50 (12 + 7 * k + 6)) (m.1 50 0) (nI t)) 21) n w)))) ∧ m1 = m) := by
  intro fu
  induction fu with
  | zero => intro j hlt; exact absurd hlt (Nat.not_lt_zero _)
  | succ fu ih =>
    intro j hlt hj
    refine x_iload (q := 42) dX5_odds_40 rfl rfl ?_
    refine x_bipush (q := 44) (v := 20) dX5_odds_42 rfl (by decide) ?_
    refine x_icmp_gt (q := 47) (t := 73) dX5_odds_44 rfl (by decide) (fun h44 => ?_) (fun h44 => ?_)
    · have e21 : j = 21 := by
        have h9 : 20 < j := (jnI_lt (by decide) (by omega)).mp h44
        omega
      subst e21
      refine x_lconst (q := 74) (v := 1) dX5_odds_73 rfl (by decide) ?_
      refine x_lstore (q := 76) dX5_odds_74 rfl (by decide) rfl rfl ?_
      refine x_lconst (q := 77) (v := 1) dX5_odds_76 rfl (by decide) ?_
      refine x_lstore (q := 79) dX5_odds_77 rfl (by decide) rfl rfl ?_
      refine x_iconst (q := 80) (v := 0) dX5_odds_79 rfl (by decide) ?_
      refine x_istore (q := 82) dX5_odds_80 rfl (by decide) rfl rfl ?_
      exact x_ls (l_X5_odds2 (K := K) (m := m) hn (Nat.lt_succ_of_le (rfN_le _ 21)) (n + 1) 0 (by omega) (by omega)) (And.intro rfl (And.intro rfl (And.intro rfl (And.intro rfl (And.intro rfl (And.intro rfl (And.intro rfl (And.intro rfl trivial))))))))
    have hj20 : j < 21 := by
      have h9 : ¬ 20 < j := fun q => h44 ((jnI_lt (by decide) (by omega)).mpr q)
      omega
    refine x_iload (q := 49) dX5_odds_47 rfl rfl ?_
    refine x_aload_n (q := 50) dX5_odds_49 rfl rfl ?_
    refine x_iload_n (q := 51) dX5_odds_50 rfl rfl ?_
    refine x_iload (q := 53) dX5_odds_51 rfl rfl ?_
    refine x_callV2v (q := 56) dX5_odds_53 rfl ml_X5_56 mv_X5_isSigned rv5 rfl (p_X5_isSigned hk8) (Nat.le_of_ble_eq_true rfl) ⟨by decide, by decide⟩ ?_
    refine x_ifB_eq (q := 59) (t := 63) dX5_odds_56 rfl (by decide) (fun h56 => ?_) (fun h56 => ?_)
    · refine x_iconst (q := 64) (v := 1) dX5_odds_63 rfl (by decide) ?_
      refine x_iadd (q := 65) dX5_odds_64 rfl ?_
      refine x_istore (q := 67) dX5_odds_65 rfl (by decide) rfl rfl ?_
      refine x_iinc (q := 70) (v := nI (j + 1)) dX5_odds_67 rfl rfl (jnI_s j) (by decide) rfl rfl ?_
      refine x_goto (q := 40) dX5_odds_70 (by decide) ?_
      have er : rfN (fun t => sg (m.1 50 (12 + 7 * k + 0)) (m.1 50 (12 + 7 * k + 1)) (m.1 50 (12 + 7 * k + 2)) (m.1 50 (12 + 7 * k + 6)) (m.1 50 0) (nI t)) (j + 1) = rfN (fun t => sg (m.1 50 (12 + 7 * k + 0)) (m.1 50 (12 + 7 * k + 1)) (m.1 50 (12 + 7 * k + 2)) (m.1 50 (12 + 7 * k + 6)) (m.1 50 0) (nI t)) j + 1 := by
        show (if sg (m.1 50 (12 + 7 * k + 0)) (m.1 50 (12 + 7 * k + 1)) (m.1 50 (12 + 7 * k + 2)) (m.1 50 (12 + 7 * k + 6)) (m.1 50 0) (nI j) = true then _ else _) = _
        rw [if_neg (by rw [h56]; decide)]
      have h := ih (j + 1) (by omega) (by omega)
      rw [er] at h
      rw [nI_a1]
      exact x_ls h (And.intro rfl (And.intro rfl (And.intro rfl (And.intro rfl (And.intro rfl (And.intro rfl trivial))))))
    refine x_iconst (q := 60) (v := 0) dX5_odds_59 rfl (by decide) ?_
    refine x_goto (q := 64) dX5_odds_60 (by decide) ?_
    refine x_iadd (q := 65) dX5_odds_64 rfl ?_
    refine x_istore (q := 67) dX5_odds_65 rfl (by decide) rfl rfl ?_
    refine x_iinc (q := 70) (v := nI (j + 1)) dX5_odds_67 rfl rfl (jnI_s j) (by decide) rfl rfl ?_
    refine x_goto (q := 40) dX5_odds_70 (by decide) ?_
    have er : rfN (fun t => sg (m.1 50 (12 + 7 * k + 0)) (m.1 50 (12 + 7 * k + 1)) (m.1 50 (12 + 7 * k + 2)) (m.1 50 (12 + 7 * k + 6)) (m.1 50 0) (nI t)) (j + 1) = rfN (fun t => sg (m.1 50 (12 + 7 * k + 0)) (m.1 50 (12 + 7 * k + 1)) (m.1 50 (12 + 7 * k + 2)) (m.1 50 (12 + 7 * k + 6)) (m.1 50 0) (nI t)) j := by
      show (if sg (m.1 50 (12 + 7 * k + 0)) (m.1 50 (12 + 7 * k + 1)) (m.1 50 (12 + 7 * k + 2)) (m.1 50 (12 + 7 * k + 6)) (m.1 50 0) (nI j) = true then _ else _) = _
      rw [if_pos h56]
    have h := ih (j + 1) (by omega) (by omega)
    rw [er] at h
    rw [Int32.add_zero]
    exact x_ls h (And.intro rfl (And.intro rfl (And.intro rfl (And.intro rfl (And.intro rfl (And.intro rfl trivial))))))
set_option maxRecDepth 20000 in
set_option maxHeartbeats 4000000 in
theorem c_X5_oddsB {K : Cx} {p n w : Int32} {m : TM} (hb : (outI p 0 (m.1 50 1 - 1) || outI n 0 13 || outI w 0 1) = true) : CT yX5_odds cX5_odds 15 (some .long) 2 47 K [.ref 49, .int p, .int n, .int w] (m) (some (.long ((-1000001 : Int32).toInt64))) (fnm m 0) := by
  refine ct_ofd (n := 11) (by decide +kernel) rfl rfl ?_
  show XX RX5 cX5_odds 15 (some .long) 2 47 K 0 [some (.ref 49), some (.int p), some (.int n), some (.int w), none, none, none, none, none, none, none, none, none, none, none] [] (m) (fun r1 m1 => r1 = (some (.long ((-1000001 : Int32).toInt64))) ∧ m1 = fnm m 0)
  refine x_aload_n (q := 1) dX5_odds_0 rfl rfl ?_
  refine x_iload_n (q := 2) dX5_odds_1 rfl rfl ?_
  refine x_callV1v (q := 5) dX5_odds_2 rfl ml_X5_109 mv_X5_isParcel rv5 rfl c_X5_isParcel (Nat.le_of_ble_eq_true rfl) ⟨by decide, by decide⟩ ?_
  refine x_ifB_eq (q := 8) (t := 27) dX5_odds_5 rfl (by decide) (fun h5 => ?_) (fun h5 => ?_)
  · replace h5 := in_f h5
    refine x_aload_n (q := 28) dX5_odds_27 rfl rfl ?_
    refine x_iconst (q := 29) (v := 0) dX5_odds_28 rfl (by decide) ?_
    refine x_callV1v (q := 32) dX5_odds_29 rfl ml_X5_103 mv_X5_no rv5 rfl (c_X5_nox (w := 0) (x := -1000001) (by decide) (by decide)) (Nat.le_of_ble_eq_true rfl) ⟨by decide, by decide⟩ ?_
    refine x_i2l (q := 33) dX5_odds_32 rfl ?_
    refine x_lreturn dX5_odds_33 rfl ?_
    exact ⟨rfl, rfl⟩
  replace h5 := in_t h5
  refine x_iload_n (q := 9) dX5_odds_8 rfl rfl ?_
  refine x_iconst (q := 10) (v := 0) dX5_odds_9 rfl (by decide) ?_
  refine x_bipush (q := 12) (v := 13) dX5_odds_10 rfl (by decide) ?_
  refine x_callS3v (q := 15) dX5_odds_12 rfl ml_X5_48 ms_X5_in1 c_X5_in1 (Nat.le_of_ble_eq_true rfl) ⟨by decide, by decide⟩ ?_
  refine x_ifB_eq (q := 18) (t := 27) dX5_odds_15 rfl (by decide) (fun h15 => ?_) (fun h15 => ?_)
  · replace h15 := in_f h15
    refine x_aload_n (q := 28) dX5_odds_27 rfl rfl ?_
    refine x_iconst (q := 29) (v := 0) dX5_odds_28 rfl (by decide) ?_
    refine x_callV1v (q := 32) dX5_odds_29 rfl ml_X5_103 mv_X5_no rv5 rfl (c_X5_nox (w := 0) (x := -1000001) (by decide) (by decide)) (Nat.le_of_ble_eq_true rfl) ⟨by decide, by decide⟩ ?_
    refine x_i2l (q := 33) dX5_odds_32 rfl ?_
    refine x_lreturn dX5_odds_33 rfl ?_
    exact ⟨rfl, rfl⟩
  replace h15 := in_t h15
  refine x_iload_n (q := 19) dX5_odds_18 rfl rfl ?_
  refine x_iconst (q := 20) (v := 0) dX5_odds_19 rfl (by decide) ?_
  refine x_iconst (q := 21) (v := 1) dX5_odds_20 rfl (by decide) ?_
  refine x_callS3v (q := 24) dX5_odds_21 rfl ml_X5_48 ms_X5_in1 c_X5_in1 (Nat.le_of_ble_eq_true rfl) ⟨by decide, by decide⟩ ?_
  refine x_ifB_ne (q := 27) (t := 34) dX5_odds_24 rfl (by decide) (fun h24 => ?_) (fun h24 => ?_)
  · replace h24 := in_t h24
    exact absurd hb (by simp [h5, h15, h24])
  replace h24 := in_f h24
  refine x_aload_n (q := 28) dX5_odds_27 rfl rfl ?_
  refine x_iconst (q := 29) (v := 0) dX5_odds_28 rfl (by decide) ?_
  refine x_callV1v (q := 32) dX5_odds_29 rfl ml_X5_103 mv_X5_no rv5 rfl (c_X5_nox (w := 0) (x := -1000001) (by decide) (by decide)) (Nat.le_of_ble_eq_true rfl) ⟨by decide, by decide⟩ ?_
  refine x_i2l (q := 33) dX5_odds_32 rfl ?_
  refine x_lreturn dX5_odds_33 rfl ?_
  exact ⟨rfl, rfl⟩
set_option maxRecDepth 20000 in
set_option maxHeartbeats 4000000 in
theorem c_X5_odds {K : Cx} {k n8 n : Nat} {w : Int32} {m : TM} (hI : Iv n8 (m.1 50)) (hk : k < n8) (hn : n ≤ 13) (hw : outI w 0 1 = false) : CT yX5_odds cX5_odds 15 (some .long) 2 47 K [.ref 49, .int (nI k), .int (nI n), .int w] (m) (some (.long (lI (odN (rfN (fun t => sg (m.1 50 (12 + 7 * k + 0)) (m.1 50 (12 + 7 * k + 1)) (m.1 50 (12 + 7 * k + 2)) (m.1 50 (12 + 7 * k + 6)) (m.1 50 0) (nI t)) 21) n w)))) (m) := by
  refine ct_ofd (n := 11) (by decide +kernel) rfl rfl ?_
  show XX RX5 cX5_odds 15 (some .long) 2 47 K 0 [some (.ref 49), some (.int (nI k)), some (.int (nI n)), some (.int w), none, none, none, none, none, none, none, none, none, none, none] [] (m) (fun r1 m1 => r1 = (some (.long (lI (odN (rfN (fun t => sg (m.1 50 (12 + 7 * k + 0)) (m.1 50 (12 + 7 * k + 1)) (m.1 50 (12 + 7 * k + 2)) (m.1 50 (12 + 7 * k + 6)) (m.1 50 0) (nI t)) 21) n w)))) ∧ m1 = m)
  refine x_aload_n (q := 1) dX5_odds_0 rfl rfl ?_
  refine x_iload_n (q := 2) dX5_odds_1 rfl rfl ?_
  refine x_callV1v (q := 5) dX5_odds_2 rfl ml_X5_109 mv_X5_isParcel rv5 rfl c_X5_isParcel (Nat.le_of_ble_eq_true rfl) ⟨by decide, by decide⟩ ?_
  refine x_ifB_eq (q := 8) (t := 27) dX5_odds_5 rfl (by decide) (fun h5 => ?_) (fun h5 => ?_)
  · replace h5 := in_f h5
    exact absurd (par_in hI.2.1 hI.1 hk) (by rw [h5]; decide)
  replace h5 := in_t h5
  refine x_iload_n (q := 9) dX5_odds_8 rfl rfl ?_
  refine x_iconst (q := 10) (v := 0) dX5_odds_9 rfl (by decide) ?_
  refine x_bipush (q := 12) (v := 13) dX5_odds_10 rfl (by decide) ?_
  refine x_callS3v (q := 15) dX5_odds_12 rfl ml_X5_48 ms_X5_in1 c_X5_in1 (Nat.le_of_ble_eq_true rfl) ⟨by decide, by decide⟩ ?_
  refine x_ifB_eq (q := 18) (t := 27) dX5_odds_15 rfl (by decide) (fun h15 => ?_) (fun h15 => ?_)
  · replace h15 := in_f h15
    exact absurd (show outI (nI n) 0 13 = false from rng_in (c := n) (a := 0) (b := 13) (Nat.zero_le _) hn (by decide)) (by rw [h15]; decide)
  replace h15 := in_t h15
  refine x_iload_n (q := 19) dX5_odds_18 rfl rfl ?_
  refine x_iconst (q := 20) (v := 0) dX5_odds_19 rfl (by decide) ?_
  refine x_iconst (q := 21) (v := 1) dX5_odds_20 rfl (by decide) ?_
  refine x_callS3v (q := 24) dX5_odds_21 rfl ml_X5_48 ms_X5_in1 c_X5_in1 (Nat.le_of_ble_eq_true rfl) ⟨by decide, by decide⟩ ?_
  refine x_ifB_ne (q := 27) (t := 34) dX5_odds_24 rfl (by decide) (fun h24 => ?_) (fun h24 => ?_)
  · replace h24 := in_t h24
    refine x_iconst (q := 35) (v := 0) dX5_odds_34 rfl (by decide) ?_
    refine x_istore (q := 37) dX5_odds_35 rfl (by decide) rfl rfl ?_
    refine x_iconst (q := 38) (v := 0) dX5_odds_37 rfl (by decide) ?_
    refine x_istore (q := 40) dX5_odds_38 rfl (by decide) rfl rfl ?_
    have hk8 : k < 8 := by have := hI.1; omega
    exact x_ls (l_X5_odds1 hn hk8 22 0 (by omega) (by omega)) (And.intro rfl (And.intro rfl (And.intro rfl (And.intro rfl (And.intro rfl (And.intro rfl trivial))))))
  replace h24 := in_f h24
  exact absurd hw (by rw [h24]; decide)
