/-! the words of the reference -/
def ltL : List Int32 := [112, 97, 114, 99, 101, 108, 32, 32, 32, 32, 108, 101, 116, 116, 101, 114, 32, 32, 32, 32, 99, 114, 97, 116, 101, 32, 32, 32, 32, 32, 99, 108, 111, 99, 107, 32, 32, 32, 32, 32, 98, 114, 105, 100, 101, 32, 32, 32, 32, 32, 115, 111, 99, 107, 115, 32, 32, 32, 32, 32, 114, 101, 103, 105, 115, 116, 101, 114, 101, 100]
def moL : List Int32 := [111, 110, 32, 32, 32, 32, 32, 32, 32, 32, 119, 101, 105, 103, 104, 115, 32, 32, 32, 32, 119, 97, 105, 116, 115, 32, 32, 32, 32, 32, 104, 101, 108, 100, 32, 32, 32, 32, 32, 32]
def otL : List Int32 := [116, 105, 100, 101, 32, 32, 32, 32, 32, 32, 115, 116, 111, 114, 109, 32, 32, 32, 32, 32]
/-- the value of a word of ten letters in a row -/
def bvF (f : Nat → Int32) (w : Nat) : Nat → Nat
  | 0 => 0
  | k + 1 => if f (10 * w + k) = 32 then bvF f w k else bvF f w k * 27 + (cl (f (10 * w + k)) - 96)
def bvP (k : Nat) : Nat → Nat
  | 0 => 0
  | n + 1 => bvP k n * 27 + (cl (sB k n) - 96)
def cvP (w : Nat → Int32) (j : Nat) : Nat → Nat
  | 0 => 0
  | n + 1 => cnF (cvP w j n) (w (j + n))
theorem sB_let : ∀ k, k < 13 → ∀ i, i < sL k → 97 ≤ cl (sB k i) ∧ cl (sB k i) ≤ 122 ∧ sB k i = nI (cl (sB k i)) := by decide +kernel
theorem bvP_le : ∀ k, k < 13 → ∀ n, n ≤ sL k → bvP k n ≤ 999999999999999 := by decide +kernel
theorem cv_iff {w : Nat → Int32} {j k : Nat} (hk : k < 13) : ∀ n p, p ≤ sL k → (∀ i, i < n → sob (w (j + i)) = 1) → (cvP w j n = bvP k p ↔ n = p ∧ ∀ i, i < n → w (j + i) = sB k i) := by
  intro n
  induction n with
  | zero =>
    intro p hp _
    cases p with
    | zero => exact ⟨fun _ => ⟨rfl, fun i hi => absurd hi (Nat.not_lt_zero _)⟩, fun _ => rfl⟩
    | succ p =>
      have h := sB_let k hk p (by omega)
      refine ⟨fun q => ?_, fun q => absurd q.1 (by omega)⟩
      have q2 : 0 = bvP k p * 27 + (cl (sB k p) - 96) := q
      omega
  | succ n ih =>
    intro p hp hl
    have hs := sob_let (hl n (by omega))
    have hu : cvP w j (n + 1) = cnF (cvP w j n) (w (j + n)) := rfl
    rw [hu]
    unfold cnF
    cases p with
    | zero =>
      refine ⟨fun q => ?_, fun q => absurd q.1 (by omega)⟩
      have q2 : (if cvP w j n ≤ 999999999999999 then cvP w j n * 27 + (cl (w (j + n)) - 96) else cvP w j n) = 0 := q
      split at q2 <;> omega
    | succ p =>
      have h := sB_let k hk p (by omega)
      have hb := bvP_le k hk p (by omega)
      have hb2 := bvP_le k hk (p + 1) hp
      have e2 : bvP k (p + 1) = bvP k p * 27 + (cl (sB k p) - 96) := rfl
      have ihp := ih p (by omega) (fun i hi => hl i (by omega))
      constructor
      · intro q
        split at q
        · have c1 : cvP w j n = bvP k p := by omega
          have c2 : cl (w (j + n)) = cl (sB k p) := by omega
          obtain ⟨d1, d2⟩ := ihp.mp c1
          subst d1
          refine ⟨rfl, fun i hi => ?_⟩
          by_cases e : i = n
          · rw [e, hs.2.2, h.2.2, c2]
          · exact d2 i (by omega)
        · omega
      · rintro ⟨q1, q2⟩
        have q3 : n = p := by omega
        subst q3
        have c1 := ihp.mpr ⟨rfl, fun i hi => q2 i (by omega)⟩
        have c2 := q2 n (by omega)
        rw [if_pos (by omega), c1, c2]
        rfl
theorem rn_all {L : Nat} {w : Nat → Int32} {s : Int32} : ∀ f e i, e ≤ i → i < rnF L w s f e → soF L w i = s
  | 0, e, i, h1, h2 => absurd (Nat.lt_of_le_of_lt h1 h2) (Nat.lt_irrefl _)
  | f + 1, e, i, h1, h2 => by
    unfold rnF at h2
    by_cases q : soF L w e = s
    · rw [if_pos q] at h2
      by_cases e2 : i = e
      · rw [e2]; exact q
      · exact rn_all f (e + 1) i (by omega) h2
    · rw [if_neg q] at h2
      omega
theorem cv_rn {L j : Nat} {w : Nat → Int32} : ∀ f n, cvF L w f (j + n) (cvP w j n) = cvP w j (rnF L w 1 f (j + n) - j)
  | 0, n => by
    show cvP w j n = cvP w j (j + n - j)
    rw [Nat.add_sub_cancel_left]
  | f + 1, n => by
    unfold cvF rnF
    by_cases q : soF L w (j + n) = 1
    · rw [if_pos q, if_pos q]
      exact cv_rn f (n + 1)
    · rw [if_neg q, if_neg q, Nat.add_sub_cancel_left]
theorem wv_is {L j k : Nat} {w : Nat → Int32} (hk : k < 13) (hs : soF L w j = 1) : wvF L w j = bvP k (sL k) ↔ isW L w j k = true := by
  have hen : enF L w j = rnF L w 1 (L - j) j := by unfold enF; rw [if_pos (Or.inl hs), hs]
  have e1 : wvF L w j = cvP w j (enF L w j - j) := by
    rw [hen]
    exact cv_rn (L - j) 0
  have hall : ∀ i, i < enF L w j - j → sob (w (j + i)) = 1 := by
    intro i hi
    have h := rn_all (L - j) j (j + i) (by omega) (by rw [← hen]; omega)
    have hl := soF_lt (L := L) (w := w) (e := j + i) (by rw [h]; decide)
    rw [← soF_in hl]
    exact h
  rw [e1, cv_iff hk _ _ (Nat.le_refl _) hall]
  unfold isW
  rw [decide_eq_true_iff, rl_iff hk]
  constructor
  · rintro ⟨q1, q2⟩
    exact ⟨hs, q1, fun i hi => q2 i (by omega)⟩
  · rintro ⟨_, q1, q2⟩
    exact ⟨q1, fun i hi => q2 i (by omega)⟩
theorem sByt_inj : ∀ k, k < 13 → ∀ k2, k2 < 13 → sByt.getD k [] = sByt.getD k2 [] → k = k2 := by decide +kernel
theorem isW_one {L j k k2 : Nat} {w : Nat → Int32} (hk : k < 13) (hk2 : k2 < 13) (h : isW L w j k = true) (h2 : isW L w j k2 = true) : k = k2 :=
  sByt_inj k hk k2 hk2 ((of_decide_eq_true h).2.symm.trans (of_decide_eq_true h2).2)
/-- which of some words: the last that fits -/
def whF (P : Nat → Bool) : Nat → Int32
  | 0 => -1
  | w + 1 => if P w = true then nI w else whF P w
theorem whF_t {P : Nat → Bool} {w : Nat} (h : P w = true) : whF P (w + 1) = nI w := if_pos h
theorem whF_f {P : Nat → Bool} {w : Nat} (h : P w = false) : whF P (w + 1) = whF P w := if_neg (by rw [h]; decide)
theorem whF_congr {P Q : Nat → Bool} : ∀ n, (∀ i, i < n → P i = Q i) → whF P n = whF Q n
  | 0, _ => rfl
  | n + 1, h => by
    unfold whF
    rw [h n (by omega), whF_congr n (fun i hi => h i (by omega))]
theorem whF_cases (P : Nat → Bool) : ∀ n, (∃ c, c < n ∧ P c = true ∧ whF P n = nI c) ∨ ((∀ c, c < n → P c = false) ∧ whF P n = -1)
  | 0 => Or.inr ⟨fun c hc => absurd hc (Nat.not_lt_zero _), rfl⟩
  | n + 1 => by
    unfold whF
    cases e : P n with
    | true => rw [if_pos rfl]; exact Or.inl ⟨n, by omega, e, rfl⟩
    | false =>
      rw [if_neg Bool.false_ne_true]
      rcases whF_cases P n with ⟨c, h1, h2, h3⟩ | ⟨h1, h2⟩
      · exact Or.inl ⟨c, by omega, h2, h3⟩
      · refine Or.inr ⟨fun c hc => ?_, h2⟩
        by_cases q : c = n
        · rw [q]; exact e
        · exact h1 c (by omega)
theorem bvF_lt (f : Nat → Int32) (w : Nat) (h : ∀ k, k < 10 → f (10 * w + k) = 32 ∨ (97 ≤ cl (f (10 * w + k)) ∧ cl (f (10 * w + k)) ≤ 122)) : ∀ k, k ≤ 10 → bvF f w k < 27 ^ k
  | 0, _ => by
    show 0 < 27 ^ 0
    decide
  | k + 1, hk => by
    have h1 := bvF_lt f w h k (by omega)
    rw [Nat.pow_succ]
    unfold bvF
    split
    · omega
    · rename_i q
      rcases h k (by omega) with q2 | q2
      · exact absurd q2 q
      · omega
theorem bv_step {f : Nat → Int32} {w k : Nat} (hw : f (10 * w + k) = nI (cl (f (10 * w + k)))) (h1 : 97 ≤ cl (f (10 * w + k))) (h2 : cl (f (10 * w + k)) ≤ 122) {v : Nat} : lI v * 27 + (f (10 * w + k)).toInt64 - 96 = lI (v * 27 + (cl (f (10 * w + k)) - 96)) := by
  have h := cn_eq (v := v) (b := f (10 * w + k))
  rw [hw]
  rw [nI_lI (by omega)]
  have e1 : lI v * 27 = lI (v * 27) := lI_mul v 27
  have e3 : cl (nI (cl (f (10 * w + k)))) = cl (f (10 * w + k)) := jnI_clamp (by omega)
  have e2 : lI (cl (f (10 * w + k))) = lI (cl (f (10 * w + k)) - 96) + 96 := by
    have := lI_add (cl (f (10 * w + k)) - 96) 96
    rw [Nat.sub_add_cancel (by omega)] at this
    exact this.symm
  rw [e3, e1, e2, ← Int64.add_assoc, lI_add]
  exact Int64.add_sub_cancel ..
def OkC (f : Nat → Int32) (N : Nat) : Prop := ∀ i, i < N → f i = 32 ∨ (f i = nI (cl (f i)) ∧ 97 ≤ cl (f i) ∧ cl (f i) ≤ 122)
theorem ok_lt : ∀ i, i < 70 → ltL.getD i 0 = 32 ∨ (ltL.getD i 0 = nI (cl (ltL.getD i 0)) ∧ 97 ≤ cl (ltL.getD i 0) ∧ cl (ltL.getD i 0) ≤ 122) := by decide +kernel
theorem ok_mo : ∀ i, i < 40 → moL.getD i 0 = 32 ∨ (moL.getD i 0 = nI (cl (moL.getD i 0)) ∧ 97 ≤ cl (moL.getD i 0) ∧ cl (moL.getD i 0) ≤ 122) := by decide +kernel
theorem ok_ot : ∀ i, i < 20 → otL.getD i 0 = 32 ∨ (otL.getD i 0 = nI (cl (otL.getD i 0)) ∧ 97 ≤ cl (otL.getD i 0) ∧ cl (otL.getD i 0) ≤ 122) := by decide +kernel
theorem okC_of {f : Nat → Int32} {l : List Int32} {N : Nat} (h : ∀ i, i < N → f i = l.getD i 0) (ok : ∀ i, i < N → l.getD i 0 = 32 ∨ (l.getD i 0 = nI (cl (l.getD i 0)) ∧ 97 ≤ cl (l.getD i 0) ∧ cl (l.getD i 0) ≤ 122)) : OkC f N := fun i hi => by rw [h i hi]; exact ok i hi
theorem bvF_congr {f g : Nat → Int32} {w : Nat} : ∀ k, (∀ i, i < k → f (10 * w + i) = g (10 * w + i)) → bvF f w k = bvF g w k
  | 0, _ => rfl
  | k + 1, h => by
    unfold bvF
    rw [h k (by omega), bvF_congr k (fun i hi => h i (by omega))]
def wiM (w : Nat) : Nat := 9 + w
def wiL (w : Nat) : Nat := wdN (nI w)
def wiO (w : Nat) : Nat := w
theorem bv_lt : ∀ w, w < 7 → wiL w < 13 ∧ bvF (fun i => ltL.getD i 0) w 10 = bvP (wiL w) (sL (wiL w)) := by decide +kernel
theorem bv_mo : ∀ w, w < 4 → wiM w < 13 ∧ bvF (fun i => moL.getD i 0) w 10 = bvP (wiM w) (sL (wiM w)) := by decide +kernel
theorem bv_ot : ∀ w, w < 2 → wiO w < 13 ∧ bvF (fun i => otL.getD i 0) w 10 = bvP (wiO w) (sL (wiO w)) := by decide +kernel
theorem pw10 : (27 : Nat) ^ 10 < 2 ^ 63 := by decide
theorem pw_le {k : Nat} (h : k ≤ 10) : (27 : Nat) ^ k ≤ 27 ^ 10 := Nat.pow_le_pow_right (by decide) h
theorem dX5_wordOf_0 : decode cX5_wordOf 0 = .ok (.iconst (-1), 1) := by decide +kernel
theorem dX5_wordOf_1 : decode cX5_wordOf 1 = .ok (.istore_n 2, 1) := by decide +kernel
theorem dX5_wordOf_2 : decode cX5_wordOf 2 = .ok (.iconst 0, 1) := by decide +kernel
theorem dX5_wordOf_3 : decode cX5_wordOf 3 = .ok (.istore_n 3, 1) := by decide +kernel
theorem dX5_wordOf_4 : decode cX5_wordOf 4 = .ok (.iload_n 3, 1) := by decide +kernel
theorem dX5_wordOf_5 : decode cX5_wordOf 5 = .ok (.aload_n 1, 1) := by decide +kernel
theorem dX5_wordOf_6 : decode cX5_wordOf 6 = .ok (.arraylength, 1) := by decide +kernel
theorem dX5_wordOf_7 : decode cX5_wordOf 7 = .ok (.bipush 10, 2) := by decide +kernel
theorem dX5_wordOf_9 : decode cX5_wordOf 9 = .ok (.idiv, 1) := by decide +kernel
theorem dX5_wordOf_10 : decode cX5_wordOf 10 = .ok (.if_icmp .ge 94, 3) := by decide +kernel
theorem dX5_wordOf_13 : decode cX5_wordOf 13 = .ok (.aload_n 0, 1) := by decide +kernel
theorem dX5_wordOf_14 : decode cX5_wordOf 14 = .ok (.getfield 191, 3) := by decide +kernel
theorem dX5_wordOf_17 : decode cX5_wordOf 17 = .ok (.iconst 1, 1) := by decide +kernel
theorem dX5_wordOf_18 : decode cX5_wordOf 18 = .ok (.if_icmp .ne 86, 3) := by decide +kernel
theorem dX5_wordOf_21 : decode cX5_wordOf 21 = .ok (.lconst 0, 1) := by decide +kernel
theorem dX5_wordOf_22 : decode cX5_wordOf 22 = .ok (.lstore 4, 2) := by decide +kernel
theorem dX5_wordOf_24 : decode cX5_wordOf 24 = .ok (.iconst 0, 1) := by decide +kernel
theorem dX5_wordOf_25 : decode cX5_wordOf 25 = .ok (.istore 6, 2) := by decide +kernel
theorem dX5_wordOf_27 : decode cX5_wordOf 27 = .ok (.iload 6, 2) := by decide +kernel
theorem dX5_wordOf_29 : decode cX5_wordOf 29 = .ok (.bipush 10, 2) := by decide +kernel
theorem dX5_wordOf_31 : decode cX5_wordOf 31 = .ok (.if_icmp .ge 51, 3) := by decide +kernel
theorem dX5_wordOf_34 : decode cX5_wordOf 34 = .ok (.aload_n 1, 1) := by decide +kernel
theorem dX5_wordOf_35 : decode cX5_wordOf 35 = .ok (.bipush 10, 2) := by decide +kernel
theorem dX5_wordOf_37 : decode cX5_wordOf 37 = .ok (.iload_n 3, 1) := by decide +kernel
theorem dX5_wordOf_38 : decode cX5_wordOf 38 = .ok (.imul, 1) := by decide +kernel
theorem dX5_wordOf_39 : decode cX5_wordOf 39 = .ok (.iload 6, 2) := by decide +kernel
theorem dX5_wordOf_41 : decode cX5_wordOf 41 = .ok (.iadd, 1) := by decide +kernel
theorem dX5_wordOf_42 : decode cX5_wordOf 42 = .ok (.caload, 1) := by decide +kernel
theorem dX5_wordOf_43 : decode cX5_wordOf 43 = .ok (.bipush 32, 2) := by decide +kernel
theorem dX5_wordOf_45 : decode cX5_wordOf 45 = .ok (.if_icmp .ne 8, 3) := by decide +kernel
theorem dX5_wordOf_48 : decode cX5_wordOf 48 = .ok (.lload 4, 2) := by decide +kernel
theorem dX5_wordOf_50 : decode cX5_wordOf 50 = .ok (.goto 24, 3) := by decide +kernel
theorem dX5_wordOf_53 : decode cX5_wordOf 53 = .ok (.lload 4, 2) := by decide +kernel
theorem dX5_wordOf_55 : decode cX5_wordOf 55 = .ok (.ldc2_w 199, 3) := by decide +kernel
theorem dX5_wordOf_58 : decode cX5_wordOf 58 = .ok (.lmul, 1) := by decide +kernel
theorem dX5_wordOf_59 : decode cX5_wordOf 59 = .ok (.aload_n 1, 1) := by decide +kernel
theorem dX5_wordOf_60 : decode cX5_wordOf 60 = .ok (.bipush 10, 2) := by decide +kernel
theorem dX5_wordOf_62 : decode cX5_wordOf 62 = .ok (.iload_n 3, 1) := by decide +kernel
theorem dX5_wordOf_63 : decode cX5_wordOf 63 = .ok (.imul, 1) := by decide +kernel
theorem dX5_wordOf_64 : decode cX5_wordOf 64 = .ok (.iload 6, 2) := by decide +kernel
theorem dX5_wordOf_66 : decode cX5_wordOf 66 = .ok (.iadd, 1) := by decide +kernel
theorem dX5_wordOf_67 : decode cX5_wordOf 67 = .ok (.caload, 1) := by decide +kernel
theorem dX5_wordOf_68 : decode cX5_wordOf 68 = .ok (.i2l, 1) := by decide +kernel
theorem dX5_wordOf_69 : decode cX5_wordOf 69 = .ok (.ladd, 1) := by decide +kernel
theorem dX5_wordOf_70 : decode cX5_wordOf 70 = .ok (.ldc2_w 201, 3) := by decide +kernel
theorem dX5_wordOf_73 : decode cX5_wordOf 73 = .ok (.lsub, 1) := by decide +kernel
theorem dX5_wordOf_74 : decode cX5_wordOf 74 = .ok (.lstore 4, 2) := by decide +kernel
theorem dX5_wordOf_76 : decode cX5_wordOf 76 = .ok (.iinc 6 1, 3) := by decide +kernel
theorem dX5_wordOf_79 : decode cX5_wordOf 79 = .ok (.goto (-52), 3) := by decide +kernel
theorem dX5_wordOf_82 : decode cX5_wordOf 82 = .ok (.lload 4, 2) := by decide +kernel
theorem dX5_wordOf_84 : decode cX5_wordOf 84 = .ok (.aload_n 0, 1) := by decide +kernel
theorem dX5_wordOf_85 : decode cX5_wordOf 85 = .ok (.getfield 187, 3) := by decide +kernel
theorem dX5_wordOf_88 : decode cX5_wordOf 88 = .ok (.lcmp, 1) := by decide +kernel
theorem dX5_wordOf_89 : decode cX5_wordOf 89 = .ok (.ifCond .ne 7, 3) := by decide +kernel
theorem dX5_wordOf_92 : decode cX5_wordOf 92 = .ok (.iload_n 3, 1) := by decide +kernel
theorem dX5_wordOf_93 : decode cX5_wordOf 93 = .ok (.goto 4, 3) := by decide +kernel
theorem dX5_wordOf_96 : decode cX5_wordOf 96 = .ok (.iload_n 2, 1) := by decide +kernel
theorem dX5_wordOf_97 : decode cX5_wordOf 97 = .ok (.istore_n 2, 1) := by decide +kernel
theorem dX5_wordOf_98 : decode cX5_wordOf 98 = .ok (.iinc 3 1, 3) := by decide +kernel
theorem dX5_wordOf_101 : decode cX5_wordOf 101 = .ok (.goto (-97), 3) := by decide +kernel
theorem dX5_wordOf_104 : decode cX5_wordOf 104 = .ok (.iload_n 2, 1) := by decide +kernel
theorem dX5_wordOf_105 : decode cX5_wordOf 105 = .ok (.ireturn, 1) := by decide +kernel
set_option maxRecDepth 20000 in
set_option maxHeartbeats 4000000 in
theorem l_X5_wordI55 {K : Cx} {w : Nat} {wh : Int32} {m : TM} {Qv : Option Value → TM → Prop} (hw : w < 7) (hC : OkC (m.1 55) 70) (kk : XX RX5 cX5_wordOf 7 (some .int) 0 0 K 82 [some (.ref 49), some (.ref 55), some (.int wh), some (.int (nI w)), some (.long (lI (bvF (m.1 55) w 10))), none, none] [] m (fun r1 m1 => Qv r1 m1)) : ∀ (fu : Nat) (k : Nat), 10 - k < fu → k ≤ 10 → XX RX5 cX5_wordOf 7 (some .int) 0 0 K 27 [some (.ref 49), some (.ref 55), some (.int wh), some (.int (nI w)), some (.long (lI (bvF (m.1 55) w k))), none, some (.int (nI k))] [] (m) (fun r1 m1 => Qv r1 m1) := by
  intro fu
  induction fu with
  | zero => intro k hlt; exact absurd hlt (Nat.not_lt_zero _)
  | succ fu ih =>
    intro k hlt hk
    refine x_iload (q := 29) dX5_wordOf_27 rfl rfl ?_
    refine x_bipush (q := 31) (v := 10) dX5_wordOf_29 rfl (by decide) ?_
    refine x_icmp_ge (q := 34) (t := 82) dX5_wordOf_31 rfl (by decide) (fun h31 => ?_) (fun h31 => ?_)
    · have hk10 : k = 10 := by
        have := lp_stop (n := 10) rfl (by omega) (by omega) h31
        omega
      subst hk10
      exact x_ls kk (And.intro rfl (And.intro rfl (And.intro rfl (And.intro rfl (And.intro rfl trivial)))))
    have hk10 : k < 10 := lp_go (n := 10) rfl (by omega) (by omega) h31
    refine x_aload_n (q := 35) dX5_wordOf_34 rfl rfl ?_
    refine x_bipush (q := 37) (v := 10) dX5_wordOf_35 rfl (by decide) ?_
    refine x_iload_n (q := 38) dX5_wordOf_37 rfl rfl ?_
    refine x_imul (q := 39) dX5_wordOf_38 rfl ?_
    refine x_iload (q := 41) dX5_wordOf_39 rfl rfl ?_
    refine x_iadd (q := 42) dX5_wordOf_41 rfl ?_
    rw [show (10 : Int32) * nI w + nI k = nI (10 * w + k) from by rw [show (10 : Int32) * nI w = nI (10 * w) from jnI_mul 10 w]; exact (Int32.ofNat_add _ _).symm]
    refine x_cald (q := 43) dX5_wordOf_42 rfl (ar_55) (ix_nI (n := 70) (k := 10 * w + k) (by omega) (by decide)) (Nat.zero_add _) ?_
    refine x_bipush (q := 45) (v := 32) dX5_wordOf_43 rfl (by decide) ?_
    refine x_icmp_ne (q := 48) (t := 53) dX5_wordOf_45 rfl (by decide) (fun h45 => ?_) (fun h45 => ?_)
    · refine x_lload (q := 55) dX5_wordOf_53 rfl rfl ?_
      refine x_ldc2 (q := 58) dX5_wordOf_55 rfl kl_X5_199 ?_
      refine x_lmul (q := 59) dX5_wordOf_58 rfl ?_
      refine x_aload_n (q := 60) dX5_wordOf_59 rfl rfl ?_
      refine x_bipush (q := 62) (v := 10) dX5_wordOf_60 rfl (by decide) ?_
      refine x_iload_n (q := 63) dX5_wordOf_62 rfl rfl ?_
      refine x_imul (q := 64) dX5_wordOf_63 rfl ?_
      refine x_iload (q := 66) dX5_wordOf_64 rfl rfl ?_
      refine x_iadd (q := 67) dX5_wordOf_66 rfl ?_
      rw [show (10 : Int32) * nI w + nI k = nI (10 * w + k) from by rw [show (10 : Int32) * nI w = nI (10 * w) from jnI_mul 10 w]; exact (Int32.ofNat_add _ _).symm]
      refine x_cald (q := 68) dX5_wordOf_67 rfl (ar_55) (ix_nI (n := 70) (k := 10 * w + k) (by omega) (by decide)) (Nat.zero_add _) ?_
      refine x_i2l (q := 69) dX5_wordOf_68 rfl ?_
      refine x_ladd (q := 70) dX5_wordOf_69 rfl ?_
      refine x_ldc2 (q := 73) dX5_wordOf_70 rfl kl_X5_201 ?_
      refine x_lsub (q := 74) dX5_wordOf_73 rfl ?_
      have hc := (hC (10 * w + k) (by omega)).resolve_left h45
      rw [bv_step hc.1 hc.2.1 hc.2.2, show bvF (m.1 55) w k * 27 + (cl (m.1 55 (10 * w + k)) - 96) = bvF (m.1 55) w (k + 1) by rw [bvF, if_neg h45]]
      refine x_lstore (q := 76) dX5_wordOf_74 rfl (by decide) rfl rfl ?_
      refine x_iinc (q := 79) (v := nI (k + 1)) dX5_wordOf_76 rfl rfl (jnI_s k) (by decide) rfl rfl ?_
      refine x_goto (q := 27) dX5_wordOf_79 (by decide) ?_
      exact ih (k + 1) (by omega) (by omega)
    refine x_lload (q := 50) dX5_wordOf_48 rfl rfl ?_
    refine x_goto (q := 74) dX5_wordOf_50 (by decide) ?_
    rw [show lI (bvF (m.1 55) w k) = lI (bvF (m.1 55) w (k + 1)) by rw [bvF, if_pos h45]]
    refine x_lstore (q := 76) dX5_wordOf_74 rfl (by decide) rfl rfl ?_
    refine x_iinc (q := 79) (v := nI (k + 1)) dX5_wordOf_76 rfl rfl (jnI_s k) (by decide) rfl rfl ?_
    refine x_goto (q := 27) dX5_wordOf_79 (by decide) ?_
    exact ih (k + 1) (by omega) (by omega)
set_option maxRecDepth 20000 in
set_option maxHeartbeats 4000000 in
theorem l_X5_wordO55 {K : Cx} {m : TM} (hC : OkC (m.1 55) 70) (ht : m.1 49 7 = 1) : ∀ (fu : Nat) (w : Nat), 7 - w < fu → w ≤ 7 → XX RX5 cX5_wordOf 7 (some .int) 0 0 K 4 [some (.ref 49), some (.ref 55), some (.int (whF (fun w => decide (lI (bvF (m.1 55) w 10) = m.2)) w)), some (.int (nI w)), none, none, none] [] (m) (fun r1 m1 => r1 = (some (.int (whF (fun w => decide (lI (bvF (m.1 55) w 10) = m.2)) 7))) ∧ m1 = m) := by
  intro fu
  induction fu with
  | zero => intro w hlt; exact absurd hlt (Nat.not_lt_zero _)
  | succ fu ih =>
    intro w hlt hw
    refine x_iload_n (q := 5) dX5_wordOf_4 rfl rfl ?_
    refine x_aload_n (q := 6) dX5_wordOf_5 rfl rfl ?_
    refine x_alen (q := 7) (v := 70) dX5_wordOf_6 rfl (ra_55) (by decide) (by decide) ?_
    refine x_bipush (q := 9) (v := 10) dX5_wordOf_7 rfl (by decide) ?_
    refine x_idiv (q := 10) dX5_wordOf_9 rfl (by decide) ?_
    refine x_icmp_ge (q := 13) (t := 104) dX5_wordOf_10 rfl (by decide) (fun h10 => ?_) (fun h10 => ?_)
    · refine x_iload_n (q := 105) dX5_wordOf_104 rfl rfl ?_
      refine x_ireturn dX5_wordOf_105 rfl rfl ?_
      have e : w = 7 := by
        have := lp_stop (n := 7) (by decide) (by omega) (by omega) h10
        omega
      subst e
      exact ⟨rfl, rfl⟩
    have hwN : w < 7 := lp_go (n := 7) (by decide) (by omega) (by omega) h10
    refine x_aload_n (q := 14) dX5_wordOf_13 rfl rfl ?_
    refine x_getI (q := 17) dX5_wordOf_14 rfl fl_X5_191 (ob5_token) ?_
    rw [ht]
    refine x_iconst (q := 18) (v := 1) dX5_wordOf_17 rfl (by decide) ?_
    refine x_icmp_ne (q := 21) (t := 104) dX5_wordOf_18 rfl (by decide) (fun h18 => ?_) (fun h18 => ?_)
    · refine x_iload_n (q := 105) dX5_wordOf_104 rfl rfl ?_
      refine x_ireturn dX5_wordOf_105 rfl rfl ?_
      exact absurd rfl h18
    refine x_lconst (q := 22) (v := 0) dX5_wordOf_21 rfl (by decide) ?_
    refine x_lstore (q := 24) dX5_wordOf_22 rfl (by decide) rfl rfl ?_
    refine x_iconst (q := 25) (v := 0) dX5_wordOf_24 rfl (by decide) ?_
    refine x_istore (q := 27) dX5_wordOf_25 rfl (by decide) rfl rfl ?_
    refine l_X5_wordI55 (Qv := fun r1 m1 => r1 = (some (.int (whF (fun w => decide (lI (bvF (m.1 55) w 10) = m.2)) 7))) ∧ m1 = m) hwN hC ?_ 11 0 (by omega) (by omega)
    refine x_lload (q := 84) dX5_wordOf_82 rfl rfl ?_
    refine x_aload_n (q := 85) dX5_wordOf_84 rfl rfl ?_
    refine x_getL (q := 88) dX5_wordOf_85 rfl fl_X5_187 ?_
    refine x_lcmp (q := 89) dX5_wordOf_88 rfl ?_
    refine x_if_ne (q := 92) (t := 96) dX5_wordOf_89 rfl (by decide) (fun h89 => ?_) (fun h89 => ?_)
    · refine x_iload_n (q := 97) dX5_wordOf_96 rfl rfl ?_
      refine x_istore_n (q := 98) dX5_wordOf_97 rfl (by decide) rfl rfl ?_
      refine x_iinc (q := 101) (v := nI (w + 1)) dX5_wordOf_98 rfl rfl (jnI_s w) (by decide) rfl rfl ?_
      refine x_goto (q := 4) dX5_wordOf_101 (by decide) ?_
      exact x_ls (ih (w + 1) (by omega) (by omega)) (And.intro rfl (And.intro rfl (And.intro (congrArg Value.int (whF_f (decide_eq_false (fun q => h89 ((lg_cmp_eq _ _).mpr q))))) (And.intro rfl trivial))))
    refine x_iload_n (q := 93) dX5_wordOf_92 rfl rfl ?_
    refine x_goto (q := 97) dX5_wordOf_93 (by decide) ?_
    refine x_istore_n (q := 98) dX5_wordOf_97 rfl (by decide) rfl rfl ?_
    refine x_iinc (q := 101) (v := nI (w + 1)) dX5_wordOf_98 rfl rfl (jnI_s w) (by decide) rfl rfl ?_
    refine x_goto (q := 4) dX5_wordOf_101 (by decide) ?_
    exact x_ls (ih (w + 1) (by omega) (by omega)) (And.intro rfl (And.intro rfl (And.intro (congrArg Value.int (whF_t (decide_eq_true ((lg_cmp_eq _ _).mp h89)))) (And.intro rfl trivial))))
set_option maxRecDepth 20000 in
set_option maxHeartbeats 4000000 in
theorem c_X5_wordOf55 {K : Cx} {m : TM} (hC : OkC (m.1 55) 70) : CT yX5_wordOf cX5_wordOf 7 (some .int) 0 0 K [.ref 49, .ref 55] (m) (some (.int (if m.1 49 7 = 1 then whF (fun w => decide (lI (bvF (m.1 55) w 10) = m.2)) 7 else -1))) (m) := by
  refine ct_ofd (n := 5) (by decide +kernel) rfl rfl ?_
  show XX RX5 cX5_wordOf 7 (some .int) 0 0 K 0 [some (.ref 49), some (.ref 55), none, none, none, none, none] [] (m) (fun r1 m1 => r1 = (some (.int (if m.1 49 7 = 1 then whF (fun w => decide (lI (bvF (m.1 55) w 10) = m.2)) 7 else -1))) ∧ m1 = m)
  by_cases ht : m.1 49 7 = 1
  · rw [if_pos ht]
    refine x_iconst (q := 1) (v := (-1)) dX5_wordOf_0 rfl (by decide) ?_
    refine x_istore_n (q := 2) dX5_wordOf_1 rfl (by decide) rfl rfl ?_
    refine x_iconst (q := 3) (v := 0) dX5_wordOf_2 rfl (by decide) ?_
    refine x_istore_n (q := 4) dX5_wordOf_3 rfl (by decide) rfl rfl ?_
    exact x_ls (l_X5_wordO55 hC ht 8 0 (by omega) (by omega)) (And.intro rfl (And.intro rfl (And.intro rfl (And.intro rfl trivial))))
  rw [if_neg ht]
  refine x_iconst (q := 1) (v := (-1)) dX5_wordOf_0 rfl (by decide) ?_
  refine x_istore_n (q := 2) dX5_wordOf_1 rfl (by decide) rfl rfl ?_
  refine x_iconst (q := 3) (v := 0) dX5_wordOf_2 rfl (by decide) ?_
  refine x_istore_n (q := 4) dX5_wordOf_3 rfl (by decide) rfl rfl ?_
  refine x_iload_n (q := 5) dX5_wordOf_4 rfl rfl ?_
  refine x_aload_n (q := 6) dX5_wordOf_5 rfl rfl ?_
  refine x_alen (q := 7) (v := 70) dX5_wordOf_6 rfl (ra_55) (by decide) (by decide) ?_
  refine x_bipush (q := 9) (v := 10) dX5_wordOf_7 rfl (by decide) ?_
  refine x_idiv (q := 10) dX5_wordOf_9 rfl (by decide) ?_
  refine x_icmp_ge (q := 13) (t := 104) dX5_wordOf_10 rfl (by decide) (fun h10 => ?_) (fun h10 => ?_)
  · refine x_iload_n (q := 105) dX5_wordOf_104 rfl rfl ?_
    refine x_ireturn dX5_wordOf_105 rfl rfl ?_
    exact absurd h10 (by decide)
  refine x_aload_n (q := 14) dX5_wordOf_13 rfl rfl ?_
  refine x_getI (q := 17) dX5_wordOf_14 rfl fl_X5_191 (ob5_token) ?_
  refine x_iconst (q := 18) (v := 1) dX5_wordOf_17 rfl (by decide) ?_
  refine x_icmp_ne (q := 21) (t := 104) dX5_wordOf_18 rfl (by decide) (fun h18 => ?_) (fun h18 => ?_)
  · refine x_iload_n (q := 105) dX5_wordOf_104 rfl rfl ?_
    refine x_ireturn dX5_wordOf_105 rfl rfl ?_
    exact ⟨rfl, rfl⟩
  exact absurd h18 ht
set_option maxRecDepth 20000 in
set_option maxHeartbeats 4000000 in
theorem l_X5_wordI56 {K : Cx} {w : Nat} {wh : Int32} {m : TM} {Qv : Option Value → TM → Prop} (hw : w < 4) (hC : OkC (m.1 56) 40) (kk : XX RX5 cX5_wordOf 7 (some .int) 0 0 K 82 [some (.ref 49), some (.ref 56), some (.int wh), some (.int (nI w)), some (.long (lI (bvF (m.1 56) w 10))), none, none] [] m (fun r1 m1 => Qv r1 m1)) : ∀ (fu : Nat) (k : Nat), 10 - k < fu → k ≤ 10 → XX RX5 cX5_wordOf 7 (some .int) 0 0 K 27 [some (.ref 49), some (.ref 56), some (.int wh), some (.int (nI w)), some (.long (lI (bvF (m.1 56) w k))), none, some (.int (nI k))] [] (m) (fun r1 m1 => Qv r1 m1) := by
  intro fu
  induction fu with
  | zero => intro k hlt; exact absurd hlt (Nat.not_lt_zero _)
  | succ fu ih =>
    intro k hlt hk
    refine x_iload (q := 29) dX5_wordOf_27 rfl rfl ?_
    refine x_bipush (q := 31) (v := 10) dX5_wordOf_29 rfl (by decide) ?_
    refine x_icmp_ge (q := 34) (t := 82) dX5_wordOf_31 rfl (by decide) (fun h31 => ?_) (fun h31 => ?_)
    · have hk10 : k = 10 := by
        have := lp_stop (n := 10) rfl (by omega) (by omega) h31
        omega
      subst hk10
      exact x_ls kk (And.intro rfl (And.intro rfl (And.intro rfl (And.intro rfl (And.intro rfl trivial)))))
    have hk10 : k < 10 := lp_go (n := 10) rfl (by omega) (by omega) h31
    refine x_aload_n (q := 35) dX5_wordOf_34 rfl rfl ?_
    refine x_bipush (q := 37) (v := 10) dX5_wordOf_35 rfl (by decide) ?_
    refine x_iload_n (q := 38) dX5_wordOf_37 rfl rfl ?_
    refine x_imul (q := 39) dX5_wordOf_38 rfl ?_
    refine x_iload (q := 41) dX5_wordOf_39 rfl rfl ?_
    refine x_iadd (q := 42) dX5_wordOf_41 rfl ?_
    rw [show (10 : Int32) * nI w + nI k = nI (10 * w + k) from by rw [show (10 : Int32) * nI w = nI (10 * w) from jnI_mul 10 w]; exact (Int32.ofNat_add _ _).symm]
    refine x_cald (q := 43) dX5_wordOf_42 rfl (ar_56) (ix_nI (n := 40) (k := 10 * w + k) (by omega) (by decide)) (Nat.zero_add _) ?_
    refine x_bipush (q := 45) (v := 32) dX5_wordOf_43 rfl (by decide) ?_
    refine x_icmp_ne (q := 48) (t := 53) dX5_wordOf_45 rfl (by decide) (fun h45 => ?_) (fun h45 => ?_)
    · refine x_lload (q := 55) dX5_wordOf_53 rfl rfl ?_
      refine x_ldc2 (q := 58) dX5_wordOf_55 rfl kl_X5_199 ?_
      refine x_lmul (q := 59) dX5_wordOf_58 rfl ?_
      refine x_aload_n (q := 60) dX5_wordOf_59 rfl rfl ?_
      refine x_bipush (q := 62) (v := 10) dX5_wordOf_60 rfl (by decide) ?_
      refine x_iload_n (q := 63) dX5_wordOf_62 rfl rfl ?_
      refine x_imul (q := 64) dX5_wordOf_63 rfl ?_
      refine x_iload (q := 66) dX5_wordOf_64 rfl rfl ?_
      refine x_iadd (q := 67) dX5_wordOf_66 rfl ?_
      rw [show (10 : Int32) * nI w + nI k = nI (10 * w + k) from by rw [show (10 : Int32) * nI w = nI (10 * w) from jnI_mul 10 w]; exact (Int32.ofNat_add _ _).symm]
      refine x_cald (q := 68) dX5_wordOf_67 rfl (ar_56) (ix_nI (n := 40) (k := 10 * w + k) (by omega) (by decide)) (Nat.zero_add _) ?_
      refine x_i2l (q := 69) dX5_wordOf_68 rfl ?_
      refine x_ladd (q := 70) dX5_wordOf_69 rfl ?_
      refine x_ldc2 (q := 73) dX5_wordOf_70 rfl kl_X5_201 ?_
      refine x_lsub (q := 74) dX5_wordOf_73 rfl ?_
      have hc := (hC (10 * w + k) (by omega)).resolve_left h45
      rw [bv_step hc.1 hc.2.1 hc.2.2, show bvF (m.1 56) w k * 27 + (cl (m.1 56 (10 * w + k)) - 96) = bvF (m.1 56) w (k + 1) by rw [bvF, if_neg h45]]
      refine x_lstore (q := 76) dX5_wordOf_74 rfl (by decide) rfl rfl ?_
      refine x_iinc (q := 79) (v := nI (k + 1)) dX5_wordOf_76 rfl rfl (jnI_s k) (by decide) rfl rfl ?_
      refine x_goto (q := 27) dX5_wordOf_79 (by decide) ?_
      exact ih (k + 1) (by omega) (by omega)
    refine x_lload (q := 50) dX5_wordOf_48 rfl rfl ?_
    refine x_goto (q := 74) dX5_wordOf_50 (by decide) ?_
    rw [show lI (bvF (m.1 56) w k) = lI (bvF (m.1 56) w (k + 1)) by rw [bvF, if_pos h45]]
    refine x_lstore (q := 76) dX5_wordOf_74 rfl (by decide) rfl rfl ?_
    refine x_iinc (q := 79) (v := nI (k + 1)) dX5_wordOf_76 rfl rfl (jnI_s k) (by decide) rfl rfl ?_
    refine x_goto (q := 27) dX5_wordOf_79 (by decide) ?_
    exact ih (k + 1) (by omega) (by omega)
set_option maxRecDepth 20000 in
set_option maxHeartbeats 4000000 in
theorem l_X5_wordO56 {K : Cx} {m : TM} (hC : OkC (m.1 56) 40) (ht : m.1 49 7 = 1) : ∀ (fu : Nat) (w : Nat), 4 - w < fu → w ≤ 4 → XX RX5 cX5_wordOf 7 (some .int) 0 0 K 4 [some (.ref 49), some (.ref 56), some (.int (whF (fun w => decide (lI (bvF (m.1 56) w 10) = m.2)) w)), some (.int (nI w)), none, none, none] [] (m) (fun r1 m1 => r1 = (some (.int (whF (fun w => decide (lI (bvF (m.1 56) w 10) = m.2)) 4))) ∧ m1 = m) := by
  intro fu
  induction fu with
  | zero => intro w hlt; exact absurd hlt (Nat.not_lt_zero _)
  | succ fu ih =>
    intro w hlt hw
    refine x_iload_n (q := 5) dX5_wordOf_4 rfl rfl ?_
    refine x_aload_n (q := 6) dX5_wordOf_5 rfl rfl ?_
    refine x_alen (q := 7) (v := 40) dX5_wordOf_6 rfl (ra_56) (by decide) (by decide) ?_
    refine x_bipush (q := 9) (v := 10) dX5_wordOf_7 rfl (by decide) ?_
    refine x_idiv (q := 10) dX5_wordOf_9 rfl (by decide) ?_
    refine x_icmp_ge (q := 13) (t := 104) dX5_wordOf_10 rfl (by decide) (fun h10 => ?_) (fun h10 => ?_)
    · refine x_iload_n (q := 105) dX5_wordOf_104 rfl rfl ?_
      refine x_ireturn dX5_wordOf_105 rfl rfl ?_
      have e : w = 4 := by
        have := lp_stop (n := 4) (by decide) (by omega) (by omega) h10
        omega
      subst e
      exact ⟨rfl, rfl⟩
    have hwN : w < 4 := lp_go (n := 4) (by decide) (by omega) (by omega) h10
    refine x_aload_n (q := 14) dX5_wordOf_13 rfl rfl ?_
    refine x_getI (q := 17) dX5_wordOf_14 rfl fl_X5_191 (ob5_token) ?_
    rw [ht]
    refine x_iconst (q := 18) (v := 1) dX5_wordOf_17 rfl (by decide) ?_
    refine x_icmp_ne (q := 21) (t := 104) dX5_wordOf_18 rfl (by decide) (fun h18 => ?_) (fun h18 => ?_)
    · refine x_iload_n (q := 105) dX5_wordOf_104 rfl rfl ?_
      refine x_ireturn dX5_wordOf_105 rfl rfl ?_
      exact absurd rfl h18
    refine x_lconst (q := 22) (v := 0) dX5_wordOf_21 rfl (by decide) ?_
    refine x_lstore (q := 24) dX5_wordOf_22 rfl (by decide) rfl rfl ?_
    refine x_iconst (q := 25) (v := 0) dX5_wordOf_24 rfl (by decide) ?_
    refine x_istore (q := 27) dX5_wordOf_25 rfl (by decide) rfl rfl ?_
    refine l_X5_wordI56 (Qv := fun r1 m1 => r1 = (some (.int (whF (fun w => decide (lI (bvF (m.1 56) w 10) = m.2)) 4))) ∧ m1 = m) hwN hC ?_ 11 0 (by omega) (by omega)
    refine x_lload (q := 84) dX5_wordOf_82 rfl rfl ?_
    refine x_aload_n (q := 85) dX5_wordOf_84 rfl rfl ?_
    refine x_getL (q := 88) dX5_wordOf_85 rfl fl_X5_187 ?_
    refine x_lcmp (q := 89) dX5_wordOf_88 rfl ?_
    refine x_if_ne (q := 92) (t := 96) dX5_wordOf_89 rfl (by decide) (fun h89 => ?_) (fun h89 => ?_)
    · refine x_iload_n (q := 97) dX5_wordOf_96 rfl rfl ?_
      refine x_istore_n (q := 98) dX5_wordOf_97 rfl (by decide) rfl rfl ?_
      refine x_iinc (q := 101) (v := nI (w + 1)) dX5_wordOf_98 rfl rfl (jnI_s w) (by decide) rfl rfl ?_
      refine x_goto (q := 4) dX5_wordOf_101 (by decide) ?_
      exact x_ls (ih (w + 1) (by omega) (by omega)) (And.intro rfl (And.intro rfl (And.intro (congrArg Value.int (whF_f (decide_eq_false (fun q => h89 ((lg_cmp_eq _ _).mpr q))))) (And.intro rfl trivial))))
    refine x_iload_n (q := 93) dX5_wordOf_92 rfl rfl ?_
    refine x_goto (q := 97) dX5_wordOf_93 (by decide) ?_
    refine x_istore_n (q := 98) dX5_wordOf_97 rfl (by decide) rfl rfl ?_
    refine x_iinc (q := 101) (v := nI (w + 1)) dX5_wordOf_98 rfl rfl (jnI_s w) (by decide) rfl rfl ?_
    refine x_goto (q := 4) dX5_wordOf_101 (by decide) ?_
    exact x_ls (ih (w + 1) (by omega) (by omega)) (And.intro rfl (And.intro rfl (And.intro (congrArg Value.int (whF_t (decide_eq_true ((lg_cmp_eq _ _).mp h89)))) (And.intro rfl trivial))))
set_option maxRecDepth 20000 in
set_option maxHeartbeats 4000000 in
theorem c_X5_wordOf56 {K : Cx} {m : TM} (hC : OkC (m.1 56) 40) : CT yX5_wordOf cX5_wordOf 7 (some .int) 0 0 K [.ref 49, .ref 56] (m) (some (.int (if m.1 49 7 = 1 then whF (fun w => decide (lI (bvF (m.1 56) w 10) = m.2)) 4 else -1))) (m) := by
  refine ct_ofd (n := 5) (by decide +kernel) rfl rfl ?_
  show XX RX5 cX5_wordOf 7 (some .int) 0 0 K 0 [some (.ref 49), some (.ref 56), none, none, none, none, none] [] (m) (fun r1 m1 => r1 = (some (.int (if m.1 49 7 = 1 then whF (fun w => decide (lI (bvF (m.1 56) w 10) = m.2)) 4 else -1))) ∧ m1 = m)
  by_cases ht : m.1 49 7 = 1
  · rw [if_pos ht]
    refine x_iconst (q := 1) (v := (-1)) dX5_wordOf_0 rfl (by decide) ?_
    refine x_istore_n (q := 2) dX5_wordOf_1 rfl (by decide) rfl rfl ?_
    refine x_iconst (q := 3) (v := 0) dX5_wordOf_2 rfl (by decide) ?_
    refine x_istore_n (q := 4) dX5_wordOf_3 rfl (by decide) rfl rfl ?_
    exact x_ls (l_X5_wordO56 hC ht 5 0 (by omega) (by omega)) (And.intro rfl (And.intro rfl (And.intro rfl (And.intro rfl trivial))))
  rw [if_neg ht]
  refine x_iconst (q := 1) (v := (-1)) dX5_wordOf_0 rfl (by decide) ?_
  refine x_istore_n (q := 2) dX5_wordOf_1 rfl (by decide) rfl rfl ?_
  refine x_iconst (q := 3) (v := 0) dX5_wordOf_2 rfl (by decide) ?_
  refine x_istore_n (q := 4) dX5_wordOf_3 rfl (by decide) rfl rfl ?_
  refine x_iload_n (q := 5) dX5_wordOf_4 rfl rfl ?_
  refine x_aload_n (q := 6) dX5_wordOf_5 rfl rfl ?_
  refine x_alen (q := 7) (v := 40) dX5_wordOf_6 rfl (ra_56) (by decide) (by decide) ?_
  refine x_bipush (q := 9) (v := 10) dX5_wordOf_7 rfl (by decide) ?_
  refine x_idiv (q := 10) dX5_wordOf_9 rfl (by decide) ?_
  refine x_icmp_ge (q := 13) (t := 104) dX5_wordOf_10 rfl (by decide) (fun h10 => ?_) (fun h10 => ?_)
  · refine x_iload_n (q := 105) dX5_wordOf_104 rfl rfl ?_
    refine x_ireturn dX5_wordOf_105 rfl rfl ?_
    exact absurd h10 (by decide)
  refine x_aload_n (q := 14) dX5_wordOf_13 rfl rfl ?_
  refine x_getI (q := 17) dX5_wordOf_14 rfl fl_X5_191 (ob5_token) ?_
  refine x_iconst (q := 18) (v := 1) dX5_wordOf_17 rfl (by decide) ?_
  refine x_icmp_ne (q := 21) (t := 104) dX5_wordOf_18 rfl (by decide) (fun h18 => ?_) (fun h18 => ?_)
  · refine x_iload_n (q := 105) dX5_wordOf_104 rfl rfl ?_
    refine x_ireturn dX5_wordOf_105 rfl rfl ?_
    exact ⟨rfl, rfl⟩
  exact absurd h18 ht
set_option maxRecDepth 20000 in
set_option maxHeartbeats 4000000 in
theorem l_X5_wordI57 {K : Cx} {w : Nat} {wh : Int32} {m : TM} {Qv : Option Value → TM → Prop} (hw : w < 2) (hC : OkC (m.1 57) 20) (kk : XX RX5 cX5_wordOf 7 (some .int) 0 0 K 82 [some (.ref 49), some (.ref 57), some (.int wh), some (.int (nI w)), some (.long (lI (bvF (m.1 57) w 10))), none, none] [] m (fun r1 m1 => Qv r1 m1)) : ∀ (fu : Nat) (k : Nat), 10 - k < fu → k ≤ 10 → XX RX5 cX5_wordOf 7 (some .int) 0 0 K 27 [some (.ref 49), some (.ref 57), some (.int wh), some (.int (nI w)), some (.long (lI (bvF (m.1 57) w k))), none, some (.int (nI k))] [] (m) (fun r1 m1 => Qv r1 m1) := by
  intro fu
  induction fu with
  | zero => intro k hlt; exact absurd hlt (Nat.not_lt_zero _)
  | succ fu ih =>
    intro k hlt hk
    refine x_iload (q := 29) dX5_wordOf_27 rfl rfl ?_
    refine x_bipush (q := 31) (v := 10) dX5_wordOf_29 rfl (by decide) ?_
    refine x_icmp_ge (q := 34) (t := 82) dX5_wordOf_31 rfl (by decide) (fun h31 => ?_) (fun h31 => ?_)
    · have hk10 : k = 10 := by
        have := lp_stop (n := 10) rfl (by omega) (by omega) h31
        omega
      subst hk10
      exact x_ls kk (And.intro rfl (And.intro rfl (And.intro rfl (And.intro rfl (And.intro rfl trivial)))))
    have hk10 : k < 10 := lp_go (n := 10) rfl (by omega) (by omega) h31
    refine x_aload_n (q := 35) dX5_wordOf_34 rfl rfl ?_
    refine x_bipush (q := 37) (v := 10) dX5_wordOf_35 rfl (by decide) ?_
    refine x_iload_n (q := 38) dX5_wordOf_37 rfl rfl ?_
    refine x_imul (q := 39) dX5_wordOf_38 rfl ?_
    refine x_iload (q := 41) dX5_wordOf_39 rfl rfl ?_
    refine x_iadd (q := 42) dX5_wordOf_41 rfl ?_
    rw [show (10 : Int32) * nI w + nI k = nI (10 * w + k) from by rw [show (10 : Int32) * nI w = nI (10 * w) from jnI_mul 10 w]; exact (Int32.ofNat_add _ _).symm]
    refine x_cald (q := 43) dX5_wordOf_42 rfl (ar_57) (ix_nI (n := 20) (k := 10 * w + k) (by omega) (by decide)) (Nat.zero_add _) ?_
    refine x_bipush (q := 45) (v := 32) dX5_wordOf_43 rfl (by decide) ?_
    refine x_icmp_ne (q := 48) (t := 53) dX5_wordOf_45 rfl (by decide) (fun h45 => ?_) (fun h45 => ?_)
    · refine x_lload (q := 55) dX5_wordOf_53 rfl rfl ?_
      refine x_ldc2 (q := 58) dX5_wordOf_55 rfl kl_X5_199 ?_
      refine x_lmul (q := 59) dX5_wordOf_58 rfl ?_
      refine x_aload_n (q := 60) dX5_wordOf_59 rfl rfl ?_
      refine x_bipush (q := 62) (v := 10) dX5_wordOf_60 rfl (by decide) ?_
      refine x_iload_n (q := 63) dX5_wordOf_62 rfl rfl ?_
      refine x_imul (q := 64) dX5_wordOf_63 rfl ?_
      refine x_iload (q := 66) dX5_wordOf_64 rfl rfl ?_
      refine x_iadd (q := 67) dX5_wordOf_66 rfl ?_
      rw [show (10 : Int32) * nI w + nI k = nI (10 * w + k) from by rw [show (10 : Int32) * nI w = nI (10 * w) from jnI_mul 10 w]; exact (Int32.ofNat_add _ _).symm]
      refine x_cald (q := 68) dX5_wordOf_67 rfl (ar_57) (ix_nI (n := 20) (k := 10 * w + k) (by omega) (by decide)) (Nat.zero_add _) ?_
      refine x_i2l (q := 69) dX5_wordOf_68 rfl ?_
      refine x_ladd (q := 70) dX5_wordOf_69 rfl ?_
      refine x_ldc2 (q := 73) dX5_wordOf_70 rfl kl_X5_201 ?_
      refine x_lsub (q := 74) dX5_wordOf_73 rfl ?_
      have hc := (hC (10 * w + k) (by omega)).resolve_left h45
      rw [bv_step hc.1 hc.2.1 hc.2.2, show bvF (m.1 57) w k * 27 + (cl (m.1 57 (10 * w + k)) - 96) = bvF (m.1 57) w (k + 1) by rw [bvF, if_neg h45]]
      refine x_lstore (q := 76) dX5_wordOf_74 rfl (by decide) rfl rfl ?_
      refine x_iinc (q := 79) (v := nI (k + 1)) dX5_wordOf_76 rfl rfl (jnI_s k) (by decide) rfl rfl ?_
      refine x_goto (q := 27) dX5_wordOf_79 (by decide) ?_
      exact ih (k + 1) (by omega) (by omega)
    refine x_lload (q := 50) dX5_wordOf_48 rfl rfl ?_
    refine x_goto (q := 74) dX5_wordOf_50 (by decide) ?_
    rw [show lI (bvF (m.1 57) w k) = lI (bvF (m.1 57) w (k + 1)) by rw [bvF, if_pos h45]]
    refine x_lstore (q := 76) dX5_wordOf_74 rfl (by decide) rfl rfl ?_
    refine x_iinc (q := 79) (v := nI (k + 1)) dX5_wordOf_76 rfl rfl (jnI_s k) (by decide) rfl rfl ?_
    refine x_goto (q := 27) dX5_wordOf_79 (by decide) ?_
    exact ih (k + 1) (by omega) (by omega)
set_option maxRecDepth 20000 in
set_option maxHeartbeats 4000000 in
theorem l_X5_wordO57 {K : Cx} {m : TM} (hC : OkC (m.1 57) 20) (ht : m.1 49 7 = 1) : ∀ (fu : Nat) (w : Nat), 2 - w < fu → w ≤ 2 → XX RX5 cX5_wordOf 7 (some .int) 0 0 K 4 [some (.ref 49), some (.ref 57), some (.int (whF (fun w => decide (lI (bvF (m.1 57) w 10) = m.2)) w)), some (.int (nI w)), none, none, none] [] (m) (fun r1 m1 => r1 = (some (.int (whF (fun w => decide (lI (bvF (m.1 57) w 10) = m.2)) 2))) ∧ m1 = m) := by
  intro fu
  induction fu with
  | zero => intro w hlt; exact absurd hlt (Nat.not_lt_zero _)
  | succ fu ih =>
    intro w hlt hw
    refine x_iload_n (q := 5) dX5_wordOf_4 rfl rfl ?_
    refine x_aload_n (q := 6) dX5_wordOf_5 rfl rfl ?_
    refine x_alen (q := 7) (v := 20) dX5_wordOf_6 rfl (ra_57) (by decide) (by decide) ?_
    refine x_bipush (q := 9) (v := 10) dX5_wordOf_7 rfl (by decide) ?_
    refine x_idiv (q := 10) dX5_wordOf_9 rfl (by decide) ?_
    refine x_icmp_ge (q := 13) (t := 104) dX5_wordOf_10 rfl (by decide) (fun h10 => ?_) (fun h10 => ?_)
    · refine x_iload_n (q := 105) dX5_wordOf_104 rfl rfl ?_
      refine x_ireturn dX5_wordOf_105 rfl rfl ?_
      have e : w = 2 := by
        have := lp_stop (n := 2) (by decide) (by omega) (by omega) h10
        omega
      subst e
      exact ⟨rfl, rfl⟩
    have hwN : w < 2 := lp_go (n := 2) (by decide) (by omega) (by omega) h10
    refine x_aload_n (q := 14) dX5_wordOf_13 rfl rfl ?_
    refine x_getI (q := 17) dX5_wordOf_14 rfl fl_X5_191 (ob5_token) ?_
    rw [ht]
    refine x_iconst (q := 18) (v := 1) dX5_wordOf_17 rfl (by decide) ?_
    refine x_icmp_ne (q := 21) (t := 104) dX5_wordOf_18 rfl (by decide) (fun h18 => ?_) (fun h18 => ?_)
    · refine x_iload_n (q := 105) dX5_wordOf_104 rfl rfl ?_
      refine x_ireturn dX5_wordOf_105 rfl rfl ?_
      exact absurd rfl h18
    refine x_lconst (q := 22) (v := 0) dX5_wordOf_21 rfl (by decide) ?_
    refine x_lstore (q := 24) dX5_wordOf_22 rfl (by decide) rfl rfl ?_
    refine x_iconst (q := 25) (v := 0) dX5_wordOf_24 rfl (by decide) ?_
    refine x_istore (q := 27) dX5_wordOf_25 rfl (by decide) rfl rfl ?_
    refine l_X5_wordI57 (Qv := fun r1 m1 => r1 = (some (.int (whF (fun w => decide (lI (bvF (m.1 57) w 10) = m.2)) 2))) ∧ m1 = m) hwN hC ?_ 11 0 (by omega) (by omega)
    refine x_lload (q := 84) dX5_wordOf_82 rfl rfl ?_
    refine x_aload_n (q := 85) dX5_wordOf_84 rfl rfl ?_
    refine x_getL (q := 88) dX5_wordOf_85 rfl fl_X5_187 ?_
    refine x_lcmp (q := 89) dX5_wordOf_88 rfl ?_
    refine x_if_ne (q := 92) (t := 96) dX5_wordOf_89 rfl (by decide) (fun h89 => ?_) (fun h89 => ?_)
    · refine x_iload_n (q := 97) dX5_wordOf_96 rfl rfl ?_
      refine x_istore_n (q := 98) dX5_wordOf_97 rfl (by decide) rfl rfl ?_
      refine x_iinc (q := 101) (v := nI (w + 1)) dX5_wordOf_98 rfl rfl (jnI_s w) (by decide) rfl rfl ?_
      refine x_goto (q := 4) dX5_wordOf_101 (by decide) ?_
      exact x_ls (ih (w + 1) (by omega) (by omega)) (And.intro rfl (And.intro rfl (And.intro (congrArg Value.int (whF_f (decide_eq_false (fun q => h89 ((lg_cmp_eq _ _).mpr q))))) (And.intro rfl trivial))))
    refine x_iload_n (q := 93) dX5_wordOf_92 rfl rfl ?_
    refine x_goto (q := 97) dX5_wordOf_93 (by decide) ?_
    refine x_istore_n (q := 98) dX5_wordOf_97 rfl (by decide) rfl rfl ?_
    refine x_iinc (q := 101) (v := nI (w + 1)) dX5_wordOf_98 rfl rfl (jnI_s w) (by decide) rfl rfl ?_
    refine x_goto (q := 4) dX5_wordOf_101 (by decide) ?_
    exact x_ls (ih (w + 1) (by omega) (by omega)) (And.intro rfl (And.intro rfl (And.intro (congrArg Value.int (whF_t (decide_eq_true ((lg_cmp_eq _ _).mp h89)))) (And.intro rfl trivial))))
set_option maxRecDepth 20000 in
set_option maxHeartbeats 4000000 in
theorem c_X5_wordOf57 {K : Cx} {m : TM} (hC : OkC (m.1 57) 20) : CT yX5_wordOf cX5_wordOf 7 (some .int) 0 0 K [.ref 49, .ref 57] (m) (some (.int (if m.1 49 7 = 1 then whF (fun w => decide (lI (bvF (m.1 57) w 10) = m.2)) 2 else -1))) (m) := by
  refine ct_ofd (n := 5) (by decide +kernel) rfl rfl ?_
  show XX RX5 cX5_wordOf 7 (some .int) 0 0 K 0 [some (.ref 49), some (.ref 57), none, none, none, none, none] [] (m) (fun r1 m1 => r1 = (some (.int (if m.1 49 7 = 1 then whF (fun w => decide (lI (bvF (m.1 57) w 10) = m.2)) 2 else -1))) ∧ m1 = m)
  by_cases ht : m.1 49 7 = 1
  · rw [if_pos ht]
    refine x_iconst (q := 1) (v := (-1)) dX5_wordOf_0 rfl (by decide) ?_
    refine x_istore_n (q := 2) dX5_wordOf_1 rfl (by decide) rfl rfl ?_
    refine x_iconst (q := 3) (v := 0) dX5_wordOf_2 rfl (by decide) ?_
    refine x_istore_n (q := 4) dX5_wordOf_3 rfl (by decide) rfl rfl ?_
    exact x_ls (l_X5_wordO57 hC ht 3 0 (by omega) (by omega)) (And.intro rfl (And.intro rfl (And.intro rfl (And.intro rfl trivial))))
  rw [if_neg ht]
  refine x_iconst (q := 1) (v := (-1)) dX5_wordOf_0 rfl (by decide) ?_
  refine x_istore_n (q := 2) dX5_wordOf_1 rfl (by decide) rfl rfl ?_
  refine x_iconst (q := 3) (v := 0) dX5_wordOf_2 rfl (by decide) ?_
  refine x_istore_n (q := 4) dX5_wordOf_3 rfl (by decide) rfl rfl ?_
  refine x_iload_n (q := 5) dX5_wordOf_4 rfl rfl ?_
  refine x_aload_n (q := 6) dX5_wordOf_5 rfl rfl ?_
  refine x_alen (q := 7) (v := 20) dX5_wordOf_6 rfl (ra_57) (by decide) (by decide) ?_
  refine x_bipush (q := 9) (v := 10) dX5_wordOf_7 rfl (by decide) ?_
  refine x_idiv (q := 10) dX5_wordOf_9 rfl (by decide) ?_
  refine x_icmp_ge (q := 13) (t := 104) dX5_wordOf_10 rfl (by decide) (fun h10 => ?_) (fun h10 => ?_)
  · refine x_iload_n (q := 105) dX5_wordOf_104 rfl rfl ?_
    refine x_ireturn dX5_wordOf_105 rfl rfl ?_
    exact absurd h10 (by decide)
  refine x_aload_n (q := 14) dX5_wordOf_13 rfl rfl ?_
  refine x_getI (q := 17) dX5_wordOf_14 rfl fl_X5_191 (ob5_token) ?_
  refine x_iconst (q := 18) (v := 1) dX5_wordOf_17 rfl (by decide) ?_
  refine x_icmp_ne (q := 21) (t := 104) dX5_wordOf_18 rfl (by decide) (fun h18 => ?_) (fun h18 => ?_)
  · refine x_iload_n (q := 105) dX5_wordOf_104 rfl rfl ?_
    refine x_ireturn dX5_wordOf_105 rfl rfl ?_
    exact ⟨rfl, rfl⟩
  exact absurd h18 ht
