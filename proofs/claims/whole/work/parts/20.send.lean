/-! how to send: pure -/
theorem par_in {k n : Nat} {x : Int32} (hn : x = nI n) (h8 : n ≤ 8) (hk : k < n) : outI (nI k) 0 (x - 1) = false := by
  subst hn
  obtain ⟨j, rfl⟩ : ∃ j, n = j + 1 := ⟨n - 1, by omega⟩
  rw [nI_pred]
  unfold outI
  rw [Bool.or_eq_false_iff, decide_eq_false_iff_not, decide_eq_false_iff_not]
  exact ⟨jnI_nneg (by omega), fun q => absurd ((jnI_lt (by omega) (by omega)).mp q) (by omega)⟩
theorem rng_in {c a b : Nat} (h1 : a ≤ c) (h2 : c ≤ b) (hb : b < 2147483648) : outI (nI c) (nI a) (nI b) = false := by
  unfold outI
  rw [Bool.or_eq_false_iff, decide_eq_false_iff_not, decide_eq_false_iff_not]
  exact ⟨fun q => absurd ((jnI_lt (by omega) (by omega)).mp q) (by omega), fun q => absurd ((jnI_lt (by omega) (by omega)).mp q) (by omega)⟩
theorem Iv.upd_p {n k f : Nat} {s : Nat → Int32} {v : Int32} (h : Iv n s) (hk : k < n) (hf : f < 7) (h0 : f = 0 → ∃ c, c ≤ 6 ∧ v = nI c) (h5 : f = 5 → v = 0 ∨ v = 1) : Iv n (upd s (12 + 7 * k + f) v) := by
  obtain ⟨h8, e1, hd, hl, hp, hs⟩ := h
  refine ⟨h8, by rw [upd_ne (by omega), e1], by rw [upd_ne (by omega)]; exact hd, by rw [upd_ne (by omega)]; exact hl, fun j hj => ⟨?_, ?_⟩, fun j hj => ?_⟩
  · by_cases e : 12 + 7 * j + 5 = 12 + 7 * k + f
    · rw [e, upd_self]
      exact h5 (by omega)
    · rw [upd_ne e]
      exact (hp j hj).1
  · by_cases e : 12 + 7 * j + 0 = 12 + 7 * k + f
    · rw [e, upd_self]
      exact h0 (by omega)
    · rw [upd_ne e]
      exact (hp j hj).2
  · rw [upd_ne (by omega)]
    exact hs j hj
theorem stp_done {t d : Int32} {p : Nat → Int32} (h : ¬ p 4 = 0) : stp t d p = p := by
  have e : mtp t d p = p := if_neg h
  unfold stp
  rw [e]
  exact if_neg h
theorem dyC_done {n k : Nat} {s : Nat → Int32} (hk : k < n) (h : ¬ s (12 + 7 * k + 4) = 0) : dyC s n (12 + 7 * k + 4) = s (12 + 7 * k + 4) := by
  rw [dyC_p hk (by decide), stp_done h]
  rfl
theorem dysC_done {n k : Nat} (hk : k < n) : ∀ (c : Nat) {s : Nat → Int32}, ¬ s (12 + 7 * k + 4) = 0 → dysC n c s (12 + 7 * k + 4) = s (12 + 7 * k + 4)
  | 0, _, _ => rfl
  | c + 1, s, h => by
    show dysC n c (dyC s n) _ = _
    rw [dysC_done hk c (by rw [dyC_done hk h]; exact h), dyC_done hk h]
/-- days go by until the parcel lies no more -/
def tkR (n k : Nat) : Nat → (Nat → Int32) → Nat → Int32
  | 0, u => u
  | c + 1, u => if u (12 + 7 * k + 4) = 0 then tkR n k c (dyC u n) else u
theorem tkR_state {n k : Nat} (hk : k < n) : ∀ (c : Nat) (u : Nat → Int32), tkR n k c u (12 + 7 * k + 4) = dysC n c u (12 + 7 * k + 4)
  | 0, _ => rfl
  | c + 1, u => by
    unfold tkR
    by_cases h : u (12 + 7 * k + 4) = 0
    · rw [if_pos h, tkR_state hk c (dyC u n)]
      rfl
    · rw [if_neg h, dysC_done hk (c + 1) h]
/-- whether parcel k is taken behind c days, if place i of the row is v now -/
def tkn (s : Nat → Int32) (n k c i : Nat) (v : Int32) : Bool := decide (dysC n c (upd s i v) (12 + 7 * k + 4) = 1)
theorem tkn_bc {n k c i : Nat} {X s : Nat → Int32} {v : Int32} (hk : k < n) (hI : Iv n (upd s i v)) : decide (dysC n c (upd (bcF X s n) i v) (12 + 7 * k + 4) = 1) = tkn s n k c i v := by
  have h8 := hI.1
  have e : Eqv n (upd s i v) (upd (bcF X s n) i v) := eqv_upd (bcF_eqv h8).sy
  unfold tkn
  rw [(e.days c hI).pp h8 hk (by decide)]
theorem tkn_congr {n k c i : Nat} {s u : Nat → Int32} {v : Int32} (hk : k < n) (h : Eqv n s u) (hI : Iv n (upd s i v)) : tkn s n k c i v = tkn u n k c i v := by
  have h8 := hI.1
  have e : Eqv n (upd s i v) (upd u i v) := eqv_upd h
  unfold tkn
  rw [(e.days c hI).pp h8 hk (by decide)]
/-- from j - 1 down to lo: the first for which it is so -/
def srD (P : Nat → Bool) (lo : Nat) : Nat → Option Nat
  | 0 => none
  | j + 1 => if j < lo then none else if P j = true then some j else srD P lo j
theorem srD_congr {P Q : Nat → Bool} {lo : Nat} : ∀ j, (∀ i, i < j → P i = Q i) → srD P lo j = srD Q lo j
  | 0, _ => rfl
  | j + 1, h => by unfold srD; rw [h j (by omega), srD_congr j (fun i hi => h i (by omega))]
theorem srch_congr2 {P Q : Nat → Bool} : ∀ f j, (∀ i, i < j + f → P i = Q i) → srch P f j = srch Q f j
  | 0, _, _ => rfl
  | f + 1, j, h => by unfold srch; rw [h j (by omega), srch_congr2 f (j + 1) (fun i hi => h i (by omega))]
def dI (j : Nat) : Int32 := nI j - 1
theorem dI_s (j : Nat) : dI (j + 1) = nI j := nI_pred j
theorem dI_dec (j : Nat) : dI (j + 1) + Int32.ofInt (-1) = dI j := by
  rw [dI_s]
  unfold dI
  rw [show Int32.ofInt (-1) = -1 from by decide, Int32.sub_eq_add_neg]
theorem dI_lt {j lo : Nat} (h : j ≤ 1000) (hl : lo ≤ 1000) : dI j < nI lo ↔ j ≤ lo := by
  cases j with
  | zero =>
    rw [Int32.lt_iff_toInt_lt, jnI_toInt (by omega)]
    have z : (dI 0).toInt = -1 := by decide
    rw [z]
    omega
  | succ j => rw [dI_s, jnI_lt (by omega) (by omega)]; omega
def memC (m : TM) (X : Nat → Int32) (r : Option Nat) : TM := match r with
  | some _ => sr m 13 X
  | none => fnd (sr m 13 X) 3
def memR (m : TM) (Y : Nat → Int32) (r : Option Nat) : TM := match r with
  | some _ => sr m 52 Y
  | none => fnm (sr m 52 Y) 3
theorem asM_sr {m : TM} {Y : Nat → Int32} : asM (sr m 52 Y) = asM m := by unfold asM; rw [sr_ne (by decide), sr_sr]
theorem c_setY {K : Cx} {m : TM} {Y : Nat → Int32} : CT yX5_setsAside cX5_setsAside 2 none 0 0 K [.ref 49] (sr m 52 Y) none (sr (asM m) 50 (m.1 50)) := by
  have h := c_set (K := K) (m := sr m 52 Y)
  rwa [asM_sr, sr_ne (by decide)] at h
/-! weights that the sea can't tell apart -/
def Rw (k : Nat) (s u : Nat → Int32) : Prop := (∀ i, i ≠ 3 → i ≠ 12 + 7 * k + 2 → s i = u i) ∧ wal (s (12 + 7 * k + 2)) (u (12 + 7 * k + 2)) = true
theorem wal_sg {kd ln w w' tn d t : Int32} (h : wal w w' = true) : sg kd ln w tn d t = sg kd ln w' tn d t := by
  unfold wal at h
  rw [Bool.and_eq_true, decide_eq_true_iff, decide_eq_true_iff] at h
  obtain ⟨h1, h2⟩ := h
  have h3 : decide (w < 5) = decide (w' < 5) := by
    cases hA : decide (w < 5) <;> cases hB : decide (w' < 5) <;> rw [hA, hB] at h1 <;> first | rfl | exact absurd h1 (by decide)
  unfold sg
  rw [h2, h3]
theorem wal_stp {t d : Int32} {p q : Nat → Int32} (h : ∀ f, f < 7 → f ≠ 2 → p f = q f) (hw : wal (p 2) (q 2) = true) : ∀ f, f < 7 → f ≠ 2 → stp t d p f = stp t d q f := by
  have hg : tkp t d p = tkp t d q := by
    unfold tkp
    rw [h 0 (by decide) (by decide), h 1 (by decide) (by decide), h 6 (by decide) (by decide)]
    exact wal_sg hw
  have hm : ∀ f, f < 7 → f ≠ 2 → mtp t d p f = mtp t d q f := by
    intro f hf h2
    have hff := h f hf h2
    unfold mtp mep trp
    rw [hg, h 0 (by decide) (by decide), h 1 (by decide) (by decide), h 4 (by decide) (by decide), h 5 (by decide) (by decide), h 6 (by decide) (by decide)]
    repeat' split
    all_goals first | exact hff | (unfold upd; rw [hff])
  intro f hf h2
  have hff := hm f hf h2
  unfold stp wtp wap
  rw [hm 0 (by decide) (by decide), hm 3 (by decide) (by decide), hm 4 (by decide) (by decide)]
  repeat' split
  all_goals first | exact hff | (unfold upd; rw [hff])
theorem Rw_tk3 {k j : Nat} {t d : Int32} {s u : Nat → Int32} (h : Rw k s u) : tk3 t d (pf s j) ↔ tk3 t d (pf u j) := by
  by_cases e : j = k
  · subst e
    have hg : tkp t d (pf s j) = tkp t d (pf u j) := by
      unfold tkp pf
      rw [h.1 (12 + 7 * j + 0) (by omega) (by omega), h.1 (12 + 7 * j + 1) (by omega) (by omega), h.1 (12 + 7 * j + 6) (by omega) (by omega)]
      exact wal_sg h.2
    unfold tk3
    rw [hg]
    unfold pf
    rw [h.1 (12 + 7 * j + 4) (by omega) (by omega), h.1 (12 + 7 * j + 5) (by omega) (by omega)]
  · refine tk3_congr fun f hf => ?_
    exact h.1 _ (by omega) (by omega)
theorem Rw_laL {k : Nat} {t : Int32} {s u : Nat → Int32} (h : Rw k s u) : ∀ j, laL s t j = laL u t j
  | 0 => h.1 4 (by omega) (by omega)
  | j + 1 => by
    have e := Rw_laL (t := t) h j
    have e0 : s 0 = u 0 := h.1 0 (by omega) (by omega)
    have ek : pf s j 0 = pf u j 0 := h.1 _ (by omega) (by omega)
    by_cases hk : tk3 t (s 0) (pf s j)
    · have hk2 : tk3 t (u 0) (pf u j) := by rw [← e0]; exact (Rw_tk3 h).mp hk
      simp only [laL, if_pos hk, if_pos hk2]
      rw [e, ek]
    · have hk2 : ¬ tk3 t (u 0) (pf u j) := by rw [← e0]; exact fun q => hk ((Rw_tk3 h).mpr q)
      simp only [laL, if_neg hk, if_neg hk2]
      exact e
theorem Rw_day {n k : Nat} {s u : Nat → Int32} (h : Rw k s u) (hk : k < n) (ht : TD s) : Rw k (dyC s n) (dyC u n) := by
  have e0 : s 0 = u 0 := h.1 0 (by omega) (by omega)
  have e4 : s 4 = u 4 := h.1 4 (by omega) (by omega)
  have ex : tdx s = tdx u := by unfold tdx; rw [e0, e4]
  have hx : tdx s < 6 := ht.2.2
  have et : tdF s = tdF u := by
    unfold tdF
    rw [← ex, h.1 (6 + tdx s) (by omega) (by omega), h.1 5 (by omega) (by omega)]
  refine ⟨fun i h3 h2 => ?_, ?_⟩
  · by_cases a : i < 12
    · by_cases a0 : i = 0
      · subst a0; rw [dyC_0, dyC_0, e0]
      · by_cases a4 : i = 4
        · subst a4; rw [dyC_4, dyC_4, et]; exact Rw_laL h n
        · rw [dyC_lo a a0 h3 a4, dyC_lo a a0 h3 a4, h.1 i h3 h2]
    · by_cases b : 12 + 7 * n ≤ i
      · rw [dyC_hi b, dyC_hi b, h.1 i h3 h2]
      · have ei : 12 + 7 * ((i - 12) / 7) + (i - 12) % 7 = i := by omega
        have hj : (i - 12) / 7 < n := by omega
        have hf : (i - 12) % 7 < 7 := by omega
        rw [← ei, dyC_p hj hf, dyC_p hj hf, et, e0]
        by_cases ej : (i - 12) / 7 = k
        · refine wal_stp (fun f hf2 h22 => ?_) ?_ _ hf (by omega)
          · exact h.1 _ (by omega) (by omega)
          · unfold pf
            rw [ej]
            exact h.2
        · exact stp_congr (fun f hf2 => h.1 _ (by omega) (by omega)) _ hf
  · rw [dyC_p hk (by decide), dyC_p hk (by decide), stp_keep.2.1, stp_keep.2.1]
    exact h.2
theorem Rw_days {n k : Nat} (hk : k < n) : ∀ (c : Nat) {s u : Nat → Int32}, Rw k s u → Iv n s → Rw k (dysC n c s) (dysC n c u)
  | 0, _, _, h, _ => h
  | c + 1, _, _, h, hI => Rw_days hk c (Rw_day h hk hI.td) hI.day
/-- a parcel of a weight like another's is taken as the other is -/
theorem wal_tkn {n k c : Nat} {s : Nat → Int32} {a b : Int32} (hk : k < n) (hI : Iv n s) (h : wal a b = true) : tkn s n k c (12 + 7 * k + 2) a = tkn s n k c (12 + 7 * k + 2) b := by
  have hr : Rw k (upd s (12 + 7 * k + 2) a) (upd s (12 + 7 * k + 2) b) := ⟨fun i _ h2 => by rw [upd_ne h2, upd_ne h2], by rw [upd_self, upd_self]; exact h⟩
  have hI2 : Iv n (upd s (12 + 7 * k + 2) a) := hI.upd_p hk (by decide) (fun q => by omega) (fun q => by omega)
  unfold tkn
  rw [(Rw_days hk c hr hI2).1 (12 + 7 * k + 4) (by omega) (by omega)]
/-! the kind that pays most -/
def kfA (s : Nat → Int32) (n k c j : Nat) : Int32 := dysC n c (upd s (12 + 7 * k + 0) (nI j)) 3
def kfF (a : Nat → Int32) : Nat → Int32 × Int32
  | 0 => (0, -1)
  | j + 1 => if (kfF a j).2 < a j then (nI j, a j) else kfF a j
theorem kfF_congr {a b : Nat → Int32} : ∀ j, (∀ i, i < j → a i = b i) → kfF a j = kfF b j
  | 0, _ => rfl
  | j + 1, h => by unfold kfF; rw [kfF_congr j (fun i hi => h i (by omega)), h j (by omega)]
/-! told places -/
def atF (n k : Nat) (w : Nat → Int32) : Nat → Nat → (Nat → Int32) → Bool
  | 0, _, _ => true
  | r + 1, i, u => if w i = -1 ∨ w i = dyC u n (12 + 7 * k + 1) then atF n k w r (i + 1) (dyC u n) else false
theorem atF_congr {n k : Nat} {w w' : Nat → Int32} (hk : k < n) : ∀ (r i : Nat) {s u : Nat → Int32}, (∀ j, i ≤ j → j < i + r → w j = w' j) → Eqv n s u → Iv n s → atF n k w r i s = atF n k w' r i u
  | 0, _, _, _, _, _, _ => rfl
  | r + 1, i, s, u, hw, h, hI => by
    have h8 := hI.1
    unfold atF
    rw [hw i (by omega) (by omega), (h.day hI).pp h8 hk (by decide), atF_congr hk r (i + 1) (fun j a b => hw j (by omega) (by omega)) (h.day hI) hI.day]
def fsF (P : Nat → Bool) : Nat → Int32
  | 0 => 0
  | j + 1 => if P j = true then fsF P j ||| ((1 : Int32) <<< (nI j &&& 31)) else fsF P j
theorem fsF_congr {P Q : Nat → Bool} : ∀ j, (∀ i, i < j → P i = Q i) → fsF P j = fsF Q j
  | 0, _ => rfl
  | j + 1, h => by unfold fsF; rw [fsF_congr j (fun i hi => h i (by omega)), h j (by omega)]
