/-! what is told: the same on rows that are the same; the whole text of the class -/
theorem newF_out {s : Nat → Int32} {n i : Nat} {x : Int32} (h : i < 12 + 7 * n ∨ 12 + 7 * n + 7 ≤ i) : newF s n x i = s i := by
  unfold newF
  rw [upd_ne (by omega), upd_ne (by omega), upd_ne (by omega), upd_ne (by omega), upd_ne (by omega), upd_ne (by omega), upd_ne (by omega)]
theorem newF_in {s : Nat → Int32} {n f : Nat} {x : Int32} (hf : f < 7) : newF s n x (12 + 7 * n + f) = if f = 0 then x else if f = 2 then 10 else 0 := by
  unfold newF
  obtain rfl | rfl | rfl | rfl | rfl | rfl | rfl : f = 0 ∨ f = 1 ∨ f = 2 ∨ f = 3 ∨ f = 4 ∨ f = 5 ∨ f = 6 := by omega
  · rw [upd_ne (by omega), upd_ne (by omega), upd_ne (by omega), upd_ne (by omega), upd_ne (by omega), upd_ne (by omega), upd_self]; rfl
  · rw [upd_ne (by omega), upd_ne (by omega), upd_ne (by omega), upd_ne (by omega), upd_ne (by omega), upd_self]; rfl
  · rw [upd_ne (by omega), upd_ne (by omega), upd_ne (by omega), upd_ne (by omega), upd_self]; rfl
  · rw [upd_ne (by omega), upd_ne (by omega), upd_ne (by omega), upd_self]; rfl
  · rw [upd_ne (by omega), upd_ne (by omega), upd_self]; rfl
  · rw [upd_ne (by omega), upd_self]; rfl
  · rw [upd_self]; rfl
/-- a row with a new parcel -/
def lyN (s : Nat → Int32) (n c : Nat) : Nat → Int32 := upd (newF s n (nI c)) 1 (nI (n + 1))
theorem Iv.new {n c : Nat} {s : Nat → Int32} (h : Iv n s) (h8 : n < 8) (hc : c ≤ 6) : Iv (n + 1) (lyN s n c) := by
  obtain ⟨_, h1, ⟨d, hd, h0⟩, ⟨l, hl, h4⟩, hp, hs⟩ := h
  unfold lyN
  refine ⟨by omega, upd_self, ⟨d, hd, ?_⟩, ⟨l, hl, ?_⟩, fun k hk => ?_, fun j hj => ?_⟩
  · rw [upd_ne (by omega), newF_out (Or.inl (by omega))]; exact h0
  · rw [upd_ne (by omega), newF_out (Or.inl (by omega))]; exact h4
  · rw [upd_ne (by omega), upd_ne (by omega)]
    by_cases e : k = n
    · subst e
      rw [newF_in (by decide), newF_in (by decide)]
      exact ⟨Or.inl rfl, c, hc, rfl⟩
    · rw [newF_out (Or.inl (by omega)), newF_out (Or.inl (by omega))]
      exact hp k (by omega)
  · rw [upd_ne (by omega), newF_out (Or.inr (by omega))]
    rcases hs j hj with q | ⟨k, hk, q⟩
    · exact Or.inl q
    · exact Or.inr ⟨k, by omega, q⟩
theorem Eqv.new {n c : Nat} {s u : Nat → Int32} (h : Eqv n s u) (h8 : n < 8) : Eqv (n + 1) (lyN s n c) (lyN u n c) := by
  unfold lyN
  refine Eqv.of (fun i hi => ?_) (fun k hk f hf => ?_) (fun j hj => ?_)
  · by_cases e : i = 1
    · rw [e, upd_self, upd_self]
    · rw [upd_ne e, upd_ne e, newF_out (Or.inl (by omega)), newF_out (Or.inl (by omega))]
      exact h.lo hi
  · rw [upd_ne (by omega), upd_ne (by omega)]
    by_cases e : k = n
    · subst e
      rw [newF_in hf, newF_in hf]
    · rw [newF_out (Or.inl (by omega)), newF_out (Or.inl (by omega))]
      exact h.pp (by omega) (by omega) hf
  · rw [upd_ne (by omega), upd_ne (by omega), newF_out (Or.inr (by omega)), newF_out (Or.inr (by omega))]
    exact h.sp hj
def IE (n : Nat) (s u : Nat → Int32) : Prop := Iv n s ∧ Eqv n s u
def RR2 (n : Nat) (r q : Rd) : Prop := r.1 = q.1 ∧ IE n r.2.1 q.2.1 ∧ r.2.2 = q.2.2
theorem andT_rel {n : Nat} {r q : Rd} {k : (Nat → Int32) → Nat → Rd} (h : RR2 n r q) (hk : ∀ s u j, IE n s u → RR2 n (k s j) (k u j)) : RR2 n (andT r k) (andT q k) := by
  unfold andT
  rw [← h.1, ← h.2.2]
  split
  · exact hk _ _ _ h.2.1
  · exact h
theorem IE.par {n k f : Nat} {v : Int32} {s u : Nat → Int32} (h : IE n s u) (hk : k < n) (hf : f < 7) (h0 : f ≠ 0) (h5 : f = 5 → v = 0 ∨ v = 1) : IE n (upd s (12 + 7 * k + f) v) (upd u (12 + 7 * k + f) v) := ⟨h.1.upd_p hk hf (fun q => absurd q h0) h5, eqv_upd h.2⟩
theorem IE.lo {n i : Nat} {v : Int32} {s u : Nat → Int32} (h : IE n s u) (hi : i < 12) (h0 : i ≠ 0) (h1 : i ≠ 1) (h4 : i ≠ 4) : IE n (upd s i v) (upd u i v) := ⟨h.1.upd_lo hi h0 h1 h4, eqv_upd h.2⟩
section TELLS
variable {L : Nat} {w : Nat → Int32}
theorem pF_rel {n k f wi a b j : Nat} {s u : Nat → Int32} (h : IE n s u) (hk : k < n) (hf : f < 7) (h0 : f ≠ 0) (h5 : f ≠ 5) : RR2 n (pF L w k f wi a b s j) (pF L w k f wi a b u j) := by
  unfold pF
  split
  · split
    · exact ⟨rfl, h.par hk hf h0 (fun q => absurd q h5), rfl⟩
    · exact ⟨rfl, h, rfl⟩
  · exact ⟨rfl, h, rfl⟩
theorem hlF_rel {n k j : Nat} {s u : Nat → Int32} (h : IE n s u) (hk : k < n) : RR2 n (hlF L w k s j) (hlF L w k u j) := by
  unfold hlF
  split
  · exact ⟨rfl, h.par hk (by decide) (by decide) (fun _ => Or.inr rfl), rfl⟩
  · exact ⟨rfl, h, rfl⟩
theorem pcF_rel {n c j : Nat} {s u : Nat → Int32} (h : IE n s u) (h8 : n < 8) (hc : c ≤ 6) : RR2 (n + 1) (pcF L w n c s j) (pcF L w n c u j) := by
  have hn : IE (n + 1) (lyN s n c) (lyN u n c) := ⟨h.1.new h8 hc, h.2.new h8⟩
  exact andT_rel (pF_rel hn (by omega) (by decide) (by decide) (by decide)) (fun s u j h => andT_rel (pF_rel h (by omega) (by decide) (by decide) (by decide)) (fun s u j h => andT_rel (pF_rel h (by omega) (by decide) (by decide) (by decide)) (fun s u j h => hlF_rel h (by omega))))
theorem tdR_rel {n j : Nat} {s u : Nat → Int32} (h : IE n s u) : RR2 n (tdR L w s j) (tdR L w u j) := by
  unfold tdR
  split
  · rename_i h1
    have hv := (nu_so h1).2.2
    split
    · exact ⟨rfl, h.lo (by omega) (by omega) (by omega) (by omega), rfl⟩
    · exact ⟨rfl, h, rfl⟩
  · exact ⟨rfl, h, rfl⟩
theorem smR_rel {n j : Nat} {s u : Nat → Int32} (h : IE n s u) : RR2 n (smR L w s j) (smR L w u j) := by
  unfold smR
  split
  · exact ⟨rfl, h.lo (by omega) (by omega) (by omega) (by omega), rfl⟩
  · exact ⟨rfl, h, rfl⟩
theorem kdF_le {j : Nat} : ∀ f c d, kdF L w j f c = some d → d < c + f ∧ isW L w j (wdN (nI d)) = true
  | 0, _, _, h => by cases h
  | f + 1, c, d, h => by
    unfold kdF at h
    by_cases e : isW L w j (wdN (nI c)) = true
    · rw [if_pos e] at h
      cases h
      exact ⟨by omega, e⟩
    · rw [if_neg e] at h
      have := kdF_le f (c + 1) d h
      exact ⟨by omega, this.2⟩
theorem cl_n {n : Nat} {s : Nat → Int32} (h : Iv n s) : cl (s 1) = n := by rw [h.2.1]; exact jnI_clamp (by have := h.1; omega)
theorem it_rel {n j : Nat} {s u : Nat → Int32} (h : IE n s u) : ∃ n', RR2 n' (itF L w s j) (itF L w u j) := by
  unfold itF
  split
  · exact ⟨n, tdR_rel h⟩
  · split
    · exact ⟨n, smR_rel h⟩
    · have e1 := cl_n h.1
      have e2 := cl_n (h.2.iv h.1)
      cases hk : kdF L w j 7 0 with
      | none => exact ⟨n, rfl, h, rfl⟩
      | some c =>
        have hc := (kdF_le 7 0 c hk).1
        show ∃ n', RR2 n' (if cl (s 1) = 8 then (false, s, j) else pcF L w (cl (s 1)) c s j) (if cl (u 1) = 8 then (false, u, j) else pcF L w (cl (u 1)) c u j)
        rw [e1, e2]
        by_cases h8 : n = 8
        · rw [if_pos h8, if_pos h8]
          exact ⟨n, rfl, h, rfl⟩
        · rw [if_neg h8, if_neg h8]
          exact ⟨n + 1, pcF_rel h (by have := h.1.1; omega) (by omega)⟩
theorem andT_le {r : Rd} {k : (Nat → Int32) → Nat → Rd} {j0 : Nat} (h : j0 ≤ r.2.2 ∧ r.2.2 ≤ L) (hk : ∀ s j, j0 ≤ j → j ≤ L → j0 ≤ (k s j).2.2 ∧ (k s j).2.2 ≤ L) : j0 ≤ (andT r k).2.2 ∧ (andT r k).2.2 ≤ L := by
  unfold andT
  split
  · exact hk _ _ h.1 h.2
  · exact h
theorem pF_le2 {n f wi a b j j0 : Nat} {s : Nat → Int32} (h0 : j0 ≤ j) (hj : j ≤ L) : j0 ≤ (pF L w n f wi a b s j).2.2 ∧ (pF L w n f wi a b s j).2.2 ≤ L := by
  have h := pF_le (n := n) (f := f) (wi := wi) (a := a) (b := b) (w := w) (s := s) hj
  exact ⟨by omega, h.2⟩
theorem pcF_le {n c j : Nat} {s : Nat → Int32} (hj : j ≤ L) : nxF L w j ≤ (pcF L w n c s j).2.2 ∧ (pcF L w n c s j).2.2 ≤ L := by
  refine andT_le (pF_le2 (Nat.le_refl _) (nxF_le hj).2) (fun s j h1 h2 => andT_le (pF_le2 h1 h2) (fun s j h1 h2 => andT_le (pF_le2 h1 h2) (fun s j h1 h2 => ?_)))
  have h3 := nxF_le (w := w) h2
  unfold hlF
  split
  · exact ⟨by show _ ≤ nxF L w j; omega, h3.2⟩
  · exact ⟨h1, h2⟩
theorem it_le {j : Nat} {s : Nat → Int32} (hj : j ≤ L) : j ≤ (itF L w s j).2.2 ∧ (itF L w s j).2.2 ≤ L ∧ ((itF L w s j).1 = true → j < (itF L w s j).2.2) := by
  have h1 := nxF_le (w := w) hj
  have h2 := nxF_le (w := w) h1.2
  have h3 := nxF_le (w := w) h2.2
  unfold itF
  split
  · rename_i q
    have h4 := nxF_gt (L := L) (w := w) (j := j) (by rw [isW_so q]; decide)
    unfold tdR
    split
    · split
      · exact ⟨by show j ≤ nxF L w (nxF L w (nxF L w j)); omega, h3.2, fun _ => by show j < nxF L w (nxF L w (nxF L w j)); omega⟩
      · exact ⟨by show j ≤ nxF L w (nxF L w j); omega, h2.2, fun z => by cases z⟩
    · exact ⟨h1.1, h1.2, fun z => by cases z⟩
  · split
    · rename_i q
      have h4 := nxF_gt (L := L) (w := w) (j := j) (by rw [isW_so q]; decide)
      unfold smR
      split
      · exact ⟨by show j ≤ nxF L w (nxF L w j); omega, h2.2, fun _ => by show j < nxF L w (nxF L w j); omega⟩
      · exact ⟨h1.1, h1.2, fun z => by cases z⟩
    · cases hk : kdF L w j 7 0 with
      | none => exact ⟨Nat.le_refl _, hj, fun z => by cases z⟩
      | some c =>
        have h4 := nxF_gt (L := L) (w := w) (j := j) (by rw [isW_so (kdF_le 7 0 c hk).2]; decide)
        show j ≤ (if cl (s 1) = 8 then (false, s, j) else pcF L w (cl (s 1)) c s j : Rd).2.2 ∧ (if cl (s 1) = 8 then (false, s, j) else pcF L w (cl (s 1)) c s j : Rd).2.2 ≤ L ∧ ((if cl (s 1) = 8 then (false, s, j) else pcF L w (cl (s 1)) c s j : Rd).1 = true → j < (if cl (s 1) = 8 then (false, s, j) else pcF L w (cl (s 1)) c s j : Rd).2.2)
        split
        · exact ⟨Nat.le_refl _, hj, fun z => by cases z⟩
        · have h5 := pcF_le (w := w) (n := cl (s 1)) (c := c) (s := s) hj
          exact ⟨by omega, h5.2, fun _ => by omega⟩
theorem isW_end {j k : Nat} (h : soF L w j = 0) : isW L w j k = false := by
  cases e : isW L w j k with
  | false => rfl
  | true => exact absurd (h.symm.trans (isW_so e)) (by decide)
theorem it_end {j : Nat} {s : Nat → Int32} (h : soF L w j = 0) : itF L w s j = (false, s, j) := by
  have hk : ∀ f c, kdF L w j f c = none := by
    intro f
    induction f with
    | zero => intro c; rfl
    | succ f ih =>
      intro c
      unfold kdF
      rw [if_neg (by rw [isW_end h]; decide)]
      exact ih _
  unfold itF
  rw [if_neg (by rw [isW_end h]; decide), if_neg (by rw [isW_end h]; decide), hk]
  rfl
theorem tl_rel : ∀ (f i : Nat) {n : Nat} {s u : Nat → Int32} {j : Nat}, IE n s u → (tlF L w f i s j).1 = (tlF L w f i u j).1 ∧ (tlF L w f i s j).2.1 = (tlF L w f i u j).2.1 ∧ ∃ n', IE n' (tlF L w f i s j).2.2 (tlF L w f i u j).2.2
  | 0, i, n, s, u, j, h => ⟨rfl, rfl, n, h⟩
  | f + 1, i, n, s, u, j, h => by
    obtain ⟨n', h1, h2, h3⟩ := it_rel (L := L) (w := w) (j := j) h
    unfold tlF
    dsimp only
    rw [← h1, ← h3]
    split
    · split
      · exact ⟨rfl, rfl, n', h2⟩
      · split
        · exact tl_rel f (i + 1) h2
        · exact ⟨rfl, rfl, n', h2⟩
    · exact ⟨rfl, rfl, n', h2⟩
theorem tl_bd : ∀ (f i : Nat) {s : Nat → Int32} {j : Nat}, j ≤ L → ((tlF L w f i s j).1 = true → i ≤ (tlF L w f i s j).2.1 ∧ (tlF L w f i s j).2.1 ≤ i + f) ∧ ((tlF L w f i s j).1 = false → (tlF L w f i s j).2.1 ≤ L)
  | 0, i, s, j, h => ⟨fun q => (by cases q), fun _ => h⟩
  | f + 1, i, s, j, h => by
    obtain ⟨h1, h2, h3⟩ := it_le (L := L) (w := w) (s := s) h
    unfold tlF
    dsimp only
    split
    · split
      · exact ⟨fun _ => ⟨Nat.le_refl _, by show i ≤ i + (f + 1); omega⟩, fun q => by cases q⟩
      · split
        · have h9 := tl_bd f (i + 1) (s := (itF L w s j).2.1) (nxF_le (w := w) h2).2
          exact ⟨fun q => by have := h9.1 q; omega, h9.2⟩
        · exact ⟨fun q => (by cases q), fun _ => h2⟩
    · exact ⟨fun q => (by cases q), fun _ => h2⟩
end TELLS
def anT (t : Bool × Nat × (Nat → Int32)) : Int32 := if t.1 = true then nI t.2.1 else -1 - nI t.2.1
theorem dX3_tell_0 : decode cX3_tell 0 = .ok (.aload_n 0, 1) := by decide +kernel
theorem dX3_tell_1 : decode cX3_tell 1 = .ok (.iconst 0, 1) := by decide +kernel
theorem dX3_tell_2 : decode cX3_tell 2 = .ok (.putfield 25, 3) := by decide +kernel
theorem dX3_tell_5 : decode cX3_tell 5 = .ok (.aload_n 0, 1) := by decide +kernel
theorem dX3_tell_6 : decode cX3_tell 6 = .ok (.invokevirtual 31, 3) := by decide +kernel
theorem dX3_tell_9 : decode cX3_tell 9 = .ok (.iconst 1, 1) := by decide +kernel
theorem dX3_tell_10 : decode cX3_tell 10 = .ok (.istore_n 2, 1) := by decide +kernel
theorem dX3_tell_11 : decode cX3_tell 11 = .ok (.iload_n 2, 1) := by decide +kernel
theorem dX3_tell_12 : decode cX3_tell 12 = .ok (.bipush 120, 2) := by decide +kernel
theorem dX3_tell_14 : decode cX3_tell 14 = .ok (.if_icmp .gt 44, 3) := by decide +kernel
theorem dX3_tell_17 : decode cX3_tell 17 = .ok (.aload_n 0, 1) := by decide +kernel
theorem dX3_tell_18 : decode cX3_tell 18 = .ok (.aload_n 1, 1) := by decide +kernel
theorem dX3_tell_19 : decode cX3_tell 19 = .ok (.invokevirtual 34, 3) := by decide +kernel
theorem dX3_tell_22 : decode cX3_tell 22 = .ok (.ifCond .ne 6, 3) := by decide +kernel
theorem dX3_tell_25 : decode cX3_tell 25 = .ok (.goto 33, 3) := by decide +kernel
theorem dX3_tell_28 : decode cX3_tell 28 = .ok (.aload_n 0, 1) := by decide +kernel
theorem dX3_tell_29 : decode cX3_tell 29 = .ok (.getfield 19, 3) := by decide +kernel
theorem dX3_tell_32 : decode cX3_tell 32 = .ok (.ifCond .ne 5, 3) := by decide +kernel
theorem dX3_tell_35 : decode cX3_tell 35 = .ok (.iload_n 2, 1) := by decide +kernel
theorem dX3_tell_36 : decode cX3_tell 36 = .ok (.ireturn, 1) := by decide +kernel
theorem dX3_tell_37 : decode cX3_tell 37 = .ok (.aload_n 0, 1) := by decide +kernel
theorem dX3_tell_38 : decode cX3_tell 38 = .ok (.getfield 19, 3) := by decide +kernel
theorem dX3_tell_41 : decode cX3_tell 41 = .ok (.iconst 3, 1) := by decide +kernel
theorem dX3_tell_42 : decode cX3_tell 42 = .ok (.if_icmp .eq 6, 3) := by decide +kernel
theorem dX3_tell_45 : decode cX3_tell 45 = .ok (.goto 13, 3) := by decide +kernel
theorem dX3_tell_48 : decode cX3_tell 48 = .ok (.aload_n 0, 1) := by decide +kernel
theorem dX3_tell_49 : decode cX3_tell 49 = .ok (.invokevirtual 31, 3) := by decide +kernel
theorem dX3_tell_52 : decode cX3_tell 52 = .ok (.iinc 2 1, 3) := by decide +kernel
theorem dX3_tell_55 : decode cX3_tell 55 = .ok (.goto (-44), 3) := by decide +kernel
theorem dX3_tell_58 : decode cX3_tell 58 = .ok (.iconst (-1), 1) := by decide +kernel
theorem dX3_tell_59 : decode cX3_tell 59 = .ok (.aload_n 0, 1) := by decide +kernel
theorem dX3_tell_60 : decode cX3_tell 60 = .ok (.getfield 22, 3) := by decide +kernel
theorem dX3_tell_63 : decode cX3_tell 63 = .ok (.isub, 1) := by decide +kernel
theorem dX3_tell_64 : decode cX3_tell 64 = .ok (.ireturn, 1) := by decide +kernel
set_option maxRecDepth 20000 in
set_option maxHeartbeats 4000000 in
theorem l_X3_tell {K : Cx} {L : Nat} {m : TM} {T : Bool × Nat × (Nat → Int32)} (hL2 : L ≤ 120) : ∀ (fu : Nat) (j it f : Nat) (g s : Nat → Int32), L - j < fu → j ≤ L → it ≤ j + 1 → L - j < f → TS L (m.1 38) j g → (∃ n8, Iv n8 s) → tlF L (m.1 38) f it s j = T → XX RX3 cX3_tell 3 (some .int) 9 197 K 11 [some (.ref 37), some (.ref 13), some (.int (nI it))] [] (sr (sr m 37 g) 13 s) (fun r1 m1 => r1 = some (.int (anT T)) ∧ ∃ g1 s1, g1 1 = nI L ∧ (T.1 = true → s1 = T.2.2) ∧ m1 = sr (sr m 37 g1) 13 s1) := by
  intro fu
  induction fu with
  | zero => intro j it f g s hlt; exact absurd hlt (Nat.not_lt_zero _)
  | succ fu ih =>
    intro j it f g s hlt hj hit hf hT hI hs
    obtain ⟨n8, hI⟩ := hI
    obtain ⟨f, rfl⟩ : ∃ q, f = q + 1 := ⟨f - 1, by omega⟩
    have hle := it_le (L := L) (w := m.1 38) (s := s) hj
    obtain ⟨n9, hI9⟩ := it_rel (L := L) (w := m.1 38) (j := j) (s := s) (u := s) ⟨hI, Eqv.rf⟩
    refine x_iload_n (q := 12) dX3_tell_11 rfl rfl ?_
    refine x_bipush (q := 14) (v := 120) dX3_tell_12 rfl (by decide) ?_
    refine x_icmp_gt (q := 17) (t := 58) dX3_tell_14 rfl (by decide) (fun h14 => ?_) (fun h14 => ?_)
    · refine x_iconst (q := 59) (v := (-1)) dX3_tell_58 rfl (by decide) ?_
      refine x_aload_n (q := 60) dX3_tell_59 rfl rfl ?_
      refine x_getI (q := 63) dX3_tell_60 rfl fl_X3_22 (ob3_start) ?_
      rw [mm37, hT.2.2.1]
      refine x_isub (q := 64) dX3_tell_63 rfl ?_
      refine x_ireturn dX3_tell_64 rfl rfl ?_
      have hj120 : j = L := by
        have h9 : 120 < it := (jnI_lt (a := 120) (b := it) (by decide) (by omega)).mp h14
        omega
      have e : tlF L (m.1 38) (f + 1) it s j = (false, j, s) := by unfold tlF; dsimp only; rw [it_end (soF_0 (by omega))]; exact if_neg Bool.false_ne_true
      rw [e] at hs
      subst hs
      exact ⟨rfl, g, s, hT.1, fun q => (by cases q), rfl⟩
    refine x_aload_n (q := 18) dX3_tell_17 rfl rfl ?_
    refine x_aload_n (q := 19) dX3_tell_18 rfl rfl ?_
    refine x_callV1i (q := 22) dX3_tell_19 rfl ml_X3_34 mv_X3_tellItem rv3 rfl (c_X3_tellItem hT hL2 hj hI.2.1 hI.1) (Nat.le_of_ble_eq_true rfl) ⟨by decide, by decide⟩ (fun m9 h9 => ?_)
    obtain ⟨g19, T19, rfl⟩ := h9
    refine x_ifB_ne (q := 25) (t := 28) dX3_tell_22 rfl (by decide) (fun h22 => ?_) (fun h22 => ?_)
    · refine x_aload_n (q := 29) dX3_tell_28 rfl rfl ?_
      refine x_getI (q := 32) dX3_tell_29 rfl fl_X3_19 (ob3_sort) ?_
      rw [mm37, T19.2.1]
      refine x_if_ne (q := 35) (t := 37) dX3_tell_32 rfl (by decide) (fun h32 => ?_) (fun h32 => ?_)
      · refine x_aload_n (q := 38) dX3_tell_37 rfl rfl ?_
        refine x_getI (q := 41) dX3_tell_38 rfl fl_X3_19 (ob3_sort) ?_
        rw [mm37, T19.2.1]
        refine x_iconst (q := 42) (v := 3) dX3_tell_41 rfl (by decide) ?_
        refine x_icmp_eq (q := 45) (t := 48) dX3_tell_42 rfl (by decide) (fun h42 => ?_) (fun h42 => ?_)
        · refine x_aload_n (q := 49) dX3_tell_48 rfl rfl ?_
          refine x_callV0u (q := 52) dX3_tell_49 rfl ml_X3_31 mv_X3_step rv3 rfl (c_X3_stepM T19 hL2 hle.2.1) (Nat.le_of_ble_eq_true rfl) ⟨by decide, by decide⟩ (fun m9 h9 => ?_)
          obtain ⟨g49, T49, rfl⟩ := h9
          refine x_iinc (q := 55) (v := nI (it + 1)) dX3_tell_52 rfl rfl (jnI_s it) (by decide) rfl rfl ?_
          refine x_goto (q := 11) dX3_tell_55 (by decide) ?_
          have hgt := hle.2.2 h22
          have hnx := nxF_gt (L := L) (w := m.1 38) (j := (itF L (m.1 38) s j).2.2) h32
          have hnl := (nxF_le (L := L) (w := m.1 38) hle.2.1).2
          have e : tlF L (m.1 38) (f + 1) it s j = tlF L (m.1 38) f (it + 1) (itF L (m.1 38) s j).2.1 (nxF L (m.1 38) (itF L (m.1 38) s j).2.2) := by
            rw [tlF]
            rw [if_pos h22, if_neg h32, if_pos h42]
          rw [e] at hs
          exact ih _ (it + 1) f g49 _ (by omega) hnl (by omega) (by omega) T49 ⟨n9, hI9.2.1.1⟩ hs
        refine x_goto (q := 58) dX3_tell_45 (by decide) ?_
        refine x_iconst (q := 59) (v := (-1)) dX3_tell_58 rfl (by decide) ?_
        refine x_aload_n (q := 60) dX3_tell_59 rfl rfl ?_
        refine x_getI (q := 63) dX3_tell_60 rfl fl_X3_22 (ob3_start) ?_
        rw [mm37, T19.2.2.1]
        refine x_isub (q := 64) dX3_tell_63 rfl ?_
        refine x_ireturn dX3_tell_64 rfl rfl ?_
        have e : tlF L (m.1 38) (f + 1) it s j = (false, (itF L (m.1 38) s j).2.2, (itF L (m.1 38) s j).2.1) := by unfold tlF; dsimp only; rw [if_pos h22, if_neg h32, if_neg h42]
        rw [e] at hs
        subst hs
        exact ⟨rfl, g19, _, T19.1, fun q => (by cases q), rfl⟩
      refine x_iload_n (q := 36) dX3_tell_35 rfl rfl ?_
      refine x_ireturn dX3_tell_36 rfl rfl ?_
      have e : tlF L (m.1 38) (f + 1) it s j = (true, it, (itF L (m.1 38) s j).2.1) := by unfold tlF; dsimp only; rw [if_pos h22, if_pos h32]
      rw [e] at hs
      subst hs
      exact ⟨rfl, g19, _, T19.1, fun _ => rfl, rfl⟩
    refine x_goto (q := 58) dX3_tell_25 (by decide) ?_
    refine x_iconst (q := 59) (v := (-1)) dX3_tell_58 rfl (by decide) ?_
    refine x_aload_n (q := 60) dX3_tell_59 rfl rfl ?_
    refine x_getI (q := 63) dX3_tell_60 rfl fl_X3_22 (ob3_start) ?_
    rw [mm37, T19.2.2.1]
    refine x_isub (q := 64) dX3_tell_63 rfl ?_
    refine x_ireturn dX3_tell_64 rfl rfl ?_
    have e : tlF L (m.1 38) (f + 1) it s j = (false, (itF L (m.1 38) s j).2.2, (itF L (m.1 38) s j).2.1) := by unfold tlF; dsimp only; rw [if_neg (by rw [h22]; decide)]
    rw [e] at hs
    subst hs
    exact ⟨rfl, g19, _, T19.1, fun q => (by cases q), rfl⟩
theorem mm40 {m : TM} {g s : Nat → Int32} {i : Nat} {v : Int32} : st1 (sr (sr m 37 g) 13 s) 37 i v = sr (sr m 37 (upd g i v)) 13 s := by rw [st1_eq, mm37, mm39]
set_option maxRecDepth 20000 in
set_option maxHeartbeats 4000000 in
theorem c_X3_tell {K : Cx} {L : Nat} {g s : Nat → Int32} {m : TM} (hg : g 1 = nI L) (hL2 : L ≤ 120) (hI : ∃ n8, Iv n8 s) : CQ yX3_tell cX3_tell 3 (some .int) 9 197 K [.ref 37, .ref 13] (sr (sr m 37 g) 13 s) (fun r1 m1 => r1 = some (.int (anT (tlF L (m.1 38) 121 1 s (nxE L (m.1 38) 0)))) ∧ ∃ g1 s1, g1 1 = nI L ∧ ((tlF L (m.1 38) 121 1 s (nxE L (m.1 38) 0)).1 = true → s1 = (tlF L (m.1 38) 121 1 s (nxE L (m.1 38) 0)).2.2) ∧ m1 = sr (sr m 37 g1) 13 s1) := by
  refine ct_ofq (n := 1) (by decide +kernel) rfl rfl ?_
  show XX RX3 cX3_tell 3 (some .int) 9 197 K 0 [some (.ref 37), some (.ref 13), none] [] (sr (sr m 37 g) 13 s) (fun r1 m1 => r1 = some (.int (anT (tlF L (m.1 38) 121 1 s (nxE L (m.1 38) 0)))) ∧ ∃ g1 s1, g1 1 = nI L ∧ ((tlF L (m.1 38) 121 1 s (nxE L (m.1 38) 0)).1 = true → s1 = (tlF L (m.1 38) 121 1 s (nxE L (m.1 38) 0)).2.2) ∧ m1 = sr (sr m 37 g1) 13 s1)
  refine x_aload_n (q := 1) dX3_tell_0 rfl rfl ?_
  refine x_iconst (q := 2) (v := 0) dX3_tell_1 rfl (by decide) ?_
  refine x_putI (q := 5) dX3_tell_2 rfl fl_X3_25 (ob3_end) rfl rfl rfl rfl ?_
  rw [mm40]
  have hstep := c_X3_step (K := K) (L := L) (e := 0) (m := sr (sr m 37 (upd g 4 0)) 13 s) (by rw [mm37, upd_ne (by decide)]; exact hg) hL2 (by rw [mm37]; exact upd_self) (Nat.zero_le _)
  simp only [mm38, mm39] at hstep
  refine x_aload_n (q := 6) dX3_tell_5 rfl rfl ?_
  refine x_callV0u (q := 9) dX3_tell_6 rfl ml_X3_31 mv_X3_step rv3 rfl hstep (Nat.le_of_ble_eq_true rfl) ⟨by decide, by decide⟩ (fun m9 h9 => ?_)
  obtain ⟨g6, T6, rfl⟩ := h9
  refine x_iconst (q := 10) (v := 1) dX3_tell_9 rfl (by decide) ?_
  refine x_istore_n (q := 11) dX3_tell_10 rfl (by decide) rfl rfl ?_
  exact l_X3_tell hL2 (L + 1) (nxE L (m.1 38) 0) 1 121 g6 s (by omega) (nxE_le (Nat.zero_le _)).2 (by omega) (by omega) T6 hI rfl
