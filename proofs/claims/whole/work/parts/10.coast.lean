/-! a coast: its row of 78 numbers -/
theorem lp_stop {x : Int32} {n j : Nat} (hn : x = nI n) (h8 : n ≤ 100000) (hj : j ≤ 100000) (h : x ≤ nI j) : n ≤ j := by
  rw [hn] at h
  exact (jnI_le' (by omega) (by omega)).mp h
theorem lp_go {x : Int32} {n j : Nat} (hn : x = nI n) (h8 : n ≤ 100000) (hj : j ≤ 100000) (h : ¬ x ≤ nI j) : j < n := by
  rw [hn] at h
  exact Nat.lt_of_not_le fun q => h ((jnI_le' (by omega) (by omega)).mpr q)
def rm6 (x : Int32) : Int32 := x - x / 6 * 6
def tdx (s : Nat → Int32) : Nat := (rm6 (s 0 + s 4)).toNatClampNeg
def TD (s : Nat → Int32) : Prop := IX (rm6 (s 0 + s 4)) (tdx s) 6
def tdF (s : Nat → Int32) : Int32 := s (6 + tdx s) + s 5
def meF (s : Nat → Int32) (k : Nat) (t : Int32) : Nat → Int32 :=
  if sg (s (12 + 7 * k + 0)) (s (12 + 7 * k + 1)) (s (12 + 7 * k + 2)) (s (12 + 7 * k + 6)) (s 0) t = true then upd (upd (upd s (12 + 7 * k + 4) 1) 3 (minI (s 3 + pys (s (12 + 7 * k + 0)) (s (12 + 7 * k + 2))) 99999)) 4 (minI (s 4 + dly (s (12 + 7 * k + 0))) 9999)
  else if tch (s (12 + 7 * k + 1)) t = true then trn s k else s
def mtC (u : Nat → Int32) (t : Int32) (j : Nat) : Nat → Int32 := if u (12 + 7 * j + 4) = 0 then (if u (12 + 7 * j + 5) = 0 then meF u j t else u) else u
def stC (u : Nat → Int32) (t : Int32) (j : Nat) : Nat → Int32 := if mtC u t j (12 + 7 * j + 4) = 0 then wat (mtC u t j) j else mtC u t j
def dyL (s : Nat → Int32) (t : Int32) : Nat → Nat → Int32
  | 0 => s
  | j + 1 => stC (dyL s t j) t j
def dyC (s : Nat → Int32) (n : Nat) : Nat → Int32 := upd (dyL s (tdF s) n) 0 (minI (dyL s (tdF s) n 0 + 1) 99999)
theorem trn_lo {s : Nat → Int32} {k i : Nat} (h : i < 12) : trn s k i = s i := by
  unfold trn
  rw [upd_ne (by omega), upd_ne (by omega)]
theorem wat_lo {s : Nat → Int32} {k i : Nat} (h : i < 12) : wat s k i = s i := by
  unfold wat
  split
  · rw [upd_ne (by omega), upd_ne (by omega)]
  · rw [upd_ne (by omega)]
theorem meF_lo {s : Nat → Int32} {k i : Nat} {t : Int32} (h : i < 12) (h3 : i ≠ 3) (h4 : i ≠ 4) : meF s k t i = s i := by
  unfold meF
  split
  · rw [upd_ne h4, upd_ne h3, upd_ne (by omega)]
  · split
    · exact trn_lo h
    · rfl
theorem mtC_lo {s : Nat → Int32} {k i : Nat} {t : Int32} (h : i < 12) (h3 : i ≠ 3) (h4 : i ≠ 4) : mtC s t k i = s i := by
  unfold mtC
  split
  · split
    · exact meF_lo h h3 h4
    · rfl
  · rfl
theorem stC_lo {s : Nat → Int32} {k i : Nat} {t : Int32} (h : i < 12) (h3 : i ≠ 3) (h4 : i ≠ 4) : stC s t k i = s i := by
  unfold stC
  split
  · rw [wat_lo h, mtC_lo h h3 h4]
  · exact mtC_lo h h3 h4
theorem dyL_lo {s : Nat → Int32} {i : Nat} {t : Int32} (h : i < 12) (h3 : i ≠ 3) (h4 : i ≠ 4) : ∀ j, dyL s t j i = s i
  | 0 => rfl
  | j + 1 => by rw [dyL, stC_lo h h3 h4, dyL_lo h h3 h4 j]
/-- n days -/
def dysC (n8 : Nat) : Nat → (Nat → Int32) → Nat → Int32
  | 0, s => s
  | n + 1, s => dysC n8 n (dyC s n8)
def nz (z : Int32) : Int32 := z * 1103515245 + 12345
def dr (z : Int32) : Int32 := ((nz z).toUInt32 >>> ((8 : Int32).toUInt32 &&& Int32.toUInt32 31)).toInt32
/-- parcels of a state, of the first j, as a set -/
def thF (s : Nat → Int32) (x : Int32) : Nat → Int32
  | 0 => 0
  | j + 1 => if s (12 + 7 * j + 4) = x then thF s x j ||| ((1 : Int32) <<< (nI j &&& 31)) else thF s x j
def lyF (s : Nat → Int32) (x : Int32) : Nat → Int32
  | 0 => 0
  | j + 1 => if s (12 + 7 * j + 4) = 0 ∧ s (12 + 7 * j + 1) = x then lyF s x j ||| ((1 : Int32) <<< (nI j &&& 31)) else lyF s x j
def deF (s : Nat → Int32) (x : Int32) : Nat → Int32
  | 0 => 0
  | j + 1 => if dly (s (12 + 7 * j + 0)) ≤ 0 then deF s x j else deF s x j ||| (x &&& ((1 : Int32) <<< (nI j &&& 31)))
def weF (s : Nat → Int32) : Nat → Int32
  | 0 => 0
  | j + 1 => if s (12 + 7 * j + 4) = 0 then weF s j + s (12 + 7 * j + 2) else weF s j
def spF (s : Nat → Int32) : Nat → Int32
  | 0 => 0
  | j + 1 => if s (68 + j) = -1 then spF s j else spF s j + 1
def cpR (s u : Nat → Int32) (a d n : Nat) : Nat → Int32 := fun i => if d ≤ i ∧ i < d + n then u (a + (i - d)) else s i
theorem cpy_sr {m : TM} {b b2 a d n : Nat} {s : Nat → Int32} (hne : b2 ≠ b) : cpy (sr m b s) b2 a b d n = sr m b (cpR s (m.1 b2) a d n) := by
  unfold cpy sr cpR
  refine Prod.ext (funext fun u => funext fun v => ?_) rfl
  by_cases h : u = b
  · subst h
    by_cases h2 : d ≤ v ∧ v < d + n <;> simp [h2, hne]
  · simp [h]
def bc0 (s u : Nat → Int32) : Nat → Int32 := upd (upd (upd (upd (upd (upd (cpR s u 6 6 6) 4 (u 4)) 5 (u 5)) 3 (u 3)) 0 (u 0)) 2 (u 2)) 1 (u 1)
def bcL (s u : Nat → Int32) : Nat → Nat → Int32
  | 0 => s
  | j + 1 => bcP (bcL s u j) u j j
def bcF (s u : Nat → Int32) (n : Nat) : Nat → Int32 := cpR (bcL (bc0 s u) u n) u 68 68 10
theorem bcP_lo {s u : Nat → Int32} {k j i : Nat} (h : i < 12) : bcP s u k j i = s i := by
  unfold bcP
  rw [upd_ne (by omega), upd_ne (by omega), upd_ne (by omega), upd_ne (by omega), upd_ne (by omega), upd_ne (by omega), upd_ne (by omega)]
theorem bcL_lo {s u : Nat → Int32} {i : Nat} (h : i < 12) : ∀ j, bcL s u j i = s i
  | 0 => rfl
  | j + 1 => by rw [bcL, bcP_lo h, bcL_lo h j]
def lsub : List (Option Value) → List (Option Value) → Prop
  | [], _ => True
  | none :: a, [] => lsub a []
  | none :: a, _ :: b => lsub a b
  | some v :: a, some w :: b => v = w ∧ lsub a b
  | some _ :: _, _ => False
theorem lsub_ok : ∀ (a b : List (Option Value)), lsub a b → ∀ (i : Nat) (v : Value), a[i]? = some (some v) → b[i]? = some (some v)
  | [], _, _, i, v, h => by simp at h
  | none :: a, [], h, i, v, h2 => by
    cases i with
    | zero => simp at h2
    | succ i =>
      have := lsub_ok a [] h i v (by simpa using h2)
      simp at this
  | none :: a, _ :: b, h, i, v, h2 => by
    cases i with
    | zero => simp at h2
    | succ i =>
      have := lsub_ok a b h i v (by simpa using h2)
      simpa using this
  | some x :: a, some y :: b, h, i, v, h2 => by
    cases i with
    | zero =>
      obtain ⟨h1, -⟩ := h
      subst h1
      simpa using h2
    | succ i =>
      have := lsub_ok a b h.2 i v (by simpa using h2)
      simpa using this
  | some _ :: _, [], h, _, _, _ => h.elim
  | some _ :: _, none :: _, h, _, _, _ => h.elim
theorem x_ls {own : String} {cc : ByteArray} {mL : Nat} {rt : Option FieldType} {fr lo : Nat} {K : Cx} {pc : Nat} {ls ls2 : List (Option Value)} {st : List Value} {m : TM} {Q : Option Value → TM → Prop} (h : XX own cc mL rt fr lo K pc ls2 st m Q) (hs : lsub ls2 ls) : XX own cc mL rt fr lo K pc ls st m Q := x_sub ls2 (lsub_ok ls2 ls hs) h
theorem dX0_tideOfDay_0 : decode cX0_tideOfDay 0 = .ok (.aload_n 0, 1) := by decide +kernel
theorem dX0_tideOfDay_1 : decode cX0_tideOfDay 1 = .ok (.getfield 9, 3) := by decide +kernel
theorem dX0_tideOfDay_4 : decode cX0_tideOfDay 4 = .ok (.aload_n 0, 1) := by decide +kernel
theorem dX0_tideOfDay_5 : decode cX0_tideOfDay 5 = .ok (.getfield 25, 3) := by decide +kernel
theorem dX0_tideOfDay_8 : decode cX0_tideOfDay 8 = .ok (.aload_n 0, 1) := by decide +kernel
theorem dX0_tideOfDay_9 : decode cX0_tideOfDay 9 = .ok (.getfield 15, 3) := by decide +kernel
theorem dX0_tideOfDay_12 : decode cX0_tideOfDay 12 = .ok (.iadd, 1) := by decide +kernel
theorem dX0_tideOfDay_13 : decode cX0_tideOfDay 13 = .ok (.bipush 6, 2) := by decide +kernel
theorem dX0_tideOfDay_15 : decode cX0_tideOfDay 15 = .ok (.irem, 1) := by decide +kernel
theorem dX0_tideOfDay_16 : decode cX0_tideOfDay 16 = .ok (.iaload, 1) := by decide +kernel
theorem dX0_tideOfDay_17 : decode cX0_tideOfDay 17 = .ok (.aload_n 0, 1) := by decide +kernel
theorem dX0_tideOfDay_18 : decode cX0_tideOfDay 18 = .ok (.getfield 19, 3) := by decide +kernel
theorem dX0_tideOfDay_21 : decode cX0_tideOfDay 21 = .ok (.iadd, 1) := by decide +kernel
theorem dX0_tideOfDay_22 : decode cX0_tideOfDay 22 = .ok (.ireturn, 1) := by decide +kernel
set_option maxRecDepth 20000 in
set_option maxHeartbeats 4000000 in
theorem c_X0_tideOfDay {K : Cx} {b : Nat} {s : Nat → Int32} {m : TM} (hb : isC b) (ht : TD s) : CT yX0_tideOfDay cX0_tideOfDay 1 (some .int) 0 0 K [.ref b] (sr m b s) (some (.int (tdF s))) (sr m b s) := by
  refine ct_ofd (n := 0) (by decide +kernel) rfl rfl ?_
  show XX RX0 cX0_tideOfDay 1 (some .int) 0 0 K 0 [some (.ref b)] [] (sr m b s) (fun r1 m1 => r1 = (some (.int (tdF s))) ∧ m1 = sr m b s)
  refine x_aload_n (q := 1) dX0_tideOfDay_0 rfl rfl ?_
  refine x_getR (q := 4) dX0_tideOfDay_1 rfl fl_X0_9 (or0_list hb) ?_
  refine x_aload_n (q := 5) dX0_tideOfDay_4 rfl rfl ?_
  refine x_getIr (q := 8) dX0_tideOfDay_5 rfl fl_X0_25 (ob0_day hb) ?_
  refine x_aload_n (q := 9) dX0_tideOfDay_8 rfl rfl ?_
  refine x_getIr (q := 12) dX0_tideOfDay_9 rfl fl_X0_15 (ob0_late hb) ?_
  refine x_iadd (q := 13) dX0_tideOfDay_12 rfl ?_
  refine x_bipush (q := 15) (v := 6) dX0_tideOfDay_13 rfl (by decide) ?_
  refine x_irem (q := 16) dX0_tideOfDay_15 rfl (by decide) ?_
  refine x_ialdr (q := 17) dX0_tideOfDay_16 rfl (ar_list hb) ht rfl ?_
  refine x_aload_n (q := 18) dX0_tideOfDay_17 rfl rfl ?_
  refine x_getIr (q := 21) dX0_tideOfDay_18 rfl fl_X0_19 (ob0_storm hb) ?_
  refine x_iadd (q := 22) dX0_tideOfDay_21 rfl ?_
  refine x_ireturn dX0_tideOfDay_22 rfl rfl ?_
  exact ⟨rfl, rfl⟩
theorem dX0_nextDraw_0 : decode cX0_nextDraw 0 = .ok (.aload_n 0, 1) := by decide +kernel
theorem dX0_nextDraw_1 : decode cX0_nextDraw 1 = .ok (.aload_n 0, 1) := by decide +kernel
theorem dX0_nextDraw_2 : decode cX0_nextDraw 2 = .ok (.getfield 28, 3) := by decide +kernel
theorem dX0_nextDraw_5 : decode cX0_nextDraw 5 = .ok (.ldc 109, 2) := by decide +kernel
theorem dX0_nextDraw_7 : decode cX0_nextDraw 7 = .ok (.imul, 1) := by decide +kernel
theorem dX0_nextDraw_8 : decode cX0_nextDraw 8 = .ok (.sipush 12345, 3) := by decide +kernel
theorem dX0_nextDraw_11 : decode cX0_nextDraw 11 = .ok (.iadd, 1) := by decide +kernel
theorem dX0_nextDraw_12 : decode cX0_nextDraw 12 = .ok (.putfield 28, 3) := by decide +kernel
theorem dX0_nextDraw_15 : decode cX0_nextDraw 15 = .ok (.aload_n 0, 1) := by decide +kernel
theorem dX0_nextDraw_16 : decode cX0_nextDraw 16 = .ok (.getfield 28, 3) := by decide +kernel
theorem dX0_nextDraw_19 : decode cX0_nextDraw 19 = .ok (.bipush 8, 2) := by decide +kernel
theorem dX0_nextDraw_21 : decode cX0_nextDraw 21 = .ok (.iushr, 1) := by decide +kernel
theorem dX0_nextDraw_22 : decode cX0_nextDraw 22 = .ok (.ireturn, 1) := by decide +kernel
set_option maxRecDepth 20000 in
set_option maxHeartbeats 4000000 in
theorem c_X0_nextDraw {K : Cx} {b : Nat} {s : Nat → Int32} {m : TM} (hb : isC b) : CT yX0_nextDraw cX0_nextDraw 1 (some .int) 0 0 K [.ref b] (sr m b s) (some (.int (dr (s 2)))) (sr m b (upd s 2 (nz (s 2)))) := by
  refine ct_ofd (n := 0) (by decide +kernel) rfl rfl ?_
  show XX RX0 cX0_nextDraw 1 (some .int) 0 0 K 0 [some (.ref b)] [] (sr m b s) (fun r1 m1 => r1 = (some (.int (dr (s 2)))) ∧ m1 = sr m b (upd s 2 (nz (s 2))))
  refine x_aload_n (q := 1) dX0_nextDraw_0 rfl rfl ?_
  refine x_aload_n (q := 2) dX0_nextDraw_1 rfl rfl ?_
  refine x_getIr (q := 5) dX0_nextDraw_2 rfl fl_X0_28 (ob0_z hb) ?_
  refine x_ldc (q := 7) dX0_nextDraw_5 rfl kc_X0_109 ?_
  refine x_imul (q := 8) dX0_nextDraw_7 rfl ?_
  refine x_sipush (q := 11) (v := 12345) dX0_nextDraw_8 rfl (by decide) ?_
  refine x_iadd (q := 12) dX0_nextDraw_11 rfl ?_
  refine x_putIr (q := 15) dX0_nextDraw_12 rfl fl_X0_28 (ob0_z hb) rfl rfl rfl  ?_
  refine x_aload_n (q := 16) dX0_nextDraw_15 rfl rfl ?_
  refine x_getIr (q := 19) dX0_nextDraw_16 rfl fl_X0_28 (ob0_z hb) ?_
  refine x_bipush (q := 21) (v := 8) dX0_nextDraw_19 rfl (by decide) ?_
  refine x_iushr (q := 22) dX0_nextDraw_21 rfl ?_
  refine x_ireturn dX0_nextDraw_22 rfl rfl ?_
  exact ⟨by rw [upd_self]; rfl, rfl⟩
theorem dX0_meet_0 : decode cX0_meet 0 = .ok (.aload_n 1, 1) := by decide +kernel
theorem dX0_meet_1 : decode cX0_meet 1 = .ok (.iload_n 2, 1) := by decide +kernel
theorem dX0_meet_2 : decode cX0_meet 2 = .ok (.aload_n 0, 1) := by decide +kernel
theorem dX0_meet_3 : decode cX0_meet 3 = .ok (.getfield 25, 3) := by decide +kernel
theorem dX0_meet_6 : decode cX0_meet 6 = .ok (.invokevirtual 85, 3) := by decide +kernel
theorem dX0_meet_9 : decode cX0_meet 9 = .ok (.ifCond .eq 58, 3) := by decide +kernel
theorem dX0_meet_12 : decode cX0_meet 12 = .ok (.aload_n 1, 1) := by decide +kernel
theorem dX0_meet_13 : decode cX0_meet 13 = .ok (.iconst 1, 1) := by decide +kernel
theorem dX0_meet_14 : decode cX0_meet 14 = .ok (.putfield 65, 3) := by decide +kernel
theorem dX0_meet_17 : decode cX0_meet 17 = .ok (.aload_n 0, 1) := by decide +kernel
theorem dX0_meet_18 : decode cX0_meet 18 = .ok (.aload_n 0, 1) := by decide +kernel
theorem dX0_meet_19 : decode cX0_meet 19 = .ok (.getfield 22, 3) := by decide +kernel
theorem dX0_meet_22 : decode cX0_meet 22 = .ok (.aload_n 1, 1) := by decide +kernel
theorem dX0_meet_23 : decode cX0_meet 23 = .ok (.getfield 89, 3) := by decide +kernel
theorem dX0_meet_26 : decode cX0_meet 26 = .ok (.aload_n 1, 1) := by decide +kernel
theorem dX0_meet_27 : decode cX0_meet 27 = .ok (.getfield 92, 3) := by decide +kernel
theorem dX0_meet_30 : decode cX0_meet 30 = .ok (.invokestatic 95, 3) := by decide +kernel
theorem dX0_meet_33 : decode cX0_meet 33 = .ok (.iadd, 1) := by decide +kernel
theorem dX0_meet_34 : decode cX0_meet 34 = .ok (.ldc 78, 2) := by decide +kernel
theorem dX0_meet_36 : decode cX0_meet 36 = .ok (.invokestatic 79, 3) := by decide +kernel
theorem dX0_meet_39 : decode cX0_meet 39 = .ok (.putfield 22, 3) := by decide +kernel
theorem dX0_meet_42 : decode cX0_meet 42 = .ok (.aload_n 0, 1) := by decide +kernel
theorem dX0_meet_43 : decode cX0_meet 43 = .ok (.aload_n 0, 1) := by decide +kernel
theorem dX0_meet_44 : decode cX0_meet 44 = .ok (.getfield 15, 3) := by decide +kernel
theorem dX0_meet_47 : decode cX0_meet 47 = .ok (.aload_n 1, 1) := by decide +kernel
theorem dX0_meet_48 : decode cX0_meet 48 = .ok (.getfield 89, 3) := by decide +kernel
theorem dX0_meet_51 : decode cX0_meet 51 = .ok (.invokestatic 98, 3) := by decide +kernel
theorem dX0_meet_54 : decode cX0_meet 54 = .ok (.iadd, 1) := by decide +kernel
theorem dX0_meet_55 : decode cX0_meet 55 = .ok (.sipush 9999, 3) := by decide +kernel
theorem dX0_meet_58 : decode cX0_meet 58 = .ok (.invokestatic 79, 3) := by decide +kernel
theorem dX0_meet_61 : decode cX0_meet 61 = .ok (.putfield 15, 3) := by decide +kernel
theorem dX0_meet_64 : decode cX0_meet 64 = .ok (.goto 15, 3) := by decide +kernel
theorem dX0_meet_67 : decode cX0_meet 67 = .ok (.aload_n 1, 1) := by decide +kernel
theorem dX0_meet_68 : decode cX0_meet 68 = .ok (.iload_n 2, 1) := by decide +kernel
theorem dX0_meet_69 : decode cX0_meet 69 = .ok (.invokevirtual 102, 3) := by decide +kernel
theorem dX0_meet_72 : decode cX0_meet 72 = .ok (.ifCond .eq 7, 3) := by decide +kernel
theorem dX0_meet_75 : decode cX0_meet 75 = .ok (.aload_n 1, 1) := by decide +kernel
theorem dX0_meet_76 : decode cX0_meet 76 = .ok (.invokevirtual 106, 3) := by decide +kernel
theorem dX0_meet_79 : decode cX0_meet 79 = .ok (.return_, 1) := by decide +kernel
set_option maxRecDepth 20000 in
set_option maxHeartbeats 4000000 in
theorem c_X0_meet {K : Cx} {b : Nat} {k : Nat} {t : Int32} {s : Nat → Int32} {m : TM} (hb : isC b) (hk : k < 8) : CT yX0_meet cX0_meet 3 none 2 42 K [.ref b, .ref (b + 4 + k), .int t] (sr m b s) none (sr m b (meF s k t)) := by
  refine ct_ofd (n := 0) (by decide +kernel) rfl rfl ?_
  show XX RX0 cX0_meet 3 none 2 42 K 0 [some (.ref b), some (.ref (b + 4 + k)), some (.int t)] [] (sr m b s) (fun r1 m1 => r1 = none ∧ m1 = sr m b (meF s k t))
  refine x_aload_n (q := 1) dX0_meet_0 rfl rfl ?_
  refine x_iload_n (q := 2) dX0_meet_1 rfl rfl ?_
  refine x_aload_n (q := 3) dX0_meet_2 rfl rfl ?_
  refine x_getIr (q := 6) dX0_meet_3 rfl fl_X0_25 (ob0_day hb) ?_
  refine x_callV2v (q := 9) dX0_meet_6 rfl ml_X0_85 mv_X1_isSignedFor (rv1 hb hk) rfl (c_X1_isSignedFor hb hk) (Nat.le_of_ble_eq_true rfl) ⟨by decide, by decide⟩ ?_
  refine x_ifB_eq (q := 12) (t := 67) dX0_meet_9 rfl (by decide) (fun h9 => ?_) (fun h9 => ?_)
  · refine x_aload_n (q := 68) dX0_meet_67 rfl rfl ?_
    refine x_iload_n (q := 69) dX0_meet_68 rfl rfl ?_
    refine x_callV1v (q := 72) dX0_meet_69 rfl ml_X0_102 mv_X1_isTouched (rv1 hb hk) rfl (c_X1_isTouched hb hk) (Nat.le_of_ble_eq_true rfl) ⟨by decide, by decide⟩ ?_
    refine x_ifB_eq (q := 75) (t := 79) dX0_meet_72 rfl (by decide) (fun h72 => ?_) (fun h72 => ?_)
    · refine x_return dX0_meet_79 rfl ?_
      refine ⟨rfl, ?_⟩
      rw [meF, if_neg (by rw [h9]; exact Bool.false_ne_true)]
      first
      | rw [if_pos h72]
      | rw [if_neg (by rw [h72]; exact Bool.false_ne_true)]
    refine x_aload_n (q := 76) dX0_meet_75 rfl rfl ?_
    refine x_callV0n (q := 79) dX0_meet_76 rfl ml_X0_106 mv_X1_turnOver (rv1 hb hk) rfl (c_X1_turnOver hb hk) (Nat.le_of_ble_eq_true rfl) ⟨by decide, by decide⟩ ?_
    refine x_return dX0_meet_79 rfl ?_
    refine ⟨rfl, ?_⟩
    rw [meF, if_neg (by rw [h9]; exact Bool.false_ne_true)]
    first
    | rw [if_pos h72]
    | rw [if_neg (by rw [h72]; exact Bool.false_ne_true)]
  refine x_aload_n (q := 13) dX0_meet_12 rfl rfl ?_
  refine x_iconst (q := 14) (v := 1) dX0_meet_13 rfl (by decide) ?_
  refine x_putIr (q := 17) dX0_meet_14 rfl fl_X0_65 (ob1 hb hk 4 (by decide)) rfl rfl rfl  ?_
  refine x_aload_n (q := 18) dX0_meet_17 rfl rfl ?_
  refine x_aload_n (q := 19) dX0_meet_18 rfl rfl ?_
  refine x_getIr (q := 22) dX0_meet_19 rfl fl_X0_22 (ob0_amber hb) ?_
  refine x_aload_n (q := 23) dX0_meet_22 rfl rfl ?_
  refine x_getIr (q := 26) dX0_meet_23 rfl fl_X0_89 (ob1 hb hk 0 (by decide)) ?_
  refine x_aload_n (q := 27) dX0_meet_26 rfl rfl ?_
  refine x_getIr (q := 30) dX0_meet_27 rfl fl_X0_92 (ob1 hb hk 2 (by decide)) ?_
  refine x_callS2v (q := 33) dX0_meet_30 rfl ml_X0_95 ms_X1_pays c_X1_pays (Nat.le_of_ble_eq_true rfl) ⟨by decide, by decide⟩ ?_
  refine x_iadd (q := 34) dX0_meet_33 rfl ?_
  refine x_ldc (q := 36) dX0_meet_34 rfl kc_X0_78 ?_
  refine x_mmin (q := 39) dX0_meet_36 rfl ml_X0_79 ⟨by decide, Nat.le_of_ble_eq_true rfl⟩ ?_
  refine x_putIr (q := 42) dX0_meet_39 rfl fl_X0_22 (ob0_amber hb) rfl rfl rfl  ?_
  refine x_aload_n (q := 43) dX0_meet_42 rfl rfl ?_
  refine x_aload_n (q := 44) dX0_meet_43 rfl rfl ?_
  refine x_getIr (q := 47) dX0_meet_44 rfl fl_X0_15 (ob0_late hb) ?_
  refine x_aload_n (q := 48) dX0_meet_47 rfl rfl ?_
  refine x_getIr (q := 51) dX0_meet_48 rfl fl_X0_89 (ob1 hb hk 0 (by decide)) ?_
  refine x_callS1v (q := 54) dX0_meet_51 rfl ml_X0_98 ms_X1_delays c_X1_delays (Nat.le_of_ble_eq_true rfl) ⟨by decide, by decide⟩ ?_
  refine x_iadd (q := 55) dX0_meet_54 rfl ?_
  refine x_sipush (q := 58) (v := 9999) dX0_meet_55 rfl (by decide) ?_
  refine x_mmin (q := 61) dX0_meet_58 rfl ml_X0_79 ⟨by decide, Nat.le_of_ble_eq_true rfl⟩ ?_
  refine x_putIr (q := 64) dX0_meet_61 rfl fl_X0_15 (ob0_late hb) rfl rfl rfl  ?_
  refine x_goto (q := 79) dX0_meet_64 (by decide) ?_
  refine x_return dX0_meet_79 rfl ?_
  refine ⟨rfl, ?_⟩
  have e1 : upd s (12 + 7 * k + 4) 1 3 = s 3 := upd_ne (by omega)
  have e2 : upd s (12 + 7 * k + 4) 1 (12 + 7 * k + 0) = s (12 + 7 * k + 0) := upd_ne (by omega)
  have e3 : upd s (12 + 7 * k + 4) 1 (12 + 7 * k + 2) = s (12 + 7 * k + 2) := upd_ne (by omega)
  rw [meF, if_pos h9, e1, e2, e3]
  rw [upd_ne (i := 3) (j := 4) (by decide), upd_ne (i := 12 + 7 * k + 4) (j := 4) (by omega), upd_ne (i := 3) (j := 12 + 7 * k + 0) (by omega), e2]
theorem dX0_allThatAre_0 : decode cX0_allThatAre 0 = .ok (.iconst 0, 1) := by decide +kernel
theorem dX0_allThatAre_1 : decode cX0_allThatAre 1 = .ok (.istore_n 2, 1) := by decide +kernel
theorem dX0_allThatAre_2 : decode cX0_allThatAre 2 = .ok (.iconst 0, 1) := by decide +kernel
theorem dX0_allThatAre_3 : decode cX0_allThatAre 3 = .ok (.istore_n 3, 1) := by decide +kernel
theorem dX0_allThatAre_4 : decode cX0_allThatAre 4 = .ok (.iload_n 3, 1) := by decide +kernel
theorem dX0_allThatAre_5 : decode cX0_allThatAre 5 = .ok (.aload_n 0, 1) := by decide +kernel
theorem dX0_allThatAre_6 : decode cX0_allThatAre 6 = .ok (.getfield 31, 3) := by decide +kernel
theorem dX0_allThatAre_9 : decode cX0_allThatAre 9 = .ok (.if_icmp .ge 28, 3) := by decide +kernel
theorem dX0_allThatAre_12 : decode cX0_allThatAre 12 = .ok (.aload_n 0, 1) := by decide +kernel
theorem dX0_allThatAre_13 : decode cX0_allThatAre 13 = .ok (.getfield 36, 3) := by decide +kernel
theorem dX0_allThatAre_16 : decode cX0_allThatAre 16 = .ok (.iload_n 3, 1) := by decide +kernel
theorem dX0_allThatAre_17 : decode cX0_allThatAre 17 = .ok (.aaload, 1) := by decide +kernel
theorem dX0_allThatAre_18 : decode cX0_allThatAre 18 = .ok (.getfield 65, 3) := by decide +kernel
theorem dX0_allThatAre_21 : decode cX0_allThatAre 21 = .ok (.iload_n 1, 1) := by decide +kernel
theorem dX0_allThatAre_22 : decode cX0_allThatAre 22 = .ok (.if_icmp .ne 9, 3) := by decide +kernel
theorem dX0_allThatAre_25 : decode cX0_allThatAre 25 = .ok (.iload_n 2, 1) := by decide +kernel
theorem dX0_allThatAre_26 : decode cX0_allThatAre 26 = .ok (.iconst 1, 1) := by decide +kernel
theorem dX0_allThatAre_27 : decode cX0_allThatAre 27 = .ok (.iload_n 3, 1) := by decide +kernel
theorem dX0_allThatAre_28 : decode cX0_allThatAre 28 = .ok (.ishl, 1) := by decide +kernel
theorem dX0_allThatAre_29 : decode cX0_allThatAre 29 = .ok (.ior, 1) := by decide +kernel
theorem dX0_allThatAre_30 : decode cX0_allThatAre 30 = .ok (.istore_n 2, 1) := by decide +kernel
theorem dX0_allThatAre_31 : decode cX0_allThatAre 31 = .ok (.iinc 3 1, 3) := by decide +kernel
theorem dX0_allThatAre_34 : decode cX0_allThatAre 34 = .ok (.goto (-30), 3) := by decide +kernel
theorem dX0_allThatAre_37 : decode cX0_allThatAre 37 = .ok (.iload_n 2, 1) := by decide +kernel
theorem dX0_allThatAre_38 : decode cX0_allThatAre 38 = .ok (.ireturn, 1) := by decide +kernel
set_option maxRecDepth 20000 in
set_option maxHeartbeats 4000000 in
theorem l_X0_allThatAre {K : Cx} {b n8 : Nat} {x : Int32} {s : Nat → Int32} {m : TM} (hb : isC b) (hn : s 1 = nI n8) (h8 : n8 ≤ 8) : ∀ (n : Nat) (j : Nat), n8 - j < n → j ≤ n8 → XX RX0 cX0_allThatAre 4 (some .int) 0 0 K 4 [some (.ref b), some (.int x), some (.int (thF s x j)), some (.int (nI j))] [] (sr m b s) (fun r1 m1 => r1 = (some (.int (thF s x n8))) ∧ m1 = sr m b s) := by
  intro n
  induction n with
  | zero => intro j hlt; exact absurd hlt (Nat.not_lt_zero _)
  | succ n ih =>
    intro j hlt hj
    refine x_iload_n (q := 5) dX0_allThatAre_4 rfl rfl ?_
    refine x_aload_n (q := 6) dX0_allThatAre_5 rfl rfl ?_
    refine x_getIr (q := 9) dX0_allThatAre_6 rfl fl_X0_31 (ob0_laid hb) ?_
    refine x_icmp_ge (q := 12) (t := 37) dX0_allThatAre_9 rfl (by decide) (fun h9 => ?_) (fun h9 => ?_)
    · refine x_iload_n (q := 38) dX0_allThatAre_37 rfl rfl ?_
      refine x_ireturn dX0_allThatAre_38 rfl rfl ?_
      have e : j = n8 := Nat.le_antisymm hj (lp_stop hn (by omega) (by omega) h9)
      subst e
      exact ⟨rfl, rfl⟩
    have hjn : j < n8 := lp_go hn (by omega) (by omega) h9
    have hj8 : j < 8 := by omega
    refine x_aload_n (q := 13) dX0_allThatAre_12 rfl rfl ?_
    refine x_getR (q := 16) dX0_allThatAre_13 rfl fl_X0_36 (or0_slip hb) ?_
    refine x_iload_n (q := 17) dX0_allThatAre_16 rfl rfl ?_
    refine x_slip (q := 18) dX0_allThatAre_17 rfl hb (ix_nI hj8 (by decide)) ?_
    refine x_getIr (q := 21) dX0_allThatAre_18 rfl fl_X0_65 (ob1 hb hj8 4 (by decide)) ?_
    refine x_iload_n (q := 22) dX0_allThatAre_21 rfl rfl ?_
    refine x_icmp_ne (q := 25) (t := 31) dX0_allThatAre_22 rfl (by decide) (fun h22 => ?_) (fun h22 => ?_)
    · refine x_iinc (q := 34) (v := nI (j + 1)) dX0_allThatAre_31 rfl rfl (jnI_s j) (by decide) rfl rfl ?_
      refine x_goto (q := 4) dX0_allThatAre_34 (by decide) ?_
      have key := ih (j + 1) (by omega) (by omega)
      simp only [thF, h22, if_true, if_false, and_self, and_true, and_false, true_and, false_and] at key
      exact key
    refine x_iload_n (q := 26) dX0_allThatAre_25 rfl rfl ?_
    refine x_iconst (q := 27) (v := 1) dX0_allThatAre_26 rfl (by decide) ?_
    refine x_iload_n (q := 28) dX0_allThatAre_27 rfl rfl ?_
    refine x_ishl (q := 29) dX0_allThatAre_28 rfl ?_
    refine x_ior (q := 30) dX0_allThatAre_29 rfl ?_
    refine x_istore_n (q := 31) dX0_allThatAre_30 rfl (by decide) rfl rfl ?_
    refine x_iinc (q := 34) (v := nI (j + 1)) dX0_allThatAre_31 rfl rfl (jnI_s j) (by decide) rfl rfl ?_
    refine x_goto (q := 4) dX0_allThatAre_34 (by decide) ?_
    have key := ih (j + 1) (by omega) (by omega)
    simp only [thF, h22, if_true, if_false, and_self, and_true, and_false, true_and, false_and] at key
    exact key
set_option maxRecDepth 20000 in
set_option maxHeartbeats 4000000 in
theorem c_X0_allThatAre {K : Cx} {b n8 : Nat} {x : Int32} {s : Nat → Int32} {m : TM} (hb : isC b) (hn : s 1 = nI n8) (h8 : n8 ≤ 8) : CT yX0_allThatAre cX0_allThatAre 4 (some .int) 0 0 K [.ref b, .int x] (sr m b s) (some (.int (thF s x n8))) (sr m b s) := by
  refine ct_ofd (n := 2) (by decide +kernel) rfl rfl ?_
  show XX RX0 cX0_allThatAre 4 (some .int) 0 0 K 0 [some (.ref b), some (.int x), none, none] [] (sr m b s) (fun r1 m1 => r1 = (some (.int (thF s x n8))) ∧ m1 = sr m b s)
  refine x_iconst (q := 1) (v := 0) dX0_allThatAre_0 rfl (by decide) ?_
  refine x_istore_n (q := 2) dX0_allThatAre_1 rfl (by decide) rfl rfl ?_
  refine x_iconst (q := 3) (v := 0) dX0_allThatAre_2 rfl (by decide) ?_
  refine x_istore_n (q := 4) dX0_allThatAre_3 rfl (by decide) rfl rfl ?_
  exact l_X0_allThatAre hb hn h8 (n8 + 1) 0 (by omega) (by omega)
theorem dX0_lyingOn_0 : decode cX0_lyingOn 0 = .ok (.iconst 0, 1) := by decide +kernel
theorem dX0_lyingOn_1 : decode cX0_lyingOn 1 = .ok (.istore_n 2, 1) := by decide +kernel
theorem dX0_lyingOn_2 : decode cX0_lyingOn 2 = .ok (.iconst 0, 1) := by decide +kernel
theorem dX0_lyingOn_3 : decode cX0_lyingOn 3 = .ok (.istore_n 3, 1) := by decide +kernel
theorem dX0_lyingOn_4 : decode cX0_lyingOn 4 = .ok (.iload_n 3, 1) := by decide +kernel
theorem dX0_lyingOn_5 : decode cX0_lyingOn 5 = .ok (.aload_n 0, 1) := by decide +kernel
theorem dX0_lyingOn_6 : decode cX0_lyingOn 6 = .ok (.getfield 31, 3) := by decide +kernel
theorem dX0_lyingOn_9 : decode cX0_lyingOn 9 = .ok (.if_icmp .ge 40, 3) := by decide +kernel
theorem dX0_lyingOn_12 : decode cX0_lyingOn 12 = .ok (.aload_n 0, 1) := by decide +kernel
theorem dX0_lyingOn_13 : decode cX0_lyingOn 13 = .ok (.getfield 36, 3) := by decide +kernel
theorem dX0_lyingOn_16 : decode cX0_lyingOn 16 = .ok (.iload_n 3, 1) := by decide +kernel
theorem dX0_lyingOn_17 : decode cX0_lyingOn 17 = .ok (.aaload, 1) := by decide +kernel
theorem dX0_lyingOn_18 : decode cX0_lyingOn 18 = .ok (.getfield 65, 3) := by decide +kernel
theorem dX0_lyingOn_21 : decode cX0_lyingOn 21 = .ok (.ifCond .ne 22, 3) := by decide +kernel
theorem dX0_lyingOn_24 : decode cX0_lyingOn 24 = .ok (.aload_n 0, 1) := by decide +kernel
theorem dX0_lyingOn_25 : decode cX0_lyingOn 25 = .ok (.getfield 36, 3) := by decide +kernel
theorem dX0_lyingOn_28 : decode cX0_lyingOn 28 = .ok (.iload_n 3, 1) := by decide +kernel
theorem dX0_lyingOn_29 : decode cX0_lyingOn 29 = .ok (.aaload, 1) := by decide +kernel
theorem dX0_lyingOn_30 : decode cX0_lyingOn 30 = .ok (.getfield 110, 3) := by decide +kernel
theorem dX0_lyingOn_33 : decode cX0_lyingOn 33 = .ok (.iload_n 1, 1) := by decide +kernel
theorem dX0_lyingOn_34 : decode cX0_lyingOn 34 = .ok (.if_icmp .ne 9, 3) := by decide +kernel
theorem dX0_lyingOn_37 : decode cX0_lyingOn 37 = .ok (.iload_n 2, 1) := by decide +kernel
theorem dX0_lyingOn_38 : decode cX0_lyingOn 38 = .ok (.iconst 1, 1) := by decide +kernel
theorem dX0_lyingOn_39 : decode cX0_lyingOn 39 = .ok (.iload_n 3, 1) := by decide +kernel
theorem dX0_lyingOn_40 : decode cX0_lyingOn 40 = .ok (.ishl, 1) := by decide +kernel
theorem dX0_lyingOn_41 : decode cX0_lyingOn 41 = .ok (.ior, 1) := by decide +kernel
theorem dX0_lyingOn_42 : decode cX0_lyingOn 42 = .ok (.istore_n 2, 1) := by decide +kernel
theorem dX0_lyingOn_43 : decode cX0_lyingOn 43 = .ok (.iinc 3 1, 3) := by decide +kernel
theorem dX0_lyingOn_46 : decode cX0_lyingOn 46 = .ok (.goto (-42), 3) := by decide +kernel
theorem dX0_lyingOn_49 : decode cX0_lyingOn 49 = .ok (.iload_n 2, 1) := by decide +kernel
theorem dX0_lyingOn_50 : decode cX0_lyingOn 50 = .ok (.ireturn, 1) := by decide +kernel
set_option maxRecDepth 20000 in
set_option maxHeartbeats 4000000 in
theorem l_X0_lyingOn {K : Cx} {b n8 : Nat} {x : Int32} {s : Nat → Int32} {m : TM} (hb : isC b) (hn : s 1 = nI n8) (h8 : n8 ≤ 8) : ∀ (n : Nat) (j : Nat), n8 - j < n → j ≤ n8 → XX RX0 cX0_lyingOn 4 (some .int) 0 0 K 4 [some (.ref b), some (.int x), some (.int (lyF s x j)), some (.int (nI j))] [] (sr m b s) (fun r1 m1 => r1 = (some (.int (lyF s x n8))) ∧ m1 = sr m b s) := by
  intro n
  induction n with
  | zero => intro j hlt; exact absurd hlt (Nat.not_lt_zero _)
  | succ n ih =>
    intro j hlt hj
    refine x_iload_n (q := 5) dX0_lyingOn_4 rfl rfl ?_
    refine x_aload_n (q := 6) dX0_lyingOn_5 rfl rfl ?_
    refine x_getIr (q := 9) dX0_lyingOn_6 rfl fl_X0_31 (ob0_laid hb) ?_
    refine x_icmp_ge (q := 12) (t := 49) dX0_lyingOn_9 rfl (by decide) (fun h9 => ?_) (fun h9 => ?_)
    · refine x_iload_n (q := 50) dX0_lyingOn_49 rfl rfl ?_
      refine x_ireturn dX0_lyingOn_50 rfl rfl ?_
      have e : j = n8 := Nat.le_antisymm hj (lp_stop hn (by omega) (by omega) h9)
      subst e
      exact ⟨rfl, rfl⟩
    have hjn : j < n8 := lp_go hn (by omega) (by omega) h9
    have hj8 : j < 8 := by omega
    refine x_aload_n (q := 13) dX0_lyingOn_12 rfl rfl ?_
    refine x_getR (q := 16) dX0_lyingOn_13 rfl fl_X0_36 (or0_slip hb) ?_
    refine x_iload_n (q := 17) dX0_lyingOn_16 rfl rfl ?_
    refine x_slip (q := 18) dX0_lyingOn_17 rfl hb (ix_nI hj8 (by decide)) ?_
    refine x_getIr (q := 21) dX0_lyingOn_18 rfl fl_X0_65 (ob1 hb hj8 4 (by decide)) ?_
    refine x_if_ne (q := 24) (t := 43) dX0_lyingOn_21 rfl (by decide) (fun h21 => ?_) (fun h21 => ?_)
    · refine x_iinc (q := 46) (v := nI (j + 1)) dX0_lyingOn_43 rfl rfl (jnI_s j) (by decide) rfl rfl ?_
      refine x_goto (q := 4) dX0_lyingOn_46 (by decide) ?_
      have key := ih (j + 1) (by omega) (by omega)
      simp only [lyF, h21, if_true, if_false, and_self, and_true, and_false, true_and, false_and] at key
      exact key
    refine x_aload_n (q := 25) dX0_lyingOn_24 rfl rfl ?_
    refine x_getR (q := 28) dX0_lyingOn_25 rfl fl_X0_36 (or0_slip hb) ?_
    refine x_iload_n (q := 29) dX0_lyingOn_28 rfl rfl ?_
    refine x_slip (q := 30) dX0_lyingOn_29 rfl hb (ix_nI hj8 (by decide)) ?_
    refine x_getIr (q := 33) dX0_lyingOn_30 rfl fl_X0_110 (ob1 hb hj8 1 (by decide)) ?_
    refine x_iload_n (q := 34) dX0_lyingOn_33 rfl rfl ?_
    refine x_icmp_ne (q := 37) (t := 43) dX0_lyingOn_34 rfl (by decide) (fun h34 => ?_) (fun h34 => ?_)
    · refine x_iinc (q := 46) (v := nI (j + 1)) dX0_lyingOn_43 rfl rfl (jnI_s j) (by decide) rfl rfl ?_
      refine x_goto (q := 4) dX0_lyingOn_46 (by decide) ?_
      have key := ih (j + 1) (by omega) (by omega)
      simp only [lyF, h21, h34, if_true, if_false, and_self, and_true, and_false, true_and, false_and] at key
      exact key
    refine x_iload_n (q := 38) dX0_lyingOn_37 rfl rfl ?_
    refine x_iconst (q := 39) (v := 1) dX0_lyingOn_38 rfl (by decide) ?_
    refine x_iload_n (q := 40) dX0_lyingOn_39 rfl rfl ?_
    refine x_ishl (q := 41) dX0_lyingOn_40 rfl ?_
    refine x_ior (q := 42) dX0_lyingOn_41 rfl ?_
    refine x_istore_n (q := 43) dX0_lyingOn_42 rfl (by decide) rfl rfl ?_
    refine x_iinc (q := 46) (v := nI (j + 1)) dX0_lyingOn_43 rfl rfl (jnI_s j) (by decide) rfl rfl ?_
    refine x_goto (q := 4) dX0_lyingOn_46 (by decide) ?_
    have key := ih (j + 1) (by omega) (by omega)
    simp only [lyF, h21, h34, if_true, if_false, and_self, and_true, and_false, true_and, false_and] at key
    exact key
set_option maxRecDepth 20000 in
set_option maxHeartbeats 4000000 in
theorem c_X0_lyingOn {K : Cx} {b n8 : Nat} {x : Int32} {s : Nat → Int32} {m : TM} (hb : isC b) (hn : s 1 = nI n8) (h8 : n8 ≤ 8) : CT yX0_lyingOn cX0_lyingOn 4 (some .int) 0 0 K [.ref b, .int x] (sr m b s) (some (.int (lyF s x n8))) (sr m b s) := by
  refine ct_ofd (n := 2) (by decide +kernel) rfl rfl ?_
  show XX RX0 cX0_lyingOn 4 (some .int) 0 0 K 0 [some (.ref b), some (.int x), none, none] [] (sr m b s) (fun r1 m1 => r1 = (some (.int (lyF s x n8))) ∧ m1 = sr m b s)
  refine x_iconst (q := 1) (v := 0) dX0_lyingOn_0 rfl (by decide) ?_
  refine x_istore_n (q := 2) dX0_lyingOn_1 rfl (by decide) rfl rfl ?_
  refine x_iconst (q := 3) (v := 0) dX0_lyingOn_2 rfl (by decide) ?_
  refine x_istore_n (q := 4) dX0_lyingOn_3 rfl (by decide) rfl rfl ?_
  exact l_X0_lyingOn hb hn h8 (n8 + 1) 0 (by omega) (by omega)
theorem dX0_delaying_0 : decode cX0_delaying 0 = .ok (.iconst 0, 1) := by decide +kernel
theorem dX0_delaying_1 : decode cX0_delaying 1 = .ok (.istore_n 2, 1) := by decide +kernel
theorem dX0_delaying_2 : decode cX0_delaying 2 = .ok (.iconst 0, 1) := by decide +kernel
theorem dX0_delaying_3 : decode cX0_delaying 3 = .ok (.istore_n 3, 1) := by decide +kernel
theorem dX0_delaying_4 : decode cX0_delaying 4 = .ok (.iload_n 3, 1) := by decide +kernel
theorem dX0_delaying_5 : decode cX0_delaying 5 = .ok (.aload_n 0, 1) := by decide +kernel
theorem dX0_delaying_6 : decode cX0_delaying 6 = .ok (.getfield 31, 3) := by decide +kernel
theorem dX0_delaying_9 : decode cX0_delaying 9 = .ok (.if_icmp .ge 32, 3) := by decide +kernel
theorem dX0_delaying_12 : decode cX0_delaying 12 = .ok (.aload_n 0, 1) := by decide +kernel
theorem dX0_delaying_13 : decode cX0_delaying 13 = .ok (.getfield 36, 3) := by decide +kernel
theorem dX0_delaying_16 : decode cX0_delaying 16 = .ok (.iload_n 3, 1) := by decide +kernel
theorem dX0_delaying_17 : decode cX0_delaying 17 = .ok (.aaload, 1) := by decide +kernel
theorem dX0_delaying_18 : decode cX0_delaying 18 = .ok (.getfield 89, 3) := by decide +kernel
theorem dX0_delaying_21 : decode cX0_delaying 21 = .ok (.invokestatic 98, 3) := by decide +kernel
theorem dX0_delaying_24 : decode cX0_delaying 24 = .ok (.ifCond .le 11, 3) := by decide +kernel
theorem dX0_delaying_27 : decode cX0_delaying 27 = .ok (.iload_n 2, 1) := by decide +kernel
theorem dX0_delaying_28 : decode cX0_delaying 28 = .ok (.iload_n 1, 1) := by decide +kernel
theorem dX0_delaying_29 : decode cX0_delaying 29 = .ok (.iconst 1, 1) := by decide +kernel
theorem dX0_delaying_30 : decode cX0_delaying 30 = .ok (.iload_n 3, 1) := by decide +kernel
theorem dX0_delaying_31 : decode cX0_delaying 31 = .ok (.ishl, 1) := by decide +kernel
theorem dX0_delaying_32 : decode cX0_delaying 32 = .ok (.iand, 1) := by decide +kernel
theorem dX0_delaying_33 : decode cX0_delaying 33 = .ok (.ior, 1) := by decide +kernel
theorem dX0_delaying_34 : decode cX0_delaying 34 = .ok (.istore_n 2, 1) := by decide +kernel
theorem dX0_delaying_35 : decode cX0_delaying 35 = .ok (.iinc 3 1, 3) := by decide +kernel
theorem dX0_delaying_38 : decode cX0_delaying 38 = .ok (.goto (-34), 3) := by decide +kernel
theorem dX0_delaying_41 : decode cX0_delaying 41 = .ok (.iload_n 2, 1) := by decide +kernel
theorem dX0_delaying_42 : decode cX0_delaying 42 = .ok (.ireturn, 1) := by decide +kernel
set_option maxRecDepth 20000 in
set_option maxHeartbeats 4000000 in
theorem l_X0_delaying {K : Cx} {b n8 : Nat} {x : Int32} {s : Nat → Int32} {m : TM} (hb : isC b) (hn : s 1 = nI n8) (h8 : n8 ≤ 8) : ∀ (n : Nat) (j : Nat), n8 - j < n → j ≤ n8 → XX RX0 cX0_delaying 4 (some .int) 1 20 K 4 [some (.ref b), some (.int x), some (.int (deF s x j)), some (.int (nI j))] [] (sr m b s) (fun r1 m1 => r1 = (some (.int (deF s x n8))) ∧ m1 = sr m b s) := by
  intro n
  induction n with
  | zero => intro j hlt; exact absurd hlt (Nat.not_lt_zero _)
  | succ n ih =>
    intro j hlt hj
    refine x_iload_n (q := 5) dX0_delaying_4 rfl rfl ?_
    refine x_aload_n (q := 6) dX0_delaying_5 rfl rfl ?_
    refine x_getIr (q := 9) dX0_delaying_6 rfl fl_X0_31 (ob0_laid hb) ?_
    refine x_icmp_ge (q := 12) (t := 41) dX0_delaying_9 rfl (by decide) (fun h9 => ?_) (fun h9 => ?_)
    · refine x_iload_n (q := 42) dX0_delaying_41 rfl rfl ?_
      refine x_ireturn dX0_delaying_42 rfl rfl ?_
      have e : j = n8 := Nat.le_antisymm hj (lp_stop hn (by omega) (by omega) h9)
      subst e
      exact ⟨rfl, rfl⟩
    have hjn : j < n8 := lp_go hn (by omega) (by omega) h9
    have hj8 : j < 8 := by omega
    refine x_aload_n (q := 13) dX0_delaying_12 rfl rfl ?_
    refine x_getR (q := 16) dX0_delaying_13 rfl fl_X0_36 (or0_slip hb) ?_
    refine x_iload_n (q := 17) dX0_delaying_16 rfl rfl ?_
    refine x_slip (q := 18) dX0_delaying_17 rfl hb (ix_nI hj8 (by decide)) ?_
    refine x_getIr (q := 21) dX0_delaying_18 rfl fl_X0_89 (ob1 hb hj8 0 (by decide)) ?_
    refine x_callS1v (q := 24) dX0_delaying_21 rfl ml_X0_98 ms_X1_delays c_X1_delays (Nat.le_of_ble_eq_true rfl) ⟨by decide, by decide⟩ ?_
    refine x_if_le (q := 27) (t := 35) dX0_delaying_24 rfl (by decide) (fun h24 => ?_) (fun h24 => ?_)
    · refine x_iinc (q := 38) (v := nI (j + 1)) dX0_delaying_35 rfl rfl (jnI_s j) (by decide) rfl rfl ?_
      refine x_goto (q := 4) dX0_delaying_38 (by decide) ?_
      have key := ih (j + 1) (by omega) (by omega)
      simp only [deF, h24, if_true, if_false, and_self, and_true, and_false, true_and, false_and] at key
      exact key
    refine x_iload_n (q := 28) dX0_delaying_27 rfl rfl ?_
    refine x_iload_n (q := 29) dX0_delaying_28 rfl rfl ?_
    refine x_iconst (q := 30) (v := 1) dX0_delaying_29 rfl (by decide) ?_
    refine x_iload_n (q := 31) dX0_delaying_30 rfl rfl ?_
    refine x_ishl (q := 32) dX0_delaying_31 rfl ?_
    refine x_iand (q := 33) dX0_delaying_32 rfl ?_
    refine x_ior (q := 34) dX0_delaying_33 rfl ?_
    refine x_istore_n (q := 35) dX0_delaying_34 rfl (by decide) rfl rfl ?_
    refine x_iinc (q := 38) (v := nI (j + 1)) dX0_delaying_35 rfl rfl (jnI_s j) (by decide) rfl rfl ?_
    refine x_goto (q := 4) dX0_delaying_38 (by decide) ?_
    have key := ih (j + 1) (by omega) (by omega)
    simp only [deF, h24, if_true, if_false, and_self, and_true, and_false, true_and, false_and] at key
    exact key
set_option maxRecDepth 20000 in
set_option maxHeartbeats 4000000 in
theorem c_X0_delaying {K : Cx} {b n8 : Nat} {x : Int32} {s : Nat → Int32} {m : TM} (hb : isC b) (hn : s 1 = nI n8) (h8 : n8 ≤ 8) : CT yX0_delaying cX0_delaying 4 (some .int) 1 20 K [.ref b, .int x] (sr m b s) (some (.int (deF s x n8))) (sr m b s) := by
  refine ct_ofd (n := 2) (by decide +kernel) rfl rfl ?_
  show XX RX0 cX0_delaying 4 (some .int) 1 20 K 0 [some (.ref b), some (.int x), none, none] [] (sr m b s) (fun r1 m1 => r1 = (some (.int (deF s x n8))) ∧ m1 = sr m b s)
  refine x_iconst (q := 1) (v := 0) dX0_delaying_0 rfl (by decide) ?_
  refine x_istore_n (q := 2) dX0_delaying_1 rfl (by decide) rfl rfl ?_
  refine x_iconst (q := 3) (v := 0) dX0_delaying_2 rfl (by decide) ?_
  refine x_istore_n (q := 4) dX0_delaying_3 rfl (by decide) rfl rfl ?_
  exact l_X0_delaying hb hn h8 (n8 + 1) 0 (by omega) (by omega)
theorem dX0_weightThatLies_0 : decode cX0_weightThatLies 0 = .ok (.iconst 0, 1) := by decide +kernel
theorem dX0_weightThatLies_1 : decode cX0_weightThatLies 1 = .ok (.istore_n 1, 1) := by decide +kernel
theorem dX0_weightThatLies_2 : decode cX0_weightThatLies 2 = .ok (.iconst 0, 1) := by decide +kernel
theorem dX0_weightThatLies_3 : decode cX0_weightThatLies 3 = .ok (.istore_n 2, 1) := by decide +kernel
theorem dX0_weightThatLies_4 : decode cX0_weightThatLies 4 = .ok (.iload_n 2, 1) := by decide +kernel
theorem dX0_weightThatLies_5 : decode cX0_weightThatLies 5 = .ok (.aload_n 0, 1) := by decide +kernel
theorem dX0_weightThatLies_6 : decode cX0_weightThatLies 6 = .ok (.getfield 31, 3) := by decide +kernel
theorem dX0_weightThatLies_9 : decode cX0_weightThatLies 9 = .ok (.if_icmp .ge 33, 3) := by decide +kernel
theorem dX0_weightThatLies_12 : decode cX0_weightThatLies 12 = .ok (.aload_n 0, 1) := by decide +kernel
theorem dX0_weightThatLies_13 : decode cX0_weightThatLies 13 = .ok (.getfield 36, 3) := by decide +kernel
theorem dX0_weightThatLies_16 : decode cX0_weightThatLies 16 = .ok (.iload_n 2, 1) := by decide +kernel
theorem dX0_weightThatLies_17 : decode cX0_weightThatLies 17 = .ok (.aaload, 1) := by decide +kernel
theorem dX0_weightThatLies_18 : decode cX0_weightThatLies 18 = .ok (.getfield 65, 3) := by decide +kernel
theorem dX0_weightThatLies_21 : decode cX0_weightThatLies 21 = .ok (.ifCond .ne 15, 3) := by decide +kernel
theorem dX0_weightThatLies_24 : decode cX0_weightThatLies 24 = .ok (.iload_n 1, 1) := by decide +kernel
theorem dX0_weightThatLies_25 : decode cX0_weightThatLies 25 = .ok (.aload_n 0, 1) := by decide +kernel
theorem dX0_weightThatLies_26 : decode cX0_weightThatLies 26 = .ok (.getfield 36, 3) := by decide +kernel
theorem dX0_weightThatLies_29 : decode cX0_weightThatLies 29 = .ok (.iload_n 2, 1) := by decide +kernel
theorem dX0_weightThatLies_30 : decode cX0_weightThatLies 30 = .ok (.aaload, 1) := by decide +kernel
theorem dX0_weightThatLies_31 : decode cX0_weightThatLies 31 = .ok (.getfield 92, 3) := by decide +kernel
theorem dX0_weightThatLies_34 : decode cX0_weightThatLies 34 = .ok (.iadd, 1) := by decide +kernel
theorem dX0_weightThatLies_35 : decode cX0_weightThatLies 35 = .ok (.istore_n 1, 1) := by decide +kernel
theorem dX0_weightThatLies_36 : decode cX0_weightThatLies 36 = .ok (.iinc 2 1, 3) := by decide +kernel
theorem dX0_weightThatLies_39 : decode cX0_weightThatLies 39 = .ok (.goto (-35), 3) := by decide +kernel
theorem dX0_weightThatLies_42 : decode cX0_weightThatLies 42 = .ok (.iload_n 1, 1) := by decide +kernel
theorem dX0_weightThatLies_43 : decode cX0_weightThatLies 43 = .ok (.ireturn, 1) := by decide +kernel
set_option maxRecDepth 20000 in
set_option maxHeartbeats 4000000 in
theorem l_X0_weightThatLies {K : Cx} {b n8 : Nat} {s : Nat → Int32} {m : TM} (hb : isC b) (hn : s 1 = nI n8) (h8 : n8 ≤ 8) : ∀ (n : Nat) (j : Nat), n8 - j < n → j ≤ n8 → XX RX0 cX0_weightThatLies 3 (some .int) 0 0 K 4 [some (.ref b), some (.int (weF s j)), some (.int (nI j))] [] (sr m b s) (fun r1 m1 => r1 = (some (.int (weF s n8))) ∧ m1 = sr m b s) := by
  intro n
  induction n with
  | zero => intro j hlt; exact absurd hlt (Nat.not_lt_zero _)
  | succ n ih =>
    intro j hlt hj
    refine x_iload_n (q := 5) dX0_weightThatLies_4 rfl rfl ?_
    refine x_aload_n (q := 6) dX0_weightThatLies_5 rfl rfl ?_
    refine x_getIr (q := 9) dX0_weightThatLies_6 rfl fl_X0_31 (ob0_laid hb) ?_
    refine x_icmp_ge (q := 12) (t := 42) dX0_weightThatLies_9 rfl (by decide) (fun h9 => ?_) (fun h9 => ?_)
    · refine x_iload_n (q := 43) dX0_weightThatLies_42 rfl rfl ?_
      refine x_ireturn dX0_weightThatLies_43 rfl rfl ?_
      have e : j = n8 := Nat.le_antisymm hj (lp_stop hn (by omega) (by omega) h9)
      subst e
      exact ⟨rfl, rfl⟩
    have hjn : j < n8 := lp_go hn (by omega) (by omega) h9
    have hj8 : j < 8 := by omega
    refine x_aload_n (q := 13) dX0_weightThatLies_12 rfl rfl ?_
    refine x_getR (q := 16) dX0_weightThatLies_13 rfl fl_X0_36 (or0_slip hb) ?_
    refine x_iload_n (q := 17) dX0_weightThatLies_16 rfl rfl ?_
    refine x_slip (q := 18) dX0_weightThatLies_17 rfl hb (ix_nI hj8 (by decide)) ?_
    refine x_getIr (q := 21) dX0_weightThatLies_18 rfl fl_X0_65 (ob1 hb hj8 4 (by decide)) ?_
    refine x_if_ne (q := 24) (t := 36) dX0_weightThatLies_21 rfl (by decide) (fun h21 => ?_) (fun h21 => ?_)
    · refine x_iinc (q := 39) (v := nI (j + 1)) dX0_weightThatLies_36 rfl rfl (jnI_s j) (by decide) rfl rfl ?_
      refine x_goto (q := 4) dX0_weightThatLies_39 (by decide) ?_
      have key := ih (j + 1) (by omega) (by omega)
      simp only [weF, h21, if_true, if_false, and_self, and_true, and_false, true_and, false_and] at key
      exact key
    refine x_iload_n (q := 25) dX0_weightThatLies_24 rfl rfl ?_
    refine x_aload_n (q := 26) dX0_weightThatLies_25 rfl rfl ?_
    refine x_getR (q := 29) dX0_weightThatLies_26 rfl fl_X0_36 (or0_slip hb) ?_
    refine x_iload_n (q := 30) dX0_weightThatLies_29 rfl rfl ?_
    refine x_slip (q := 31) dX0_weightThatLies_30 rfl hb (ix_nI hj8 (by decide)) ?_
    refine x_getIr (q := 34) dX0_weightThatLies_31 rfl fl_X0_92 (ob1 hb hj8 2 (by decide)) ?_
    refine x_iadd (q := 35) dX0_weightThatLies_34 rfl ?_
    refine x_istore_n (q := 36) dX0_weightThatLies_35 rfl (by decide) rfl rfl ?_
    refine x_iinc (q := 39) (v := nI (j + 1)) dX0_weightThatLies_36 rfl rfl (jnI_s j) (by decide) rfl rfl ?_
    refine x_goto (q := 4) dX0_weightThatLies_39 (by decide) ?_
    have key := ih (j + 1) (by omega) (by omega)
    simp only [weF, h21, if_true, if_false, and_self, and_true, and_false, true_and, false_and] at key
    exact key
set_option maxRecDepth 20000 in
set_option maxHeartbeats 4000000 in
theorem c_X0_weightThatLies {K : Cx} {b n8 : Nat} {s : Nat → Int32} {m : TM} (hb : isC b) (hn : s 1 = nI n8) (h8 : n8 ≤ 8) : CT yX0_weightThatLies cX0_weightThatLies 3 (some .int) 0 0 K [.ref b] (sr m b s) (some (.int (weF s n8))) (sr m b s) := by
  refine ct_ofd (n := 2) (by decide +kernel) rfl rfl ?_
  show XX RX0 cX0_weightThatLies 3 (some .int) 0 0 K 0 [some (.ref b), none, none] [] (sr m b s) (fun r1 m1 => r1 = (some (.int (weF s n8))) ∧ m1 = sr m b s)
  refine x_iconst (q := 1) (v := 0) dX0_weightThatLies_0 rfl (by decide) ?_
  refine x_istore_n (q := 2) dX0_weightThatLies_1 rfl (by decide) rfl rfl ?_
  refine x_iconst (q := 3) (v := 0) dX0_weightThatLies_2 rfl (by decide) ?_
  refine x_istore_n (q := 4) dX0_weightThatLies_3 rfl (by decide) rfl rfl ?_
  exact l_X0_weightThatLies hb hn h8 (n8 + 1) 0 (by omega) (by omega)
theorem dX0_spotsThatHold_0 : decode cX0_spotsThatHold 0 = .ok (.iconst 0, 1) := by decide +kernel
theorem dX0_spotsThatHold_1 : decode cX0_spotsThatHold 1 = .ok (.istore_n 1, 1) := by decide +kernel
theorem dX0_spotsThatHold_2 : decode cX0_spotsThatHold 2 = .ok (.aload_n 0, 1) := by decide +kernel
theorem dX0_spotsThatHold_3 : decode cX0_spotsThatHold 3 = .ok (.getfield 40, 3) := by decide +kernel
theorem dX0_spotsThatHold_6 : decode cX0_spotsThatHold 6 = .ok (.astore_n 2, 1) := by decide +kernel
theorem dX0_spotsThatHold_7 : decode cX0_spotsThatHold 7 = .ok (.aload_n 2, 1) := by decide +kernel
theorem dX0_spotsThatHold_8 : decode cX0_spotsThatHold 8 = .ok (.arraylength, 1) := by decide +kernel
theorem dX0_spotsThatHold_9 : decode cX0_spotsThatHold 9 = .ok (.istore_n 3, 1) := by decide +kernel
theorem dX0_spotsThatHold_10 : decode cX0_spotsThatHold 10 = .ok (.iconst 0, 1) := by decide +kernel
theorem dX0_spotsThatHold_11 : decode cX0_spotsThatHold 11 = .ok (.istore 4, 2) := by decide +kernel
theorem dX0_spotsThatHold_13 : decode cX0_spotsThatHold 13 = .ok (.iload 4, 2) := by decide +kernel
theorem dX0_spotsThatHold_15 : decode cX0_spotsThatHold 15 = .ok (.iload_n 3, 1) := by decide +kernel
theorem dX0_spotsThatHold_16 : decode cX0_spotsThatHold 16 = .ok (.if_icmp .ge 24, 3) := by decide +kernel
theorem dX0_spotsThatHold_19 : decode cX0_spotsThatHold 19 = .ok (.aload_n 2, 1) := by decide +kernel
theorem dX0_spotsThatHold_20 : decode cX0_spotsThatHold 20 = .ok (.iload 4, 2) := by decide +kernel
theorem dX0_spotsThatHold_22 : decode cX0_spotsThatHold 22 = .ok (.iaload, 1) := by decide +kernel
theorem dX0_spotsThatHold_23 : decode cX0_spotsThatHold 23 = .ok (.istore 5, 2) := by decide +kernel
theorem dX0_spotsThatHold_25 : decode cX0_spotsThatHold 25 = .ok (.iload 5, 2) := by decide +kernel
theorem dX0_spotsThatHold_27 : decode cX0_spotsThatHold 27 = .ok (.iconst (-1), 1) := by decide +kernel
theorem dX0_spotsThatHold_28 : decode cX0_spotsThatHold 28 = .ok (.if_icmp .eq 6, 3) := by decide +kernel
theorem dX0_spotsThatHold_31 : decode cX0_spotsThatHold 31 = .ok (.iinc 1 1, 3) := by decide +kernel
theorem dX0_spotsThatHold_34 : decode cX0_spotsThatHold 34 = .ok (.iinc 4 1, 3) := by decide +kernel
theorem dX0_spotsThatHold_37 : decode cX0_spotsThatHold 37 = .ok (.goto (-24), 3) := by decide +kernel
theorem dX0_spotsThatHold_40 : decode cX0_spotsThatHold 40 = .ok (.iload_n 1, 1) := by decide +kernel
theorem dX0_spotsThatHold_41 : decode cX0_spotsThatHold 41 = .ok (.ireturn, 1) := by decide +kernel
set_option maxRecDepth 20000 in
set_option maxHeartbeats 4000000 in
theorem l_X0_spotsThatHold {K : Cx} {b N : Nat} {s : Nat → Int32} {m : TM} (hb : isC b) (hN : N = 10) : ∀ (n : Nat) (j : Nat), 10 - j < n → j ≤ 10 → XX RX0 cX0_spotsThatHold 6 (some .int) 0 0 K 13 [some (.ref b), some (.int (spF s j)), some (.ref (b + 3)), some (.int 10), some (.int (nI j)), none] [] (sr m b s) (fun r1 m1 => r1 = (some (.int (spF s N))) ∧ m1 = sr m b s) := by
  intro n
  induction n with
  | zero => intro j hlt; exact absurd hlt (Nat.not_lt_zero _)
  | succ n ih =>
    intro j hlt hj
    refine x_iload (q := 15) dX0_spotsThatHold_13 rfl rfl ?_
    refine x_iload_n (q := 16) dX0_spotsThatHold_15 rfl rfl ?_
    refine x_icmp_ge (q := 19) (t := 40) dX0_spotsThatHold_16 rfl (by decide) (fun h16 => ?_) (fun h16 => ?_)
    · refine x_iload_n (q := 41) dX0_spotsThatHold_40 rfl rfl ?_
      refine x_ireturn dX0_spotsThatHold_41 rfl rfl ?_
      have e : j = 10 := Nat.le_antisymm hj (lp_stop (n := 10) rfl (by omega) (by omega) h16)
      subst hN
      subst e
      exact ⟨rfl, rfl⟩
    have hjn : j < 10 := lp_go (n := 10) rfl (by omega) (by omega) h16
    refine x_aload_n (q := 20) dX0_spotsThatHold_19 rfl rfl ?_
    refine x_iload (q := 22) dX0_spotsThatHold_20 rfl rfl ?_
    refine x_ialdr (q := 23) dX0_spotsThatHold_22 rfl (ar_spots hb) (ix_nI (n := 10) hjn (by decide)) rfl ?_
    refine x_istore (q := 25) dX0_spotsThatHold_23 rfl (by decide) rfl rfl ?_
    refine x_iload (q := 27) dX0_spotsThatHold_25 rfl rfl ?_
    refine x_iconst (q := 28) (v := (-1)) dX0_spotsThatHold_27 rfl (by decide) ?_
    refine x_icmp_eq (q := 31) (t := 34) dX0_spotsThatHold_28 rfl (by decide) (fun h28 => ?_) (fun h28 => ?_)
    · refine x_iinc (q := 37) (v := nI (j + 1)) dX0_spotsThatHold_34 rfl rfl (jnI_s j) (by decide) rfl rfl ?_
      refine x_goto (q := 13) dX0_spotsThatHold_37 (by decide) ?_
      have key := ih (j + 1) (by omega) (by omega)
      simp only [spF, h28, if_true, if_false] at key
      exact x_ls key (And.intro rfl (And.intro rfl (And.intro rfl (And.intro rfl (And.intro rfl trivial)))))
    refine x_iinc (q := 34) dX0_spotsThatHold_31 rfl rfl rfl (by decide) rfl rfl ?_
    refine x_iinc (q := 37) (v := nI (j + 1)) dX0_spotsThatHold_34 rfl rfl (jnI_s j) (by decide) rfl rfl ?_
    refine x_goto (q := 13) dX0_spotsThatHold_37 (by decide) ?_
    have key := ih (j + 1) (by omega) (by omega)
    simp only [spF, h28, if_true, if_false] at key
    exact x_ls key (And.intro rfl (And.intro rfl (And.intro rfl (And.intro rfl (And.intro rfl trivial)))))
set_option maxRecDepth 20000 in
set_option maxHeartbeats 4000000 in
theorem c_X0_spotsThatHold {K : Cx} {b : Nat} {s : Nat → Int32} {m : TM} (hb : isC b) : CT yX0_spotsThatHold cX0_spotsThatHold 6 (some .int) 0 0 K [.ref b] (sr m b s) (some (.int (spF s 10))) (sr m b s) := by
  refine ct_ofd (n := 5) (by decide +kernel) rfl rfl ?_
  show XX RX0 cX0_spotsThatHold 6 (some .int) 0 0 K 0 [some (.ref b), none, none, none, none, none] [] (sr m b s) (fun r1 m1 => r1 = (some (.int (spF s 10))) ∧ m1 = sr m b s)
  refine x_iconst (q := 1) (v := 0) dX0_spotsThatHold_0 rfl (by decide) ?_
  refine x_istore_n (q := 2) dX0_spotsThatHold_1 rfl (by decide) rfl rfl ?_
  refine x_aload_n (q := 3) dX0_spotsThatHold_2 rfl rfl ?_
  refine x_getR (q := 6) dX0_spotsThatHold_3 rfl fl_X0_40 (or0_spots hb) ?_
  refine x_astore_n (q := 7) dX0_spotsThatHold_6 rfl (by decide) rfl rfl ?_
  refine x_aload_n (q := 8) dX0_spotsThatHold_7 rfl rfl ?_
  refine x_alen (q := 9) (v := 10) dX0_spotsThatHold_8 rfl (ra_spots hb) (by decide) (by decide) ?_
  refine x_istore_n (q := 10) dX0_spotsThatHold_9 rfl (by decide) rfl rfl ?_
  refine x_iconst (q := 11) (v := 0) dX0_spotsThatHold_10 rfl (by decide) ?_
  refine x_istore (q := 13) dX0_spotsThatHold_11 rfl (by decide) rfl rfl ?_
  exact l_X0_spotsThatHold hb rfl 11 0 (by omega) (by omega)
theorem dX0_passDay_0 : decode cX0_passDay 0 = .ok (.aload_n 0, 1) := by decide +kernel
theorem dX0_passDay_1 : decode cX0_passDay 1 = .ok (.invokevirtual 61, 3) := by decide +kernel
theorem dX0_passDay_4 : decode cX0_passDay 4 = .ok (.istore_n 1, 1) := by decide +kernel
theorem dX0_passDay_5 : decode cX0_passDay 5 = .ok (.iconst 0, 1) := by decide +kernel
theorem dX0_passDay_6 : decode cX0_passDay 6 = .ok (.istore_n 2, 1) := by decide +kernel
theorem dX0_passDay_7 : decode cX0_passDay 7 = .ok (.iload_n 2, 1) := by decide +kernel
theorem dX0_passDay_8 : decode cX0_passDay 8 = .ok (.aload_n 0, 1) := by decide +kernel
theorem dX0_passDay_9 : decode cX0_passDay 9 = .ok (.getfield 31, 3) := by decide +kernel
theorem dX0_passDay_12 : decode cX0_passDay 12 = .ok (.if_icmp .ge 47, 3) := by decide +kernel
theorem dX0_passDay_15 : decode cX0_passDay 15 = .ok (.aload_n 0, 1) := by decide +kernel
theorem dX0_passDay_16 : decode cX0_passDay 16 = .ok (.getfield 36, 3) := by decide +kernel
theorem dX0_passDay_19 : decode cX0_passDay 19 = .ok (.iload_n 2, 1) := by decide +kernel
theorem dX0_passDay_20 : decode cX0_passDay 20 = .ok (.aaload, 1) := by decide +kernel
theorem dX0_passDay_21 : decode cX0_passDay 21 = .ok (.astore_n 3, 1) := by decide +kernel
theorem dX0_passDay_22 : decode cX0_passDay 22 = .ok (.aload_n 3, 1) := by decide +kernel
theorem dX0_passDay_23 : decode cX0_passDay 23 = .ok (.getfield 65, 3) := by decide +kernel
theorem dX0_passDay_26 : decode cX0_passDay 26 = .ok (.ifCond .ne 16, 3) := by decide +kernel
theorem dX0_passDay_29 : decode cX0_passDay 29 = .ok (.aload_n 3, 1) := by decide +kernel
theorem dX0_passDay_30 : decode cX0_passDay 30 = .ok (.getfield 68, 3) := by decide +kernel
theorem dX0_passDay_33 : decode cX0_passDay 33 = .ok (.ifCond .ne 9, 3) := by decide +kernel
theorem dX0_passDay_36 : decode cX0_passDay 36 = .ok (.aload_n 0, 1) := by decide +kernel
theorem dX0_passDay_37 : decode cX0_passDay 37 = .ok (.aload_n 3, 1) := by decide +kernel
theorem dX0_passDay_38 : decode cX0_passDay 38 = .ok (.iload_n 1, 1) := by decide +kernel
theorem dX0_passDay_39 : decode cX0_passDay 39 = .ok (.invokevirtual 71, 3) := by decide +kernel
theorem dX0_passDay_42 : decode cX0_passDay 42 = .ok (.aload_n 3, 1) := by decide +kernel
theorem dX0_passDay_43 : decode cX0_passDay 43 = .ok (.getfield 65, 3) := by decide +kernel
theorem dX0_passDay_46 : decode cX0_passDay 46 = .ok (.ifCond .ne 7, 3) := by decide +kernel
theorem dX0_passDay_49 : decode cX0_passDay 49 = .ok (.aload_n 3, 1) := by decide +kernel
theorem dX0_passDay_50 : decode cX0_passDay 50 = .ok (.invokevirtual 75, 3) := by decide +kernel
theorem dX0_passDay_53 : decode cX0_passDay 53 = .ok (.iinc 2 1, 3) := by decide +kernel
theorem dX0_passDay_56 : decode cX0_passDay 56 = .ok (.goto (-49), 3) := by decide +kernel
theorem dX0_passDay_59 : decode cX0_passDay 59 = .ok (.aload_n 0, 1) := by decide +kernel
theorem dX0_passDay_60 : decode cX0_passDay 60 = .ok (.aload_n 0, 1) := by decide +kernel
theorem dX0_passDay_61 : decode cX0_passDay 61 = .ok (.getfield 25, 3) := by decide +kernel
theorem dX0_passDay_64 : decode cX0_passDay 64 = .ok (.iconst 1, 1) := by decide +kernel
theorem dX0_passDay_65 : decode cX0_passDay 65 = .ok (.iadd, 1) := by decide +kernel
theorem dX0_passDay_66 : decode cX0_passDay 66 = .ok (.ldc 78, 2) := by decide +kernel
theorem dX0_passDay_68 : decode cX0_passDay 68 = .ok (.invokestatic 79, 3) := by decide +kernel
theorem dX0_passDay_71 : decode cX0_passDay 71 = .ok (.putfield 25, 3) := by decide +kernel
theorem dX0_passDay_74 : decode cX0_passDay 74 = .ok (.return_, 1) := by decide +kernel
set_option maxRecDepth 20000 in
set_option maxHeartbeats 4000000 in
theorem l_X0_passDay {K : Cx} {b n8 : Nat} {t : Int32} {s : Nat → Int32} {m : TM} (hb : isC b) (hn : s 1 = nI n8) (h8 : n8 ≤ 8) : ∀ (n : Nat) (j : Nat), n8 - j < n → j ≤ n8 → XX RX0 cX0_passDay 4 none 3 64 K 7 [some (.ref b), some (.int t), some (.int (nI j)), none] [] (sr m b (dyL s t j)) (fun r1 m1 => r1 = none ∧ m1 = sr m b (upd (dyL s t n8) 0 (minI (dyL s t n8 0 + 1) 99999))) := by
  intro n
  induction n with
  | zero => intro j hlt; exact absurd hlt (Nat.not_lt_zero _)
  | succ n ih =>
    intro j hlt hj
    have hnj : dyL s t j 1 = nI n8 := by rw [dyL_lo (by decide) (by decide) (by decide), hn]
    refine x_iload_n (q := 8) dX0_passDay_7 rfl rfl ?_
    refine x_aload_n (q := 9) dX0_passDay_8 rfl rfl ?_
    refine x_getIr (q := 12) dX0_passDay_9 rfl fl_X0_31 (ob0_laid hb) ?_
    refine x_icmp_ge (q := 15) (t := 59) dX0_passDay_12 rfl (by decide) (fun h12 => ?_) (fun h12 => ?_)
    · refine x_aload_n (q := 60) dX0_passDay_59 rfl rfl ?_
      refine x_aload_n (q := 61) dX0_passDay_60 rfl rfl ?_
      refine x_getIr (q := 64) dX0_passDay_61 rfl fl_X0_25 (ob0_day hb) ?_
      refine x_iconst (q := 65) (v := 1) dX0_passDay_64 rfl (by decide) ?_
      refine x_iadd (q := 66) dX0_passDay_65 rfl ?_
      refine x_ldc (q := 68) dX0_passDay_66 rfl kc_X0_78 ?_
      refine x_mmin (q := 71) dX0_passDay_68 rfl ml_X0_79 ⟨by decide, Nat.le_of_ble_eq_true rfl⟩ ?_
      refine x_putIr (q := 74) dX0_passDay_71 rfl fl_X0_25 (ob0_day hb) rfl rfl rfl  ?_
      refine x_return dX0_passDay_74 rfl ?_
      have e : j = n8 := Nat.le_antisymm hj (lp_stop hnj (by omega) (by omega) h12)
      subst e
      exact ⟨rfl, rfl⟩
    have hjn : j < n8 := lp_go hnj (by omega) (by omega) h12
    have hj8 : j < 8 := by omega
    refine x_aload_n (q := 16) dX0_passDay_15 rfl rfl ?_
    refine x_getR (q := 19) dX0_passDay_16 rfl fl_X0_36 (or0_slip hb) ?_
    refine x_iload_n (q := 20) dX0_passDay_19 rfl rfl ?_
    refine x_slip (q := 21) dX0_passDay_20 rfl hb (ix_nI hj8 (by decide)) ?_
    refine x_astore_n (q := 22) dX0_passDay_21 rfl (by decide) rfl rfl ?_
    refine x_aload_n (q := 23) dX0_passDay_22 rfl rfl ?_
    refine x_getIr (q := 26) dX0_passDay_23 rfl fl_X0_65 (ob1 hb hj8 4 (by decide)) ?_
    refine x_if_ne (q := 29) (t := 42) dX0_passDay_26 rfl (by decide) (fun h26 => ?_) (fun h26 => ?_)
    · refine x_aload_n (q := 43) dX0_passDay_42 rfl rfl ?_
      refine x_getIr (q := 46) dX0_passDay_43 rfl fl_X0_65 (ob1 hb hj8 4 (by decide)) ?_
      refine x_if_ne (q := 49) (t := 53) dX0_passDay_46 rfl (by decide) (fun h46 => ?_) (fun h46 => ?_)
      · refine x_iinc (q := 56) (v := nI (j + 1)) dX0_passDay_53 rfl rfl (jnI_s j) (by decide) rfl rfl ?_
        refine x_goto (q := 7) dX0_passDay_56 (by decide) ?_
        have key := ih (j + 1) (by omega) (by omega)
        have e : dyL s t (j + 1) = stC (dyL s t j) t j := rfl
        rw [e] at key
        have em : mtC (dyL s t j) t j = dyL s t j := by simp only [mtC, h26, if_true, if_false]
        rw [stC, em, if_neg h46] at key
        exact x_ls key (And.intro rfl (And.intro rfl (And.intro rfl trivial)))
      refine x_aload_n (q := 50) dX0_passDay_49 rfl rfl ?_
      refine x_callV0n (q := 53) dX0_passDay_50 rfl ml_X0_75 mv_X1_waitOneDay (rv1 hb hj8) rfl (c_X1_waitOneDay hb hj8) (Nat.le_of_ble_eq_true rfl) ⟨by decide, by decide⟩ ?_
      refine x_iinc (q := 56) (v := nI (j + 1)) dX0_passDay_53 rfl rfl (jnI_s j) (by decide) rfl rfl ?_
      refine x_goto (q := 7) dX0_passDay_56 (by decide) ?_
      have key := ih (j + 1) (by omega) (by omega)
      have e : dyL s t (j + 1) = stC (dyL s t j) t j := rfl
      rw [e] at key
      have em : mtC (dyL s t j) t j = dyL s t j := by simp only [mtC, h26, if_true, if_false]
      rw [stC, em, if_pos h46] at key
      exact x_ls key (And.intro rfl (And.intro rfl (And.intro rfl trivial)))
    refine x_aload_n (q := 30) dX0_passDay_29 rfl rfl ?_
    refine x_getIr (q := 33) dX0_passDay_30 rfl fl_X0_68 (ob1 hb hj8 5 (by decide)) ?_
    refine x_if_ne (q := 36) (t := 42) dX0_passDay_33 rfl (by decide) (fun h33 => ?_) (fun h33 => ?_)
    · refine x_aload_n (q := 43) dX0_passDay_42 rfl rfl ?_
      refine x_getIr (q := 46) dX0_passDay_43 rfl fl_X0_65 (ob1 hb hj8 4 (by decide)) ?_
      refine x_if_ne (q := 49) (t := 53) dX0_passDay_46 rfl (by decide) (fun h46 => ?_) (fun h46 => ?_)
      · refine x_iinc (q := 56) (v := nI (j + 1)) dX0_passDay_53 rfl rfl (jnI_s j) (by decide) rfl rfl ?_
        refine x_goto (q := 7) dX0_passDay_56 (by decide) ?_
        have key := ih (j + 1) (by omega) (by omega)
        have e : dyL s t (j + 1) = stC (dyL s t j) t j := rfl
        rw [e] at key
        have em : mtC (dyL s t j) t j = dyL s t j := by simp only [mtC, h26, h33, if_true, if_false]
        rw [stC, em, if_neg h46] at key
        exact x_ls key (And.intro rfl (And.intro rfl (And.intro rfl trivial)))
      refine x_aload_n (q := 50) dX0_passDay_49 rfl rfl ?_
      refine x_callV0n (q := 53) dX0_passDay_50 rfl ml_X0_75 mv_X1_waitOneDay (rv1 hb hj8) rfl (c_X1_waitOneDay hb hj8) (Nat.le_of_ble_eq_true rfl) ⟨by decide, by decide⟩ ?_
      refine x_iinc (q := 56) (v := nI (j + 1)) dX0_passDay_53 rfl rfl (jnI_s j) (by decide) rfl rfl ?_
      refine x_goto (q := 7) dX0_passDay_56 (by decide) ?_
      have key := ih (j + 1) (by omega) (by omega)
      have e : dyL s t (j + 1) = stC (dyL s t j) t j := rfl
      rw [e] at key
      have em : mtC (dyL s t j) t j = dyL s t j := by simp only [mtC, h26, h33, if_true, if_false]
      rw [stC, em, if_pos h46] at key
      exact x_ls key (And.intro rfl (And.intro rfl (And.intro rfl trivial)))
    refine x_aload_n (q := 37) dX0_passDay_36 rfl rfl ?_
    refine x_aload_n (q := 38) dX0_passDay_37 rfl rfl ?_
    refine x_iload_n (q := 39) dX0_passDay_38 rfl rfl ?_
    refine x_callV2n (q := 42) dX0_passDay_39 rfl ml_X0_71 mv_X0_meet (rv0 hb) rfl (c_X0_meet hb hj8) (Nat.le_of_ble_eq_true rfl) ⟨by decide, by decide⟩ ?_
    refine x_aload_n (q := 43) dX0_passDay_42 rfl rfl ?_
    refine x_getIr (q := 46) dX0_passDay_43 rfl fl_X0_65 (ob1 hb hj8 4 (by decide)) ?_
    refine x_if_ne (q := 49) (t := 53) dX0_passDay_46 rfl (by decide) (fun h46 => ?_) (fun h46 => ?_)
    · refine x_iinc (q := 56) (v := nI (j + 1)) dX0_passDay_53 rfl rfl (jnI_s j) (by decide) rfl rfl ?_
      refine x_goto (q := 7) dX0_passDay_56 (by decide) ?_
      have key := ih (j + 1) (by omega) (by omega)
      have e : dyL s t (j + 1) = stC (dyL s t j) t j := rfl
      rw [e] at key
      have em : mtC (dyL s t j) t j = meF (dyL s t j) j t := by simp only [mtC, h26, h33, if_true, if_false]
      rw [stC, em, if_neg h46] at key
      exact x_ls key (And.intro rfl (And.intro rfl (And.intro rfl trivial)))
    refine x_aload_n (q := 50) dX0_passDay_49 rfl rfl ?_
    refine x_callV0n (q := 53) dX0_passDay_50 rfl ml_X0_75 mv_X1_waitOneDay (rv1 hb hj8) rfl (c_X1_waitOneDay hb hj8) (Nat.le_of_ble_eq_true rfl) ⟨by decide, by decide⟩ ?_
    refine x_iinc (q := 56) (v := nI (j + 1)) dX0_passDay_53 rfl rfl (jnI_s j) (by decide) rfl rfl ?_
    refine x_goto (q := 7) dX0_passDay_56 (by decide) ?_
    have key := ih (j + 1) (by omega) (by omega)
    have e : dyL s t (j + 1) = stC (dyL s t j) t j := rfl
    rw [e] at key
    have em : mtC (dyL s t j) t j = meF (dyL s t j) j t := by simp only [mtC, h26, h33, if_true, if_false]
    rw [stC, em, if_pos h46] at key
    exact x_ls key (And.intro rfl (And.intro rfl (And.intro rfl trivial)))
set_option maxRecDepth 20000 in
set_option maxHeartbeats 4000000 in
theorem c_X0_passDay {K : Cx} {b n8 : Nat} {s : Nat → Int32} {m : TM} (hb : isC b) (hn : s 1 = nI n8) (h8 : n8 ≤ 8) (ht : TD s) : CT yX0_passDay cX0_passDay 4 none 3 64 K [.ref b] (sr m b s) none (sr m b (dyC s n8)) := by
  refine ct_ofd (n := 3) (by decide +kernel) rfl rfl ?_
  show XX RX0 cX0_passDay 4 none 3 64 K 0 [some (.ref b), none, none, none] [] (sr m b s) (fun r1 m1 => r1 = none ∧ m1 = sr m b (dyC s n8))
  refine x_aload_n (q := 1) dX0_passDay_0 rfl rfl ?_
  refine x_callV0v (q := 4) dX0_passDay_1 rfl ml_X0_61 mv_X0_tideOfDay (rv0 hb) rfl (c_X0_tideOfDay hb ht) (Nat.le_of_ble_eq_true rfl) ⟨by decide, by decide⟩ ?_
  refine x_istore_n (q := 5) dX0_passDay_4 rfl (by decide) rfl rfl ?_
  refine x_iconst (q := 6) (v := 0) dX0_passDay_5 rfl (by decide) ?_
  refine x_istore_n (q := 7) dX0_passDay_6 rfl (by decide) rfl rfl ?_
  exact l_X0_passDay hb hn h8 (n8 + 1) 0 (by omega) (by omega)
theorem dX0_lay_0 : decode cX0_lay 0 = .ok (.aload_n 0, 1) := by decide +kernel
theorem dX0_lay_1 : decode cX0_lay 1 = .ok (.getfield 31, 3) := by decide +kernel
theorem dX0_lay_4 : decode cX0_lay 4 = .ok (.aload_n 0, 1) := by decide +kernel
theorem dX0_lay_5 : decode cX0_lay 5 = .ok (.getfield 36, 3) := by decide +kernel
theorem dX0_lay_8 : decode cX0_lay 8 = .ok (.arraylength, 1) := by decide +kernel
theorem dX0_lay_9 : decode cX0_lay 9 = .ok (.if_icmp .lt 5, 3) := by decide +kernel
theorem dX0_lay_12 : decode cX0_lay 12 = .ok (.aconst_null, 1) := by decide +kernel
theorem dX0_lay_13 : decode cX0_lay 13 = .ok (.areturn, 1) := by decide +kernel
theorem dX0_lay_14 : decode cX0_lay 14 = .ok (.aload_n 0, 1) := by decide +kernel
theorem dX0_lay_15 : decode cX0_lay 15 = .ok (.getfield 36, 3) := by decide +kernel
theorem dX0_lay_18 : decode cX0_lay 18 = .ok (.aload_n 0, 1) := by decide +kernel
theorem dX0_lay_19 : decode cX0_lay 19 = .ok (.getfield 31, 3) := by decide +kernel
theorem dX0_lay_22 : decode cX0_lay 22 = .ok (.aaload, 1) := by decide +kernel
theorem dX0_lay_23 : decode cX0_lay 23 = .ok (.astore_n 2, 1) := by decide +kernel
theorem dX0_lay_24 : decode cX0_lay 24 = .ok (.aload_n 2, 1) := by decide +kernel
theorem dX0_lay_25 : decode cX0_lay 25 = .ok (.iload_n 1, 1) := by decide +kernel
theorem dX0_lay_26 : decode cX0_lay 26 = .ok (.invokevirtual 54, 3) := by decide +kernel
theorem dX0_lay_29 : decode cX0_lay 29 = .ok (.aload_n 0, 1) := by decide +kernel
theorem dX0_lay_30 : decode cX0_lay 30 = .ok (.dup, 1) := by decide +kernel
theorem dX0_lay_31 : decode cX0_lay 31 = .ok (.getfield 31, 3) := by decide +kernel
theorem dX0_lay_34 : decode cX0_lay 34 = .ok (.iconst 1, 1) := by decide +kernel
theorem dX0_lay_35 : decode cX0_lay 35 = .ok (.iadd, 1) := by decide +kernel
theorem dX0_lay_36 : decode cX0_lay 36 = .ok (.putfield 31, 3) := by decide +kernel
theorem dX0_lay_39 : decode cX0_lay 39 = .ok (.aload_n 2, 1) := by decide +kernel
theorem dX0_lay_40 : decode cX0_lay 40 = .ok (.areturn, 1) := by decide +kernel
set_option maxRecDepth 20000 in
set_option maxHeartbeats 4000000 in
theorem c_X0_lay {K : Cx} {b n8 : Nat} {x : Int32} {s : Nat → Int32} {m : TM} (hb : isC b) (hn : s 1 = nI n8) (h8 : n8 < 8) : CT yX0_lay cX0_lay 3 (some (.object "SeaParcels$Parcel")) 1 21 K [.ref b, .int x] (sr m b s) (some (.ref (b + 4 + n8))) (sr m b (upd (newF s n8 x) 1 (nI (n8 + 1)))) := by
  refine ct_ofd (n := 1) (by decide +kernel) rfl rfl ?_
  show XX RX0 cX0_lay 3 (some (.object "SeaParcels$Parcel")) 1 21 K 0 [some (.ref b), some (.int x), none] [] (sr m b s) (fun r1 m1 => r1 = (some (.ref (b + 4 + n8))) ∧ m1 = sr m b (upd (newF s n8 x) 1 (nI (n8 + 1))))
  refine x_aload_n (q := 1) dX0_lay_0 rfl rfl ?_
  refine x_getIr (q := 4) dX0_lay_1 rfl fl_X0_31 (ob0_laid hb) ?_
  refine x_aload_n (q := 5) dX0_lay_4 rfl rfl ?_
  refine x_getR (q := 8) dX0_lay_5 rfl fl_X0_36 (or0_slip hb) ?_
  refine x_alen (q := 9) (v := 8) dX0_lay_8 rfl (ra_slip hb) (by decide) (by decide) ?_
  refine x_icmp_lt (q := 12) (t := 14) dX0_lay_9 rfl (by decide) (fun h9 => ?_) (fun h9 => ?_)
  · refine x_aload_n (q := 15) dX0_lay_14 rfl rfl ?_
    refine x_getR (q := 18) dX0_lay_15 rfl fl_X0_36 (or0_slip hb) ?_
    refine x_aload_n (q := 19) dX0_lay_18 rfl rfl ?_
    refine x_getIr (q := 22) dX0_lay_19 rfl fl_X0_31 (ob0_laid hb) ?_
    refine x_slip (q := 23) dX0_lay_22 rfl hb (by rw [hn]; exact ix_nI h8 (by decide)) ?_
    refine x_astore_n (q := 24) dX0_lay_23 rfl (by decide) rfl rfl ?_
    refine x_aload_n (q := 25) dX0_lay_24 rfl rfl ?_
    refine x_iload_n (q := 26) dX0_lay_25 rfl rfl ?_
    refine x_callV1n (q := 29) dX0_lay_26 rfl ml_X0_54 mv_X1_beNew (rv1 hb h8) rfl (c_X1_beNew hb h8) (Nat.le_of_ble_eq_true rfl) ⟨by decide, by decide⟩ ?_
    refine x_aload_n (q := 30) dX0_lay_29 rfl rfl ?_
    refine x_dup (q := 31) dX0_lay_30 rfl rfl ?_
    refine x_getIr (q := 34) dX0_lay_31 rfl fl_X0_31 (ob0_laid hb) ?_
    refine x_iconst (q := 35) (v := 1) dX0_lay_34 rfl (by decide) ?_
    refine x_iadd (q := 36) dX0_lay_35 rfl ?_
    refine x_putIr (q := 39) dX0_lay_36 rfl fl_X0_31 (ob0_laid hb) rfl rfl rfl  ?_
    refine x_aload_n (q := 40) dX0_lay_39 rfl rfl ?_
    refine x_areturn dX0_lay_40 rfl (Or.inr ⟨_, rfl⟩) ?_
    refine ⟨rfl, ?_⟩
    have e : newF s n8 x 1 = s 1 := by
      unfold newF
      rw [upd_ne (by omega), upd_ne (by omega), upd_ne (by omega), upd_ne (by omega), upd_ne (by omega), upd_ne (by omega), upd_ne (by omega)]
    rw [e, hn, nI_1]
  refine x_null (q := 13) dX0_lay_12 rfl ?_
  refine x_areturn dX0_lay_13 rfl (Or.inl rfl) ?_
  exact absurd (by rw [hn]; exact (jnI_lt (b := 8) (by omega) (by omega)).mpr h8) h9
set_option maxRecDepth 20000 in
set_option maxHeartbeats 4000000 in
theorem c_X0_layN {K : Cx} {b : Nat} {x : Int32} {s : Nat → Int32} {m : TM} (hb : isC b) (hn : s 1 = nI 8) : CT yX0_lay cX0_lay 3 (some (.object "SeaParcels$Parcel")) 1 21 K [.ref b, .int x] (sr m b s) (some .null) (sr m b s) := by
  refine ct_ofd (n := 1) (by decide +kernel) rfl rfl ?_
  show XX RX0 cX0_lay 3 (some (.object "SeaParcels$Parcel")) 1 21 K 0 [some (.ref b), some (.int x), none] [] (sr m b s) (fun r1 m1 => r1 = (some .null) ∧ m1 = sr m b s)
  refine x_aload_n (q := 1) dX0_lay_0 rfl rfl ?_
  refine x_getIr (q := 4) dX0_lay_1 rfl fl_X0_31 (ob0_laid hb) ?_
  refine x_aload_n (q := 5) dX0_lay_4 rfl rfl ?_
  refine x_getR (q := 8) dX0_lay_5 rfl fl_X0_36 (or0_slip hb) ?_
  refine x_alen (q := 9) (v := 8) dX0_lay_8 rfl (ra_slip hb) (by decide) (by decide) ?_
  refine x_icmp_lt (q := 12) (t := 14) dX0_lay_9 rfl (by decide) (fun h9 => ?_) (fun h9 => ?_)
  · exact absurd (hn ▸ h9) (by decide)
  refine x_null (q := 13) dX0_lay_12 rfl ?_
  refine x_areturn dX0_lay_13 rfl (Or.inl rfl) ?_
  exact ⟨rfl, rfl⟩
theorem dX0_becomeAs_0 : decode cX0_becomeAs 0 = .ok (.aload_n 1, 1) := by decide +kernel
theorem dX0_becomeAs_1 : decode cX0_becomeAs 1 = .ok (.getfield 9, 3) := by decide +kernel
theorem dX0_becomeAs_4 : decode cX0_becomeAs 4 = .ok (.iconst 0, 1) := by decide +kernel
theorem dX0_becomeAs_5 : decode cX0_becomeAs 5 = .ok (.aload_n 0, 1) := by decide +kernel
theorem dX0_becomeAs_6 : decode cX0_becomeAs 6 = .ok (.getfield 9, 3) := by decide +kernel
theorem dX0_becomeAs_9 : decode cX0_becomeAs 9 = .ok (.iconst 0, 1) := by decide +kernel
theorem dX0_becomeAs_10 : decode cX0_becomeAs 10 = .ok (.bipush 6, 2) := by decide +kernel
theorem dX0_becomeAs_12 : decode cX0_becomeAs 12 = .ok (.invokestatic 44, 3) := by decide +kernel
theorem dX0_becomeAs_15 : decode cX0_becomeAs 15 = .ok (.aload_n 0, 1) := by decide +kernel
theorem dX0_becomeAs_16 : decode cX0_becomeAs 16 = .ok (.aload_n 1, 1) := by decide +kernel
theorem dX0_becomeAs_17 : decode cX0_becomeAs 17 = .ok (.getfield 15, 3) := by decide +kernel
theorem dX0_becomeAs_20 : decode cX0_becomeAs 20 = .ok (.putfield 15, 3) := by decide +kernel
theorem dX0_becomeAs_23 : decode cX0_becomeAs 23 = .ok (.aload_n 0, 1) := by decide +kernel
theorem dX0_becomeAs_24 : decode cX0_becomeAs 24 = .ok (.aload_n 1, 1) := by decide +kernel
theorem dX0_becomeAs_25 : decode cX0_becomeAs 25 = .ok (.getfield 19, 3) := by decide +kernel
theorem dX0_becomeAs_28 : decode cX0_becomeAs 28 = .ok (.putfield 19, 3) := by decide +kernel
theorem dX0_becomeAs_31 : decode cX0_becomeAs 31 = .ok (.aload_n 0, 1) := by decide +kernel
theorem dX0_becomeAs_32 : decode cX0_becomeAs 32 = .ok (.aload_n 1, 1) := by decide +kernel
theorem dX0_becomeAs_33 : decode cX0_becomeAs 33 = .ok (.getfield 22, 3) := by decide +kernel
theorem dX0_becomeAs_36 : decode cX0_becomeAs 36 = .ok (.putfield 22, 3) := by decide +kernel
theorem dX0_becomeAs_39 : decode cX0_becomeAs 39 = .ok (.aload_n 0, 1) := by decide +kernel
theorem dX0_becomeAs_40 : decode cX0_becomeAs 40 = .ok (.aload_n 1, 1) := by decide +kernel
theorem dX0_becomeAs_41 : decode cX0_becomeAs 41 = .ok (.getfield 25, 3) := by decide +kernel
theorem dX0_becomeAs_44 : decode cX0_becomeAs 44 = .ok (.putfield 25, 3) := by decide +kernel
theorem dX0_becomeAs_47 : decode cX0_becomeAs 47 = .ok (.aload_n 0, 1) := by decide +kernel
theorem dX0_becomeAs_48 : decode cX0_becomeAs 48 = .ok (.aload_n 1, 1) := by decide +kernel
theorem dX0_becomeAs_49 : decode cX0_becomeAs 49 = .ok (.getfield 28, 3) := by decide +kernel
theorem dX0_becomeAs_52 : decode cX0_becomeAs 52 = .ok (.putfield 28, 3) := by decide +kernel
theorem dX0_becomeAs_55 : decode cX0_becomeAs 55 = .ok (.aload_n 0, 1) := by decide +kernel
theorem dX0_becomeAs_56 : decode cX0_becomeAs 56 = .ok (.aload_n 1, 1) := by decide +kernel
theorem dX0_becomeAs_57 : decode cX0_becomeAs 57 = .ok (.getfield 31, 3) := by decide +kernel
theorem dX0_becomeAs_60 : decode cX0_becomeAs 60 = .ok (.putfield 31, 3) := by decide +kernel
theorem dX0_becomeAs_63 : decode cX0_becomeAs 63 = .ok (.iconst 0, 1) := by decide +kernel
theorem dX0_becomeAs_64 : decode cX0_becomeAs 64 = .ok (.istore_n 2, 1) := by decide +kernel
theorem dX0_becomeAs_65 : decode cX0_becomeAs 65 = .ok (.iload_n 2, 1) := by decide +kernel
theorem dX0_becomeAs_66 : decode cX0_becomeAs 66 = .ok (.aload_n 0, 1) := by decide +kernel
theorem dX0_becomeAs_67 : decode cX0_becomeAs 67 = .ok (.getfield 31, 3) := by decide +kernel
theorem dX0_becomeAs_70 : decode cX0_becomeAs 70 = .ok (.if_icmp .ge 24, 3) := by decide +kernel
theorem dX0_becomeAs_73 : decode cX0_becomeAs 73 = .ok (.aload_n 0, 1) := by decide +kernel
theorem dX0_becomeAs_74 : decode cX0_becomeAs 74 = .ok (.getfield 36, 3) := by decide +kernel
theorem dX0_becomeAs_77 : decode cX0_becomeAs 77 = .ok (.iload_n 2, 1) := by decide +kernel
theorem dX0_becomeAs_78 : decode cX0_becomeAs 78 = .ok (.aaload, 1) := by decide +kernel
theorem dX0_becomeAs_79 : decode cX0_becomeAs 79 = .ok (.aload_n 1, 1) := by decide +kernel
theorem dX0_becomeAs_80 : decode cX0_becomeAs 80 = .ok (.getfield 36, 3) := by decide +kernel
theorem dX0_becomeAs_83 : decode cX0_becomeAs 83 = .ok (.iload_n 2, 1) := by decide +kernel
theorem dX0_becomeAs_84 : decode cX0_becomeAs 84 = .ok (.aaload, 1) := by decide +kernel
theorem dX0_becomeAs_85 : decode cX0_becomeAs 85 = .ok (.invokevirtual 50, 3) := by decide +kernel
theorem dX0_becomeAs_88 : decode cX0_becomeAs 88 = .ok (.iinc 2 1, 3) := by decide +kernel
theorem dX0_becomeAs_91 : decode cX0_becomeAs 91 = .ok (.goto (-26), 3) := by decide +kernel
theorem dX0_becomeAs_94 : decode cX0_becomeAs 94 = .ok (.aload_n 1, 1) := by decide +kernel
theorem dX0_becomeAs_95 : decode cX0_becomeAs 95 = .ok (.getfield 40, 3) := by decide +kernel
theorem dX0_becomeAs_98 : decode cX0_becomeAs 98 = .ok (.iconst 0, 1) := by decide +kernel
theorem dX0_becomeAs_99 : decode cX0_becomeAs 99 = .ok (.aload_n 0, 1) := by decide +kernel
theorem dX0_becomeAs_100 : decode cX0_becomeAs 100 = .ok (.getfield 40, 3) := by decide +kernel
theorem dX0_becomeAs_103 : decode cX0_becomeAs 103 = .ok (.iconst 0, 1) := by decide +kernel
theorem dX0_becomeAs_104 : decode cX0_becomeAs 104 = .ok (.bipush 10, 2) := by decide +kernel
theorem dX0_becomeAs_106 : decode cX0_becomeAs 106 = .ok (.invokestatic 44, 3) := by decide +kernel
theorem dX0_becomeAs_109 : decode cX0_becomeAs 109 = .ok (.return_, 1) := by decide +kernel
set_option maxRecDepth 20000 in
set_option maxHeartbeats 4000000 in
theorem l_X0_becomeAs {K : Cx} {b b2 n8 : Nat} {s : Nat → Int32} {m : TM} (hb : isC b) (h2 : isC b2) (hne : b2 ≠ b) (hn : s 1 = nI n8) (h8 : n8 ≤ 8) : ∀ (n : Nat) (j : Nat), n8 - j < n → j ≤ n8 → XX RX0 cX0_becomeAs 3 none 1 30 K 65 [some (.ref b), some (.ref b2), some (.int (nI j))] [] (sr m b (bcL s (m.1 b2) j)) (fun r1 m1 => r1 = none ∧ m1 = sr m b (cpR (bcL s (m.1 b2) n8) (m.1 b2) 68 68 10)) := by
  intro n
  induction n with
  | zero => intro j hlt; exact absurd hlt (Nat.not_lt_zero _)
  | succ n ih =>
    intro j hlt hj
    have hnj : bcL s (m.1 b2) j 1 = nI n8 := by rw [bcL_lo (by decide), hn]
    refine x_iload_n (q := 66) dX0_becomeAs_65 rfl rfl ?_
    refine x_aload_n (q := 67) dX0_becomeAs_66 rfl rfl ?_
    refine x_getIr (q := 70) dX0_becomeAs_67 rfl fl_X0_31 (ob0_laid hb) ?_
    refine x_icmp_ge (q := 73) (t := 94) dX0_becomeAs_70 rfl (by decide) (fun h70 => ?_) (fun h70 => ?_)
    · refine x_aload_n (q := 95) dX0_becomeAs_94 rfl rfl ?_
      refine x_getR (q := 98) dX0_becomeAs_95 rfl fl_X0_40 (or0_spots h2) ?_
      refine x_iconst (q := 99) (v := 0) dX0_becomeAs_98 rfl (by decide) ?_
      refine x_aload_n (q := 100) dX0_becomeAs_99 rfl rfl ?_
      refine x_getR (q := 103) dX0_becomeAs_100 rfl fl_X0_40 (or0_spots hb) ?_
      refine x_iconst (q := 104) (v := 0) dX0_becomeAs_103 rfl (by decide) ?_
      refine x_bipush (q := 106) (v := 10) dX0_becomeAs_104 rfl (by decide) ?_
      refine x_copy (q := 109) dX0_becomeAs_106 rfl ac_X0 (ar_spots h2) (ar_spots hb) ⟨by decide, by decide, by decide⟩ ⟨rfl, rfl, rfl⟩ (by decide) (by decide) ⟨by decide, Nat.le_of_ble_eq_true rfl⟩ (cpy_sr hne) ?_
      refine x_return dX0_becomeAs_109 rfl ?_
      have e : j = n8 := Nat.le_antisymm hj (lp_stop hnj (by omega) (by omega) h70)
      subst e
      exact ⟨rfl, rfl⟩
    have hjn : j < n8 := lp_go hnj (by omega) (by omega) h70
    have hj8 : j < 8 := by omega
    refine x_aload_n (q := 74) dX0_becomeAs_73 rfl rfl ?_
    refine x_getR (q := 77) dX0_becomeAs_74 rfl fl_X0_36 (or0_slip hb) ?_
    refine x_iload_n (q := 78) dX0_becomeAs_77 rfl rfl ?_
    refine x_slip (q := 79) dX0_becomeAs_78 rfl hb (ix_nI hj8 (by decide)) ?_
    refine x_aload_n (q := 80) dX0_becomeAs_79 rfl rfl ?_
    refine x_getR (q := 83) dX0_becomeAs_80 rfl fl_X0_36 (or0_slip h2) ?_
    refine x_iload_n (q := 84) dX0_becomeAs_83 rfl rfl ?_
    refine x_slip (q := 85) dX0_becomeAs_84 rfl h2 (ix_nI hj8 (by decide)) ?_
    refine x_callV1n (q := 88) dX0_becomeAs_85 rfl ml_X0_50 mv_X1_becomeAs (rv1 hb hj8) rfl (c_X1_becomeAs hb hj8 h2 hj8 hne) (Nat.le_of_ble_eq_true rfl) ⟨by decide, by decide⟩ ?_
    refine x_iinc (q := 91) (v := nI (j + 1)) dX0_becomeAs_88 rfl rfl (jnI_s j) (by decide) rfl rfl ?_
    refine x_goto (q := 65) dX0_becomeAs_91 (by decide) ?_
    exact ih (j + 1) (by omega) (by omega)
set_option maxRecDepth 20000 in
set_option maxHeartbeats 4000000 in
theorem c_X0_becomeAs {K : Cx} {b b2 n8 : Nat} {s : Nat → Int32} {m : TM} (hb : isC b) (h2 : isC b2) (hne : b2 ≠ b) (hn : m.1 b2 1 = nI n8) (h8 : n8 ≤ 8) : CT yX0_becomeAs cX0_becomeAs 3 none 1 30 K [.ref b, .ref b2] (sr m b s) none (sr m b (bcF s (m.1 b2) n8)) := by
  refine ct_ofd (n := 1) (by decide +kernel) rfl rfl ?_
  show XX RX0 cX0_becomeAs 3 none 1 30 K 0 [some (.ref b), some (.ref b2), none] [] (sr m b s) (fun r1 m1 => r1 = none ∧ m1 = sr m b (bcF s (m.1 b2) n8))
  refine x_aload_n (q := 1) dX0_becomeAs_0 rfl rfl ?_
  refine x_getR (q := 4) dX0_becomeAs_1 rfl fl_X0_9 (or0_list h2) ?_
  refine x_iconst (q := 5) (v := 0) dX0_becomeAs_4 rfl (by decide) ?_
  refine x_aload_n (q := 6) dX0_becomeAs_5 rfl rfl ?_
  refine x_getR (q := 9) dX0_becomeAs_6 rfl fl_X0_9 (or0_list hb) ?_
  refine x_iconst (q := 10) (v := 0) dX0_becomeAs_9 rfl (by decide) ?_
  refine x_bipush (q := 12) (v := 6) dX0_becomeAs_10 rfl (by decide) ?_
  refine x_copy (q := 15) dX0_becomeAs_12 rfl ac_X0 (ar_list h2) (ar_list hb) ⟨by decide, by decide, by decide⟩ ⟨rfl, rfl, rfl⟩ (by decide) (by decide) ⟨by decide, Nat.le_of_ble_eq_true rfl⟩ (cpy_sr hne) ?_
  refine x_aload_n (q := 16) dX0_becomeAs_15 rfl rfl ?_
  refine x_aload_n (q := 17) dX0_becomeAs_16 rfl rfl ?_
  refine x_getI (q := 20) dX0_becomeAs_17 rfl fl_X0_15 (ob0_late h2) ?_
  refine x_putIr (q := 23) dX0_becomeAs_20 rfl fl_X0_15 (ob0_late hb) rfl rfl rfl  ?_
  refine x_aload_n (q := 24) dX0_becomeAs_23 rfl rfl ?_
  refine x_aload_n (q := 25) dX0_becomeAs_24 rfl rfl ?_
  refine x_getI (q := 28) dX0_becomeAs_25 rfl fl_X0_19 (ob0_storm h2) ?_
  refine x_putIr (q := 31) dX0_becomeAs_28 rfl fl_X0_19 (ob0_storm hb) rfl rfl rfl  ?_
  refine x_aload_n (q := 32) dX0_becomeAs_31 rfl rfl ?_
  refine x_aload_n (q := 33) dX0_becomeAs_32 rfl rfl ?_
  refine x_getI (q := 36) dX0_becomeAs_33 rfl fl_X0_22 (ob0_amber h2) ?_
  refine x_putIr (q := 39) dX0_becomeAs_36 rfl fl_X0_22 (ob0_amber hb) rfl rfl rfl  ?_
  refine x_aload_n (q := 40) dX0_becomeAs_39 rfl rfl ?_
  refine x_aload_n (q := 41) dX0_becomeAs_40 rfl rfl ?_
  refine x_getI (q := 44) dX0_becomeAs_41 rfl fl_X0_25 (ob0_day h2) ?_
  refine x_putIr (q := 47) dX0_becomeAs_44 rfl fl_X0_25 (ob0_day hb) rfl rfl rfl  ?_
  refine x_aload_n (q := 48) dX0_becomeAs_47 rfl rfl ?_
  refine x_aload_n (q := 49) dX0_becomeAs_48 rfl rfl ?_
  refine x_getI (q := 52) dX0_becomeAs_49 rfl fl_X0_28 (ob0_z h2) ?_
  refine x_putIr (q := 55) dX0_becomeAs_52 rfl fl_X0_28 (ob0_z hb) rfl rfl rfl  ?_
  refine x_aload_n (q := 56) dX0_becomeAs_55 rfl rfl ?_
  refine x_aload_n (q := 57) dX0_becomeAs_56 rfl rfl ?_
  refine x_getI (q := 60) dX0_becomeAs_57 rfl fl_X0_31 (ob0_laid h2) ?_
  refine x_putIr (q := 63) dX0_becomeAs_60 rfl fl_X0_31 (ob0_laid hb) rfl rfl rfl  ?_
  refine x_iconst (q := 64) (v := 0) dX0_becomeAs_63 rfl (by decide) ?_
  refine x_istore_n (q := 65) dX0_becomeAs_64 rfl (by decide) rfl rfl ?_
  simp only [sr_ne hne]
  exact l_X0_becomeAs hb h2 hne (s := bc0 s (m.1 b2)) (by rw [bc0, upd_self, hn]) h8 (n8 + 1) 0 (by omega) (by omega)
