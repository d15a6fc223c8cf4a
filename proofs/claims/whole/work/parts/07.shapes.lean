/-! the shapes of the world, by name -/
def isC (b : Nat) : Prop := b = 1 ∨ b = 13 ∨ b = 25
theorem isC_1 : isC 1 := Or.inl rfl
theorem isC_13 : isC 13 := Or.inr (Or.inl rfl)
theorem isC_25 : isC 25 := Or.inr (Or.inr rfl)
theorem ob0_late {b : Nat} (h : isC b) : OB b 0 1 b 4 := by rcases h with rfl | rfl | rfl <;> (unfold OB; decide)
theorem ob0_storm {b : Nat} (h : isC b) : OB b 0 2 b 5 := by rcases h with rfl | rfl | rfl <;> (unfold OB; decide)
theorem ob0_amber {b : Nat} (h : isC b) : OB b 0 3 b 3 := by rcases h with rfl | rfl | rfl <;> (unfold OB; decide)
theorem ob0_day {b : Nat} (h : isC b) : OB b 0 4 b 0 := by rcases h with rfl | rfl | rfl <;> (unfold OB; decide)
theorem ob0_z {b : Nat} (h : isC b) : OB b 0 5 b 2 := by rcases h with rfl | rfl | rfl <;> (unfold OB; decide)
theorem ob0_laid {b : Nat} (h : isC b) : OB b 0 6 b 1 := by rcases h with rfl | rfl | rfl <;> (unfold OB; decide)
theorem or0_list {b : Nat} (h : isC b) : OR b 0 0 (b + 1) := by rcases h with rfl | rfl | rfl <;> (unfold OR; decide)
theorem or0_slip {b : Nat} (h : isC b) : OR b 0 7 (b + 2) := by rcases h with rfl | rfl | rfl <;> (unfold OR; decide)
theorem or0_spots {b : Nat} (h : isC b) : OR b 0 8 (b + 3) := by rcases h with rfl | rfl | rfl <;> (unfold OR; decide)
theorem ar_list {b : Nat} (h : isC b) : AR (b + 1) 8 6 b 6 := by rcases h with rfl | rfl | rfl <;> (unfold AR; decide)
theorem ar_spots {b : Nat} (h : isC b) : AR (b + 3) 8 10 b 68 := by rcases h with rfl | rfl | rfl <;> (unfold AR; decide)
theorem ra_list {b : Nat} (h : isC b) : RA (b + 1) 8 6 := by rcases h with rfl | rfl | rfl <;> (unfold RA; decide)
theorem ra_spots {b : Nat} (h : isC b) : RA (b + 3) 8 10 := by rcases h with rfl | rfl | rfl <;> (unfold RA; decide)
theorem ra_slip {b : Nat} (h : isC b) : RA (b + 2) 9 8 := by rcases h with rfl | rfl | rfl <;> (unfold RA; decide)
theorem rv0 {b : Nat} (h : isC b) : RV b 0 := by rcases h with rfl | rfl | rfl <;> (unfold RV; decide)
theorem ob1_1 : ∀ k, k < 8 → ∀ f, f < 7 → OB (1 + 4 + k) 1 f 1 (12 + 7 * k + f) := by unfold OB; decide
theorem ob1_13 : ∀ k, k < 8 → ∀ f, f < 7 → OB (13 + 4 + k) 1 f 13 (12 + 7 * k + f) := by unfold OB; decide
theorem ob1_25 : ∀ k, k < 8 → ∀ f, f < 7 → OB (25 + 4 + k) 1 f 25 (12 + 7 * k + f) := by unfold OB; decide
theorem ob1 {b k : Nat} (h : isC b) (hk : k < 8) (f : Nat) (hf : f < 7) : OB (b + 4 + k) 1 f b (12 + 7 * k + f) := by
  rcases h with rfl | rfl | rfl
  · exact ob1_1 k hk f hf
  · exact ob1_13 k hk f hf
  · exact ob1_25 k hk f hf
theorem rv1 {b k : Nat} (h : isC b) (hk : k < 8) : RV (b + 4 + k) 1 := by
  obtain ⟨h1, h2, h3, -⟩ := ob1 h hk 0 (by decide)
  exact ⟨h1, h2, h3⟩
theorem ob2_bits {s : Nat} (h : s < 4) : OB (41 + 2 * s) 2 0 41 s := by
  have key : ∀ s, s < 4 → OB (41 + 2 * s) 2 0 41 s := by unfold OB; decide
  exact key s h
theorem ob2_len {s : Nat} (h : s < 4) : OB (41 + 2 * s) 2 1 42 s := by
  have key : ∀ s, s < 4 → OB (41 + 2 * s) 2 1 42 s := by unfold OB; decide
  exact key s h
theorem or2_num {s : Nat} (h : s < 4) : OR (41 + 2 * s) 2 2 (42 + 2 * s) := by
  have key : ∀ s, s < 4 → OR (41 + 2 * s) 2 2 (42 + 2 * s) := by unfold OR; decide
  exact key s h
theorem ar_num {s : Nat} (h : s < 4) : AR (42 + 2 * s) 8 40 43 (40 * s) := by
  have key : ∀ s, s < 4 → AR (42 + 2 * s) 8 40 43 (40 * s) := by unfold AR; decide
  exact key s h
theorem ra_num {s : Nat} (h : s < 4) : RA (42 + 2 * s) 8 40 := ⟨(ar_num h).1, (ar_num h).2.1, (ar_num h).2.2.1⟩
theorem rv2 {s : Nat} (h : s < 4) : RV (41 + 2 * s) 2 := ⟨(ob2_bits h).1, (ob2_bits h).2.1, by decide⟩
theorem ob3_length : OB 37 3 1 37 1 := by unfold OB; decide
theorem ob3_sort : OB 37 3 2 37 2 := by unfold OB; decide
theorem ob3_start : OB 37 3 3 37 3 := by unfold OB; decide
theorem ob3_end : OB 37 3 4 37 4 := by unfold OB; decide
theorem ob3_value : OB 37 3 5 37 5 := by unfold OB; decide
theorem or3_bytes : OR 37 3 0 38 := by unfold OR; decide
theorem ar_38 : AR 38 6 120 38 0 := by unfold AR; decide
theorem ra_38 : RA 38 6 120 := by unfold RA; decide
theorem rv3 : RV 37 3 := by unfold RV; decide
theorem ob4_keeps : OB 0 4 3 0 3 := by unfold OB; decide
theorem or4_coast : OR 0 4 0 1 := by unfold OR; decide
theorem or4_trial : OR 0 4 1 13 := by unfold OR; decide
theorem or4_kept : OR 0 4 2 25 := by unfold OR; decide
theorem or4_tape : OR 0 4 4 37 := by unfold OR; decide
theorem or4_sheets : OR 0 4 5 39 := by unfold OR; decide
theorem or4_found : OR 0 4 6 40 := by unfold OR; decide
theorem rv4 : RV 0 4 := by unfold RV; decide
theorem ra_39 : RA 39 10 4 := by unfold RA; decide
theorem ar_40 : AR 40 8 7 40 0 := by unfold AR; decide
theorem ra_40 : RA 40 8 7 := by unfold RA; decide
theorem rv5 : RV 49 5 := by unfold RV; decide
theorem ob5_isKept : OB 49 5 3 49 3 := by unfold OB; decide
theorem ob5_taped : OB 49 5 6 49 6 := by unfold OB; decide
theorem ob5_token : OB 49 5 7 49 7 := by unfold OB; decide
theorem ob5_begun : OB 49 5 8 49 8 := by unfold OB; decide
theorem ob5_ended : OB 49 5 9 49 9 := by unfold OB; decide
theorem or5_s : OR 49 5 0 50 := by unfold OR; decide
theorem or5_kept : OR 49 5 1 51 := by unfold OR; decide
theorem or5_aside : OR 49 5 2 52 := by unfold OR; decide
theorem or5_found : OR 49 5 4 53 := by unfold OR; decide
theorem or5_tape : OR 49 5 5 54 := by unfold OR; decide
theorem or5_letters : OR 49 5 11 55 := by unfold OR; decide
theorem or5_more : OR 49 5 12 56 := by unfold OR; decide
theorem or5_others : OR 49 5 13 57 := by unfold OR; decide
theorem or5_widths : OR 49 5 14 58 := by unfold OR; decide
theorem or5_sizes : OR 49 5 15 59 := by unfold OR; decide
theorem or5_cells : OR 49 5 16 60 := by unfold OR; decide
theorem or5_carried : OR 49 5 17 61 := by unfold OR; decide
theorem ar_50 : AR 50 8 78 50 0 := by unfold AR; decide
theorem ar_51 : AR 51 8 78 51 0 := by unfold AR; decide
theorem ar_52 : AR 52 8 78 52 0 := by unfold AR; decide
theorem ar_53 : AR 53 8 7 53 0 := by unfold AR; decide
theorem ar_54 : AR 54 8 120 54 0 := by unfold AR; decide
theorem ar_55 : AR 55 7 70 55 0 := by unfold AR; decide
theorem ar_56 : AR 56 7 40 56 0 := by unfold AR; decide
theorem ar_57 : AR 57 7 20 57 0 := by unfold AR; decide
theorem ar_58 : AR 58 8 4 58 0 := by unfold AR; decide
theorem ar_59 : AR 59 8 4 59 0 := by unfold AR; decide
theorem ar_60 : AR 60 8 160 60 0 := by unfold AR; decide
theorem ar_61 : AR 61 8 40 61 0 := by unfold AR; decide
theorem ra_55 : RA 55 7 70 := by unfold RA; decide
theorem ra_56 : RA 56 7 40 := by unfold RA; decide
theorem ra_57 : RA 57 7 20 := by unfold RA; decide
theorem sr_self {m : TM} {r : Nat} : sr m r (m.1 r) = m := by
  unfold sr
  refine Prod.ext (funext fun a => funext fun b => ?_) rfl
  by_cases h : a = r
  · subst h; simp
  · simp [h]
theorem sr_at {m : TM} {r : Nat} {f : Nat → Int32} : (sr m r f).1 r = f := by funext b; simp [sr]
theorem sr_ne {m : TM} {r r' : Nat} {f : Nat → Int32} (h : r' ≠ r) : (sr m r f).1 r' = m.1 r' := by funext b; simp [sr, h]
theorem sr_sr {m : TM} {r : Nat} {f g : Nat → Int32} : sr (sr m r f) r g = sr m r g := by
  unfold sr
  refine Prod.ext (funext fun a => funext fun b => ?_) rfl
  by_cases h : a = r <;> simp [h]
theorem st1_sr {m : TM} {r i : Nat} {f : Nat → Int32} {x : Int32} : st1 (sr m r f) r i x = sr m r (upd f i x) := by
  unfold sr st1 upd
  refine Prod.ext (funext fun a => funext fun b => ?_) rfl
  by_cases h : a = r <;> by_cases h2 : b = i <;> simp [h, h2]
theorem st1_eq {m : TM} {r i : Nat} {x : Int32} : st1 m r i x = sr m r (upd (m.1 r) i x) := by
  have h := st1_sr (m := m) (r := r) (i := i) (f := m.1 r) (x := x)
  rwa [sr_self] at h
theorem upd_self {f : Nat → Int32} {i : Nat} {x : Int32} : upd f i x i = x := if_pos rfl
theorem upd_ne {f : Nat → Int32} {i j : Nat} {x : Int32} (h : j ≠ i) : upd f i x j = f j := if_neg h
section ROWS
variable {own : String} {cc : ByteArray} {mL : Nat} {rt : Option FieldType} {fr lo : Nat} {K : Cx} {pc q : Nat} {ls : List (Option Value)} {st : List Value} {m : TM} {Q : Option Value → TM → Prop} {b : Nat} {s : Nat → Int32}
theorem x_slip {i : Int32} {j : Nat} (hd : decode cc pc = .ok (.aaload, 1)) (hq : pc + 1 = q) (hb : isC b) (hj : IX i j 8) (kk : XX own cc mL rt fr lo K q ls (.ref (b + 4 + j) :: st) m Q) : XX own cc mL rt fr lo K pc ls (.int i :: .ref (b + 2) :: st) m Q :=
  x_aald hd hq (ra_slip hb) (Or.inl rfl) hj (by simp [rfa]) (rv1 hb hj.2.2).1 kk
theorem x_sheet {i : Int32} {j : Nat} (hd : decode cc pc = .ok (.aaload, 1)) (hq : pc + 1 = q) (hj : IX i j 4) (kk : XX own cc mL rt fr lo K q ls (.ref (41 + 2 * j) :: st) m Q) : XX own cc mL rt fr lo K pc ls (.int i :: .ref 39 :: st) m Q :=
  x_aald hd hq ra_39 (Or.inr rfl) hj (by simp [rfa]) (rv2 hj.2.2).1 kk
/-! the same, of a memory whose row b is s -/
theorem x_getIr {o ci k idx x : Nat} (hd : decode cc pc = .ok (.getfield idx, 3)) (hq : pc + 3 = q) (hf : FL own idx ci k) (ho : OB o ci k b x) (kk : XX own cc mL rt fr lo K q ls (.int (s x) :: st) (sr m b s) Q) : XX own cc mL rt fr lo K pc ls (.ref o :: st) (sr m b s) Q :=
  x_getI hd hq hf ho (by rw [sr_at]; exact kk)
theorem x_putIr {o ci k idx x : Nat} {v : Int32} (hd : decode cc pc = .ok (.putfield idx, 3)) (hq : pc + 3 = q) (hf : FL own idx ci k) (ho : OB o ci k b x) (hfin : (TT ci k).2.2.2 = false) (hn : narrow (tyT ci k) (.int v) = .int v) (hfit : fits (tyT ci k) (.int v) = true) (kk : XX own cc mL rt fr lo K q ls st (sr m b (upd s x v)) Q) : XX own cc mL rt fr lo K pc ls (.int v :: .ref o :: st) (sr m b s) Q :=
  x_putI hd hq hf ho hfin hn hfit st1_sr kk
theorem x_ialdr {o n off j x : Nat} {i : Int32} (hd : decode cc pc = .ok (.iaload, 1)) (hq : pc + 1 = q) (ha : AR o 8 n b off) (hj : IX i j n) (hx : off + j = x) (kk : XX own cc mL rt fr lo K q ls (.int (s x) :: st) (sr m b s) Q) : XX own cc mL rt fr lo K pc ls (.int i :: .ref o :: st) (sr m b s) Q :=
  x_iald hd hq ha hj hx (by rw [sr_at]; exact kk)
theorem x_iastr {o n off j x : Nat} {i v : Int32} (hd : decode cc pc = .ok (.iastore, 1)) (hq : pc + 1 = q) (ha : AR o 8 n b off) (hj : IX i j n) (hx : off + j = x) (kk : XX own cc mL rt fr lo K q ls st (sr m b (upd s x v)) Q) : XX own cc mL rt fr lo K pc ls (.int v :: .int i :: .ref o :: st) (sr m b s) Q :=
  x_iast hd hq ha hj hx st1_sr kk
end ROWS
/-! places in arrays -/
theorem jnI_toInt {k : Nat} (h : k < 2147483648) : (nI k).toInt = k := nI_toInt h
theorem jnI_clamp {k : Nat} (h : k < 2147483648) : (nI k).toNatClampNeg = k := by
  show (nI k).toInt.toNat = k
  rw [jnI_toInt h]
  rfl
theorem jnI_nneg {k : Nat} (h : k < 2147483648) : ¬ nI k < 0 := by
  rw [Int32.lt_iff_toInt_lt, jnI_toInt h]
  show ¬ (k : Int) < 0
  omega
theorem ix_nI {k n : Nat} (h : k < n) (hn : n < 2147483648) : IX (nI k) k n := ⟨jnI_nneg (by omega), jnI_clamp (by omega), h⟩
theorem toInt_clamp {i : Int32} (h : ¬ i < 0) : (i.toNatClampNeg : Int) = i.toInt := by
  rw [Int32.lt_iff_toInt_lt] at h
  have h0 : ¬ i.toInt < 0 := h
  show ((i.toInt.toNat : Nat) : Int) = i.toInt
  omega
theorem jnI_of {i : Int32} (h : ¬ i < 0) : i = nI i.toNatClampNeg := by
  apply Int32.toInt_inj.mp
  have h1 := toInt_clamp h
  have h2 : i.toInt < 2147483648 := by
    have := i.toInt_lt
    simpa using this
  rw [jnI_toInt (by omega)]
  exact h1.symm
/-- an index between 0 and a literal bound -/
theorem ix_le {i c : Int32} {n : Nat} (h0 : ¬ i < 0) (h1 : ¬ c < i) (hc : c.toInt < n) : IX i i.toNatClampNeg n := by
  refine ⟨h0, rfl, ?_⟩
  rw [Int32.lt_iff_toInt_lt] at h1
  have := toInt_clamp h0
  omega
theorem jnI_s (k : Nat) : nI k + Int32.ofInt 1 = nI (k + 1) := by
  unfold nI
  apply Int32.toInt_inj.mp
  simp [Int32.toInt_add, Int32.toInt_ofNat]
theorem jnI_lt {a b : Nat} (ha : a < 2147483648) (hb : b < 2147483648) : nI a < nI b ↔ a < b := by
  rw [Int32.lt_iff_toInt_lt, jnI_toInt ha, jnI_toInt hb]
  omega
theorem jnI_le' {a b : Nat} (ha : a < 2147483648) (hb : b < 2147483648) : nI a ≤ nI b ↔ a ≤ b := by
  rw [Int32.le_iff_toInt_le, jnI_toInt ha, jnI_toInt hb]
  omega
theorem jnI_inj {a b : Nat} (ha : a < 2147483648) (hb : b < 2147483648) : nI a = nI b ↔ a = b := by
  constructor
  · intro h
    have := congrArg Int32.toInt h
    rw [jnI_toInt ha, jnI_toInt hb] at this
    omega
  · rintro rfl; rfl
