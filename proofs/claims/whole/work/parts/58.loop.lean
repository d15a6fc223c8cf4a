/-! the law's loop -/
theorem ll_go {L i : Nat} (hL : L ≤ 3072) (hi : i ≤ 4000) (h : ¬ nI L - 6 < nI i) : i + 6 ≤ L := by
  by_cases h6 : 6 ≤ L
  · have e3 : nI (L - 6 + 6) = nI (L - 6) + nI 6 := Int32.ofNat_add _ _
    rw [Nat.sub_add_cancel h6] at e3
    have e : nI L - 6 = nI (L - 6) := by
      rw [e3]
      exact Int32.add_sub_cancel ..
    rw [e] at h
    have h2 : ¬ L - 6 < i := fun q => h ((jnI_lt (by omega) (by omega)).mpr q)
    omega
  · exfalso
    apply h
    have h0 : (nI i).toInt = (i : Int) := jnI_toInt (by omega)
    rw [Int32.lt_iff_toInt_lt, h0]
    have hn : ∀ L, L < 6 → (nI L - 6).toInt < 0 := by decide
    have := hn L (by omega)
    omega
set_option maxRecDepth 20000 in
set_option maxHeartbeats 4000000 in
theorem l_law {K : Cx} {b L : Nat} {xs : Nat → Int32} {p : Program} {e : Env} {s : State} {mi : MethodId} {below : List Frame} {meth : Method} {c : Code} {kc ks : Nat} (C : LCX K b L xs p s mi meth c) (hr : meth.sig.returnType = ret) (hlk : meth.locks = false) (hk1 : kc ≤ 600000) (hk2 : ks ≤ 7302250) : ∀ (n i : Nat) (m : TM), L - i < n → i ≤ L → Rel m → LXI K p e s mi b below meth c (lw_Z below #[Value.ref b] s) kc ks 18 (lvL K b i) [] m := by
  intro n
  induction n with
  | zero => intro i m hlt; exact absurd hlt (Nat.not_lt_zero _)
  | succ n ih =>
    intro i m hlt hi hR
    have hL := C.2.2.2.2.2
    have hcs : kc + 0 ≤ room_1.cells ∧ ks + 0 ≤ room_1.slots := ⟨hk1, hk2⟩
    refine i_iload_n (q := 19) (i := 0) C.1 dL_law_18 rfl rfl ?_
    refine i_aload_n (q := 20) (i := 3) C.1 dL_law_19 rfl rfl ?_
    refine i_slen (q := 21) C.1 C.2.1 C.2.2.1 C.out dL_law_20 rfl ?_
    refine i_bipush (q := 23) (v := 6) C.1 dL_law_21 rfl (by decide) ?_
    refine i_isub (q := 24) C.1 dL_law_23 rfl rfl ?_
    refine i_icmp_gt (q := 27) (t := 1375) C.1 dL_law_24 rfl (by decide) (fun h24 => ?_) (fun h24 => ?_)
    · refine i_iconst (q := 1376) (v := 1) C.1 dL_law_1375 rfl (by decide) ?_
      intro H locs arr hP hD hS hl
      refine va_forget (fun q hq => by have h := hS.2.2 q hq; rw [show AA K q.base = (kz K ≤ q.base) from rfl, C.2.2.2.1] at h; exact h) ?_
      refine W.widen (k := 600000) (n := 7302250) hk1 hk2 ?_
      exact lw_ret C.1.1 C.1.2.1 hr hlk dL_law_1376
    have hi6 := ll_go hL (by omega) h24
    have kk : ∀ m2, Rel m2 → LXI K p e s mi b below meth c (lw_Z below #[Value.ref b] s) kc ks 1369 (lvL K b i) [] m2 := by
      intro m2 hR2
      refine i_iinc (q := 1372) (i := 0) (v := nI (i + 6)) (lv' := lvL K b (i + 6)) C.1 dL_law_1369 rfl rfl ((Int32.ofNat_add i 6).symm) (by decide) rfl ?_
      refine i_goto (t := 18) C.1 dL_law_1372 (by decide) ?_
      exact ih (i + 6) m2 (by omega) hi6 hR2
    refine i_aload_n (q := 28) (i := 3) C.1 dL_law_27 rfl rfl ?_
    refine i_iload_n (q := 29) (i := 0) C.1 dL_law_28 rfl rfl ?_
    refine i_sld (q := 30) C.1 C.2.1 C.2.2.1 C.out dL_law_29 rfl (ix_nI (k := i) (by omega) (by omega)) ?_
    refine i_bipush (q := 32) (v := 63) C.1 dL_law_30 rfl (by decide) ?_
    refine i_iand (q := 33) C.1 dL_law_32 rfl rfl ?_
    generalize xs i &&& 63 = x
    by_cases h0 : x = 0
    · exact i_tswC (q := 208) (k := 0) C.1 dL_law_33 h0 (by decide) (by decide) rfl (by decide) (lc_tide C hi6 hcs hR kk)
    by_cases h1 : x = 1
    · exact i_tswC (q := 241) (k := 1) C.1 dL_law_33 h1 (by decide) (by decide) rfl (by decide) (lc_listed C hi6 hcs hR kk)
    by_cases h2 : x = 2
    · exact i_tswC (q := 264) (k := 2) C.1 dL_law_33 h2 (by decide) (by decide) rfl (by decide) (lc_set C hi6 hcs hR kk)
    by_cases h3 : x = 3
    · exact i_tswC (q := 297) (k := 3) C.1 dL_law_33 h3 (by decide) (by decide) rfl (by decide) (lc_parcel C hi6 hcs hR kk)
    by_cases h4 : x = 4
    · exact i_tswC (q := 330) (k := 4) C.1 dL_law_33 h4 (by decide) (by decide) rfl (by decide) (lc_of C hi6 hcs hR kk)
    by_cases h5 : x = 5
    · exact i_tswC (q := 363) (k := 5) C.1 dL_law_33 h5 (by decide) (by decide) rfl (by decide) (lc_change C hi6 hcs hR kk)
    by_cases h6 : x = 6
    · exact i_tswC (q := 406) (k := 6) C.1 dL_law_33 h6 (by decide) (by decide) rfl (by decide) (lc_signs C hi6 hcs hR kk)
    by_cases h7 : x = 7
    · exact i_tswC (q := 439) (k := 7) C.1 dL_law_33 h7 (by decide) (by decide) rfl (by decide) (lc_onLine C hi6 hcs hR kk)
    by_cases h8 : x = 8
    · exact i_tswC (q := 462) (k := 8) C.1 dL_law_33 h8 (by decide) (by decide) rfl (by decide) (lc_go C hi6 hcs hR kk)
    by_cases h9 : x = 9
    · exact i_tswC (q := 485) (k := 9) C.1 dL_law_33 h9 (by decide) (by decide) rfl (by decide) (lc_now C hi6 hcs hR kk)
    by_cases h10 : x = 10
    · exact i_tswC (q := 508) (k := 10) C.1 dL_law_33 h10 (by decide) (by decide) rfl (by decide) (lc_ahead C hi6 hcs hR kk)
    by_cases h11 : x = 11
    · exact i_tswC (q := 551) (k := 11) C.1 dL_law_33 h11 (by decide) (by decide) rfl (by decide) (lc_sea C hi6 hcs hR kk)
    by_cases h12 : x = 12
    · exact i_tswC (q := 584) (k := 12) C.1 dL_law_33 h12 (by decide) (by decide) rfl (by decide) (lc_when C hi6 hcs hR kk)
    by_cases h13 : x = 13
    · exact i_tswC (q := 617) (k := 13) C.1 dL_law_33 h13 (by decide) (by decide) rfl (by decide) (lc_cleared C hi6 hcs hR kk)
    by_cases h14 : x = 14
    · exact i_tswC (q := 630) (k := 14) C.1 dL_law_33 h14 (by decide) (by decide) rfl (by decide) (lc_paid C hi6 hcs hR kk)
    by_cases h15 : x = 15
    · exact i_tswC (q := 653) (k := 15) C.1 dL_law_33 h15 (by decide) (by decide) rfl (by decide) (lc_lineFor C hi6 hcs hR kk)
    by_cases h16 : x = 16
    · exact i_tswC (q := 686) (k := 16) C.1 dL_law_33 h16 (by decide) (by decide) rfl (by decide) (lc_weightFor C hi6 hcs hR kk)
    by_cases h17 : x = 17
    · exact i_tswC (q := 719) (k := 17) C.1 dL_law_33 h17 (by decide) (by decide) rfl (by decide) (lc_kindFor C hi6 hcs hR kk)
    by_cases h18 : x = 18
    · exact i_tswC (q := 752) (k := 18) C.1 dL_law_33 h18 (by decide) (by decide) rfl (by decide) (lc_stormFor C hi6 hcs hR kk)
    by_cases h19 : x = 19
    · exact i_tswC (q := 785) (k := 19) C.1 dL_law_33 h19 (by decide) (by decide) rfl (by decide) (lc_holdBack C hi6 hcs hR kk)
    by_cases h20 : x = 20
    · exact i_tswC (q := 808) (k := 20) C.1 dL_law_33 h20 (by decide) (by decide) rfl (by decide) (lc_fits C hi6 hcs hR kk)
    by_cases h21 : x = 21
    · exact i_tswC (q := 841) (k := 21) C.1 dL_law_33 h21 (by decide) (by decide) rfl (by decide) (lc_kinds C hi6 hcs hR kk)
    by_cases h22 : x = 22
    · exact i_tswC (q := 874) (k := 22) C.1 dL_law_33 h22 (by decide) (by decide) rfl (by decide) (lc_swell C hi6 hcs hR kk)
    by_cases h23 : x = 23
    · exact i_tswC (q := 897) (k := 23) C.1 dL_law_33 h23 (by decide) (by decide) rfl (by decide) (lc_odds C hi6 hcs hR kk)
    by_cases h24 : x = 24
    · exact i_tswC (q := 941) (k := 24) C.1 dL_law_33 h24 (by decide) (by decide) rfl (by decide) (lc_seed C hi6 hcs hR kk)
    by_cases h25 : x = 25
    · exact i_tswC (q := 964) (k := 25) C.1 dL_law_33 h25 (by decide) (by decide) rfl (by decide) (lc_feed C hi6 hcs hR kk)
    by_cases h26 : x = 26
    · exact i_tswC (q := 997) (k := 26) C.1 dL_law_33 h26 (by decide) (by decide) rfl (by decide) (lc_wipe C hi6 hcs hR kk)
    by_cases h27 : x = 27
    · exact i_tswC (q := 1010) (k := 27) C.1 dL_law_33 h27 (by decide) (by decide) rfl (by decide) (lc_text C hi6 hcs hR kk)
    by_cases h28 : x = 28
    · exact i_tswC (q := 1023) (k := 28) C.1 dL_law_33 h28 (by decide) (by decide) rfl (by decide) (lc_hold C hi6 hcs hR kk)
    by_cases h29 : x = 29
    · exact i_tswC (q := 1056) (k := 29) C.1 dL_law_33 h29 (by decide) (by decide) rfl (by decide) (lc_as C hi6 hcs hR kk)
    by_cases h30 : x = 30
    · exact i_tswC (q := 1089) (k := 30) C.1 dL_law_33 h30 (by decide) (by decide) rfl (by decide) (lc_sheet C hi6 hcs hR kk)
    by_cases h31 : x = 31
    · exact i_tswC (q := 1132) (k := 31) C.1 dL_law_33 h31 (by decide) (by decide) rfl (by decide) (lc_write C hi6 hcs hR kk)
    by_cases h32 : x = 32
    · exact i_tswC (q := 1175) (k := 32) C.1 dL_law_33 h32 (by decide) (by decide) rfl (by decide) (lc_copy C hi6 hcs hR kk)
    by_cases h33 : x = 33
    · exact i_tswC (q := 1238) (k := 33) C.1 dL_law_33 h33 (by decide) (by decide) rfl (by decide) (lc_load C hi6 hcs hR kk)
    by_cases h34 : x = 34
    · exact i_tswC (q := 1261) (k := 34) C.1 dL_law_33 h34 (by decide) (by decide) rfl (by decide) (lc_judge C hi6 hcs hR kk)
    by_cases h35 : x = 35
    · exact i_tswC (q := 1284) (k := 35) C.1 dL_law_33 h35 (by decide) (by decide) rfl (by decide) (lc_image C hi6 hcs hR kk)
    by_cases h36 : x = 36
    · exact i_tswC (q := 1297) (k := 36) C.1 dL_law_33 h36 (by decide) (by decide) rfl (by decide) (lc_undo C hi6 hcs hR kk)
    by_cases h37 : x = 37
    · exact i_tswC (q := 1310) (k := 37) C.1 dL_law_33 h37 (by decide) (by decide) rfl (by decide) (lc_tear C hi6 hcs hR kk)
    by_cases h38 : x = 38
    · exact i_tswC (q := 1323) (k := 38) C.1 dL_law_33 h38 (by decide) (by decide) rfl (by decide) (lc_count C hi6 hcs hR kk)
    by_cases h39 : x = 39
    · exact i_tswC (q := 1346) (k := 39) C.1 dL_law_33 h39 (by decide) (by decide) rfl (by decide) (lc_status C hi6 hcs hR kk)
    exact i_tswD (q := 1369) C.1 dL_law_33 (by have n0 := lv_neT h0 (a := 0) (by decide); have n1 := lv_neT h1 (a := 1) (by decide); have n2 := lv_neT h2 (a := 2) (by decide); have n3 := lv_neT h3 (a := 3) (by decide); have n4 := lv_neT h4 (a := 4) (by decide); have n5 := lv_neT h5 (a := 5) (by decide); have n6 := lv_neT h6 (a := 6) (by decide); have n7 := lv_neT h7 (a := 7) (by decide); have n8 := lv_neT h8 (a := 8) (by decide); have n9 := lv_neT h9 (a := 9) (by decide); have n10 := lv_neT h10 (a := 10) (by decide); have n11 := lv_neT h11 (a := 11) (by decide); have n12 := lv_neT h12 (a := 12) (by decide); have n13 := lv_neT h13 (a := 13) (by decide); have n14 := lv_neT h14 (a := 14) (by decide); have n15 := lv_neT h15 (a := 15) (by decide); have n16 := lv_neT h16 (a := 16) (by decide); have n17 := lv_neT h17 (a := 17) (by decide); have n18 := lv_neT h18 (a := 18) (by decide); have n19 := lv_neT h19 (a := 19) (by decide); have n20 := lv_neT h20 (a := 20) (by decide); have n21 := lv_neT h21 (a := 21) (by decide); have n22 := lv_neT h22 (a := 22) (by decide); have n23 := lv_neT h23 (a := 23) (by decide); have n24 := lv_neT h24 (a := 24) (by decide); have n25 := lv_neT h25 (a := 25) (by decide); have n26 := lv_neT h26 (a := 26) (by decide); have n27 := lv_neT h27 (a := 27) (by decide); have n28 := lv_neT h28 (a := 28) (by decide); have n29 := lv_neT h29 (a := 29) (by decide); have n30 := lv_neT h30 (a := 30) (by decide); have n31 := lv_neT h31 (a := 31) (by decide); have n32 := lv_neT h32 (a := 32) (by decide); have n33 := lv_neT h33 (a := 33) (by decide); have n34 := lv_neT h34 (a := 34) (by decide); have n35 := lv_neT h35 (a := 35) (by decide); have n36 := lv_neT h36 (a := 36) (by decide); have n37 := lv_neT h37 (a := 37) (by decide); have n38 := lv_neT h38 (a := 38) (by decide); have n39 := lv_neT h39 (a := 39) (by decide); omega) (by decide) (kk m hR)
