set_option maxRecDepth 100000 in
set_option maxHeartbeats 4000000 in
/-- YOUR PART: from the entry, for every script of at most 3072 ints, the law comes to its end with true ('hflags': the launch's flags, for a law that throws: no stack traces) -/
theorem whole_start {p : Program} {e : Env} {s : State} {m : MethodId} {below : List Frame} {meth : Method} {c : Code} (l : Launch) (hflags : l.flags = flags0) {b L : Nat} {xs : Nat → Int32} (hL : L ≤ 3072) (C0 : lw_At p s m meth c b L xs) : W p l e room_1 s m #[Value.ref b] below meth c s.heap [] 0 0 (lw_Z below #[Value.ref b] s) (entryFrame m ([Value.ref b] : List Value).toArray 4) := by
  obtain ⟨hx, hb, hr, hml, hown, hts, hX, hbl, hlocks, hgv⟩ := id C0
  obtain ⟨D, ca, hK⟩ := k_start hts
  obtain ⟨kK, kV, kF, hSk⟩ := sk_start hgv hts
  have C : CXT RL cL_law 4 D ca p s m #[Value.ref b] meth c (fun q => s.heap.size ≤ q) := ⟨hx, hb, hml, hown, wt_ts hts, hK, nw_start hts, fun q h => h⟩
  have hl := lv_entry ([.ref b]) (n := 4) (Nat.le_of_ble_eq_true rfl)
  rw [lg_entry_eq]
  generalize (lg_sl ([.ref b]) ++ List.replicate (4 - (lg_sl ([.ref b])).length) Slot.unset).toArray = arr at hl ⊢
  have main : XI l D (fun q => s.heap.size ≤ q) p e room_1 s m #[Value.ref b] below meth c 4 (lw_Z below #[Value.ref b] s) 0 [(0, .ref b)] [] [] 0 0 := by
    refine i_new (q := 3) (ci := 4) (N := 7) (fs := [.null, .null, .null, .int 0, .null, .null, .null]) C dL_law_0 rfl (by decide) rfl wl_L_7 win_4 wii_4 hfs_4 (Nat.le_of_ble_eq_true rfl) (Nat.le_of_ble_eq_true rfl) (fun a1 => ?_)
    refine i_ws (ws' := [(a1, eO 4 [.null, .null, .null, .int 0, .null, .null, .null])]) rfl ?_
    refine i_widen (k := 1) (n := 7) (by decide) (by decide) ?_
    refine i_dup (q := 4) C dL_law_3 rfl rfl ?_
    refine i_init (q := 7) (k := 0) (wr := []) [] C dL_law_4 rfl ci_X4 ml_L_9 wn_X4 wii_4 wc_X4 rfl ⟨by decide, by decide, by decide +kernel⟩ rfl rfl (by decide) (by decide) ⟨Nat.le_of_ble_eq_true rfl, Nat.le_of_ble_eq_true rfl⟩ ⟨Nat.le_of_ble_eq_true rfl, Nat.le_of_ble_eq_true rfl⟩ (Nat.le_of_ble_eq_true rfl) (fun w1 hw1 => ?_)
    obtain ⟨ba, bb, bc, uu, rfl⟩ := hw1
    refine i_ws (ws' := [(a1, eO 4 [.ref (ba 0), .ref (bb 0), .ref (bc 0), .int 0, .ref (uu 0), .ref (uu 2), .ref (uu 3)])] ++ coW ca ba ++ coW ca bb ++ coW ca bc ++ [((uu 0), eO 3 [.ref (uu 1), .int 0, .int 0, .int 0, .int 0, .int 0]), ((uu 1), eI (ca 6) 120 (fun _ => 0)), ((uu 2), eR (ca 10) 4 (va_up (va_up (va_up (va_up (fun _ => none) 0 (some (uu 4))) 1 (some (uu 6))) 2 (some (uu 8))) 3 (some (uu 10)))), ((uu 3), eI (ca 8) 7 (fun _ => 0)), ((uu 4), eO 2 [.int 0, .int 0, .ref (uu 5)]), ((uu 5), eI (ca 8) 40 (fun _ => 0)), ((uu 6), eO 2 [.int 0, .int 0, .ref (uu 7)]), ((uu 7), eI (ca 8) 40 (fun _ => 0)), ((uu 8), eO 2 [.int 0, .int 0, .ref (uu 9)]), ((uu 9), eI (ca 8) 40 (fun _ => 0)), ((uu 10), eO 2 [.int 0, .int 0, .ref (uu 11)]), ((uu 11), eI (ca 8) 40 (fun _ => 0))]) rfl ?_
    refine i_widen (k := 49) (n := 583) (by decide) (by decide) ?_
    refine i_astore_n (q := 8) (lv' := [(1, .ref a1), (0, .ref b)]) C dL_law_7 rfl (by decide) rfl ?_
    refine i_new (q := 11) (ci := 5) (N := 18) (fs := [.null, .null, .null, .int 0, .null, .null, .int 0, .int 0, .int 0, .int 0, .long 0, .null, .null, .null, .null, .null, .null, .null]) C dL_law_8 rfl (by decide) rfl wl_L_10 win_5 wii_5 hfs_5 (Nat.le_of_ble_eq_true rfl) (Nat.le_of_ble_eq_true rfl) (fun a2 => ?_)
    refine i_ws (ws' := [(a1, eO 4 [.ref (ba 0), .ref (bb 0), .ref (bc 0), .int 0, .ref (uu 0), .ref (uu 2), .ref (uu 3)])] ++ coW ca ba ++ coW ca bb ++ coW ca bc ++ [((uu 0), eO 3 [.ref (uu 1), .int 0, .int 0, .int 0, .int 0, .int 0]), ((uu 1), eI (ca 6) 120 (fun _ => 0)), ((uu 2), eR (ca 10) 4 (va_up (va_up (va_up (va_up (fun _ => none) 0 (some (uu 4))) 1 (some (uu 6))) 2 (some (uu 8))) 3 (some (uu 10)))), ((uu 3), eI (ca 8) 7 (fun _ => 0)), ((uu 4), eO 2 [.int 0, .int 0, .ref (uu 5)]), ((uu 5), eI (ca 8) 40 (fun _ => 0)), ((uu 6), eO 2 [.int 0, .int 0, .ref (uu 7)]), ((uu 7), eI (ca 8) 40 (fun _ => 0)), ((uu 8), eO 2 [.int 0, .int 0, .ref (uu 9)]), ((uu 9), eI (ca 8) 40 (fun _ => 0)), ((uu 10), eO 2 [.int 0, .int 0, .ref (uu 11)]), ((uu 11), eI (ca 8) 40 (fun _ => 0)), (a2, eO 5 [.null, .null, .null, .int 0, .null, .null, .int 0, .int 0, .int 0, .int 0, .long 0, .null, .null, .null, .null, .null, .null, .null])]) rfl ?_
    refine i_widen (k := 50) (n := 601) (by decide) (by decide) ?_
    refine i_dup (q := 12) C dL_law_11 rfl rfl ?_
    refine i_init (q := 15) (k := 49) (wr := [(a1, eO 4 [.ref (ba 0), .ref (bb 0), .ref (bc 0), .int 0, .ref (uu 0), .ref (uu 2), .ref (uu 3)])] ++ coW ca ba ++ coW ca bb ++ coW ca bc ++ [((uu 0), eO 3 [.ref (uu 1), .int 0, .int 0, .int 0, .int 0, .int 0]), ((uu 1), eI (ca 6) 120 (fun _ => 0)), ((uu 2), eR (ca 10) 4 (va_up (va_up (va_up (va_up (fun _ => none) 0 (some (uu 4))) 1 (some (uu 6))) 2 (some (uu 8))) 3 (some (uu 10)))), ((uu 3), eI (ca 8) 7 (fun _ => 0)), ((uu 4), eO 2 [.int 0, .int 0, .ref (uu 5)]), ((uu 5), eI (ca 8) 40 (fun _ => 0)), ((uu 6), eO 2 [.int 0, .int 0, .ref (uu 7)]), ((uu 7), eI (ca 8) 40 (fun _ => 0)), ((uu 8), eO 2 [.int 0, .int 0, .ref (uu 9)]), ((uu 9), eI (ca 8) 40 (fun _ => 0)), ((uu 10), eO 2 [.int 0, .int 0, .ref (uu 11)]), ((uu 11), eI (ca 8) 40 (fun _ => 0))]) [0, 1, 2, 3, 4, 5, 6, 7, 8, 9, 10, 11, 12, 13, 14, 15, 16, 17, 18, 19, 20, 21, 22, 23, 24, 25, 26, 27, 28, 29, 30, 31, 32, 33, 34, 35, 36, 37, 38, 39, 40, 41, 42, 43, 44, 45, 46, 47, 48] C dL_law_12 rfl ci_X5 ml_L_12 wn_X5 wii_5 wc_X5 rfl ⟨by decide, by decide, by decide +kernel⟩ rfl rfl (by decide) (by decide) ⟨Nat.le_of_ble_eq_true rfl, Nat.le_of_ble_eq_true rfl⟩ ⟨Nat.le_of_ble_eq_true rfl, Nat.le_of_ble_eq_true rfl⟩ (Nat.le_of_ble_eq_true rfl) (fun w1 hw1 => ?_)
    obtain ⟨vv, rfl⟩ := hw1
    refine i_ws (ws' := [(a1, eO 4 [.ref (ba 0), .ref (bb 0), .ref (bc 0), .int 0, .ref (uu 0), .ref (uu 2), .ref (uu 3)])] ++ coW ca ba ++ coW ca bb ++ coW ca bc ++ [((uu 0), eO 3 [.ref (uu 1), .int 0, .int 0, .int 0, .int 0, .int 0]), ((uu 1), eI (ca 6) 120 (fun _ => 0)), ((uu 2), eR (ca 10) 4 (va_up (va_up (va_up (va_up (fun _ => none) 0 (some (uu 4))) 1 (some (uu 6))) 2 (some (uu 8))) 3 (some (uu 10)))), ((uu 3), eI (ca 8) 7 (fun _ => 0)), ((uu 4), eO 2 [.int 0, .int 0, .ref (uu 5)]), ((uu 5), eI (ca 8) 40 (fun _ => 0)), ((uu 6), eO 2 [.int 0, .int 0, .ref (uu 7)]), ((uu 7), eI (ca 8) 40 (fun _ => 0)), ((uu 8), eO 2 [.int 0, .int 0, .ref (uu 9)]), ((uu 9), eI (ca 8) 40 (fun _ => 0)), ((uu 10), eO 2 [.int 0, .int 0, .ref (uu 11)]), ((uu 11), eI (ca 8) 40 (fun _ => 0)), (a2, eO 5 [.ref (vv 0), .ref (vv 1), .ref (vv 2), .int 0, .ref (vv 3), .ref (vv 4), .int 0, .int 0, .int 0, .int 0, .long 0, .ref (vv 5), .ref (vv 6), .ref (vv 7), .ref (vv 8), .ref (vv 9), .ref (vv 10), .ref (vv 11)]), ((vv 0), eI (ca 8) 78 (stN 10)), ((vv 1), eI (ca 8) 78 (fun _ => 0)), ((vv 2), eI (ca 8) 78 (fun _ => 0)), ((vv 3), eI (ca 8) 7 (fun _ => 0)), ((vv 4), eI (ca 8) 120 (fun _ => 0)), ((vv 5), eI (ca 7) 70 (tk ltL 70)), ((vv 6), eI (ca 7) 40 (tk moL 40)), ((vv 7), eI (ca 7) 20 (tk otL 20)), ((vv 8), eI (ca 8) 4 (fun _ => 0)), ((vv 9), eI (ca 8) 4 (fun _ => 0)), ((vv 10), eI (ca 8) 160 (fun _ => 0)), ((vv 11), eI (ca 8) 40 (fun _ => 0))]) rfl ?_
    refine i_widen (k := 62) (n := 1300) (by decide) (by decide) ?_
    refine i_astore_n (q := 16) (lv' := [(2, .ref a2), (1, .ref a1), (0, .ref b)]) C dL_law_15 rfl (by decide) rfl ?_
    refine i_iconst (q := 17) (v := 0) C dL_law_16 rfl (by decide) ?_
    refine i_istore_n (q := 18) (lv' := [(3, .int 0), (2, .ref a2), (1, .ref a1), (0, .ref b)]) C dL_law_17 rfl (by decide) rfl ?_
    refine i_ws (ws' := wsOf (K0 l D ca kK kV s.heap.size kF a1 a2 ba bb bc uu vv) m0) ws_first ?_
    have CL : LCX (K0 l D ca kK kV s.heap.size kF a1 a2 ba bb bc uu vv) b L xs p s m meth c := ⟨C, hX, hbl, rfl, hSk l D _ ca, hL⟩
    exact l_law CL hr hlocks (by decide) (by decide) (L + 1) 0 m0 (by omega) (Nat.zero_le L) rel_first
  exact main s.heap [] arr (fun k q h => by simp at h) ⟨fun i j p q h => by simp at h, fun k q h => by simp at h⟩ va_S.rf hl
set_option maxHeartbeats 4000000 in
theorem lw_walk (l : Launch) (hflags : l.flags = flags0) (b : Addr) (xs : List Int32) : MetFree l x (headSpec (Jvm.Cond.code x code maxLocals ret :: tables_1) room_1) (lw_P b xs) (fun _ _ _ _ _ => True) lw_Q := by
  refine MetFree.of_bodyS (code := code) (maxLocals := maxLocals) (ret := ret) (by decide) ?_ ?_
  · intro args s m h hn
    obtain ⟨meth, c, h1, h2, h3, h4, h5, h6, -, -⟩ := Cond.code_spec hn (atoms_spec (ws := Jvm.Cond.code x code maxLocals ret :: tables_1) h _ List.mem_cons_self)
    exact ⟨meth, c, h1, h2, h3, h4, h5, h6⟩
  · intro p e s m args below meth c s₁ B hml0 hP _
    obtain ⟨rfl, hx, hbd, hgv⟩ := hP
    obtain ⟨scr, harrAt, hlist, hof, hsmall⟩ := hx
    obtain ⟨hcb, hkn, -, -⟩ := State.arrayAt?_spec harrAt
    have hown : s.vm.findClass R_law = some m.cls := findClass_of_methodNamed B.named
    have hts0 : ∀ c ∈ (Jvm.Cond.code x code maxLocals ret :: tables_1), c.before #[Value.ref b] s = true := atoms_spec (ws := Jvm.Cond.code x code maxLocals ret :: tables_1) B.pre
    have hts : ∀ w ∈ lw_tbl, w.before #[Value.ref b] s = true := k2_hts_sels lw_privs (fun w hw => hts0 w (List.mem_cons_of_mem _ hw)) lw_privs_ok
    have hml : c.maxLocals = 4 := B.maxLocals_eq (hts0 _ List.mem_cons_self)
    have X₀ : Stand p l e room_1 s m #[Value.ref b] below meth c s₁ [] 0 0 := Stand.of_body B
    have hh0 : s₁.heap = s.heap := by rw [B.state]; rfl
    have hsz : scr.slots.size = xs.length := by rw [← Array.length_toList, hlist, List.length_map]
    have hval : ∀ j : Nat, j < xs.length → scr.slots[j]? = some (.int (xs.getD j 0)) := fun j hj => by
      rw [← Array.getElem?_toList, hlist]
      simp [hj]
    have hbl : b < s.heap.size := (Array.getElem?_eq_some_iff.mp hcb).1
    have hX : va_X b xs.length (fun j => xs.getD j 0) s s.heap := ⟨scr, hcb, hof, hkn, hsz, hval⟩
    have K : W p l e room_1 s m #[Value.ref b] below meth c s₁.heap [] 0 0 (lw_Z below #[Value.ref b] s) (entryFrame m ([Value.ref b] : List Value).toArray 4) := by
      rw [hh0]
      exact whole_start l hflags hbd ⟨B.exec, B.bytes, B.returns, hml, hown, hts, hX, hbl, B.notSynchronized, hgv⟩
    obtain ⟨t, a1, o, b1, b2, b3⟩ := K s₁ rfl X₀
    exact ⟨t, o, a1, b1, b2, b3⟩
theorem lw_pre_spec {args : Array Value} {s : State} (h : (Jvm.Cond.and given_1 narrow_1).before args s = true) (hr : rest_1_c.before args s = true) : ∃ (b : Addr) (xs : List Int32), lw_P b xs args s := by
  have hs := flat_of_before _ h
  have hq := flat_of_before _ hr
  have hc : (Cond.count 1).before args s = true := hs _ (by decide +kernel)
  have harr : (Cond.arrayOf (.arg 0) .int).before args s = true := hs _ (by decide +kernel)
  have hle : (Cond.le (.length (.arg 0)) (.int 3072)).before args s = true := hs _ (by decide +kernel)
  have hlen : (Cond.isInt (.length (.arg 0))).before args s = true := hq _ (by decide +kernel)
  have hall : (Cond.all (.arg 0) (.isInt (.elem (.arg 0) (.index 0)))).before args s = true := hq _ (by decide +kernel)
  obtain ⟨b, xs, hb, hx⟩ := State.ints_of_pre rfl harr hlen hall
  have hsm : xs.length < 2 ^ 31 := hx.choose_spec.2.2.2
  have hev : (Term.length (.arg 0)).eval args s none [] s = some (.int xs.length.toInt32) := hx.length_eval hb
  have hv := Cond.le_ints hev (show (Term.int 3072).eval args s none [] s = some (.int 3072) from rfl)
  have hd : xs.length.toInt32 ≤ 3072 := by
    simpa [Cond.before, Cond.holds, hv] using hle
  have hN : xs.length ≤ 3072 := (Int32.ofNat_le_ofNat hsm (by decide)).mp (show Int32.ofNat xs.length ≤ Int32.ofNat 3072 from hd)
  exact ⟨b, xs, Cond.one_arg hc (show args[0]? = some (.ref b) from hb), hx, hN, h⟩
theorem lw_comes (l : Launch) (hflags : l.flags = flags0) : Comes l x (Jvm.Cond.code x code maxLocals ret :: tables_1) room_1 (fun tb e args s => Calls_1 tb e args s ∧ rest_1 tb e args s ∧ Pre_1 tb e args s)
    (fun _ _ args s o t => lw_Q args s o t) := by
  intro p e ha hc hk s m args below hf hfit hheap happ hpre
  obtain ⟨b, xs, hP⟩ := lw_pre_spec hpre.2.2 hpre.2.1
  obtain ⟨k, o, h1, h2, h3, hQ⟩ := lw_walk l hflags b xs p e ha hc hk s m args below hf ((Spec.applies_iff_loose hf).mp happ).1 hP trivial
  exact ⟨k, o, h1, h2, h3, hQ⟩
theorem lw_frame {s t : State} {o : Outcome} {args : Array Value} (h : Framed s o t [] 600000 7302250) :
    Framed s o t (fieldLocs frame_1_writes args s ++ arrayLocs frame_1_arrays args s ++ staticLocs frame_1_statics s) 600000 7302250 := h
theorem lw_limb (L : Cond) (hL : ∀ (args : Array Value) (s t : State), L.after args s (.returned (some (.int 1))) t = true) :
    ArmFor flags0 classFile x code maxLocals ret World_1 tables_1 room_1 Calls_1 rest_1 Pre_1
      (fun tb e a s o t => postC L tb e a s o t ∧ Framed s o t (fieldLocs frame_1_writes a s ++ arrayLocs frame_1_arrays a s ++ staticLocs frame_1_statics s) 600000 7302250) := by
  intro l hflags _ _ p e ha hc hk s m args below hf hfit hheap happ hpre
  obtain ⟨k, o, h1, h2, h3, rfl, hF⟩ := lw_comes l hflags p e ha hc hk s m args below hf hfit hheap happ hpre
  exact ⟨k, _, h1, h2, h3, hL args s _, lw_frame hF⟩
theorem i_vc : Claimed_1_1 ∧ Claimed_1_2 := ⟨lw_limb limb_1_1 (fun args s t => by simp [limb_1_1, Cond.after, Cond.holds, Cond.value]), lw_limb limb_1_2 (fun args s t => Cond.after_iff.mpr (by
  first | (rw [show limb_1_2 = Cond.eq .result (.int 1) from rfl, Cond.eq_ints (x := 1) (y := 1) rfl rfl]; simp; done) | (simp [limb_1_2, Cond.value, Term.eval]; done)))⟩
