/-! the constructor of the class -/
theorem dX4_init_0 : decode cX4_init 0 = .ok (.aload_n 0, 1) := by decide +kernel
theorem dX4_init_1 : decode cX4_init 1 = .ok (.invokespecial 3, 3) := by decide +kernel
theorem dX4_init_4 : decode cX4_init 4 = .ok (.aload_n 0, 1) := by decide +kernel
theorem dX4_init_5 : decode cX4_init 5 = .ok (.new 9, 3) := by decide +kernel
theorem dX4_init_8 : decode cX4_init 8 = .ok (.dup, 1) := by decide +kernel
theorem dX4_init_9 : decode cX4_init 9 = .ok (.invokespecial 11, 3) := by decide +kernel
theorem dX4_init_12 : decode cX4_init 12 = .ok (.putfield 12, 3) := by decide +kernel
theorem dX4_init_15 : decode cX4_init 15 = .ok (.aload_n 0, 1) := by decide +kernel
theorem dX4_init_16 : decode cX4_init 16 = .ok (.new 9, 3) := by decide +kernel
theorem dX4_init_19 : decode cX4_init 19 = .ok (.dup, 1) := by decide +kernel
theorem dX4_init_20 : decode cX4_init 20 = .ok (.invokespecial 11, 3) := by decide +kernel
theorem dX4_init_23 : decode cX4_init 23 = .ok (.putfield 16, 3) := by decide +kernel
theorem dX4_init_26 : decode cX4_init 26 = .ok (.aload_n 0, 1) := by decide +kernel
theorem dX4_init_27 : decode cX4_init 27 = .ok (.new 9, 3) := by decide +kernel
theorem dX4_init_30 : decode cX4_init 30 = .ok (.dup, 1) := by decide +kernel
theorem dX4_init_31 : decode cX4_init 31 = .ok (.invokespecial 11, 3) := by decide +kernel
theorem dX4_init_34 : decode cX4_init 34 = .ok (.putfield 19, 3) := by decide +kernel
theorem dX4_init_37 : decode cX4_init 37 = .ok (.aload_n 0, 1) := by decide +kernel
theorem dX4_init_38 : decode cX4_init 38 = .ok (.iconst 0, 1) := by decide +kernel
theorem dX4_init_39 : decode cX4_init 39 = .ok (.putfield 22, 3) := by decide +kernel
theorem dX4_init_42 : decode cX4_init 42 = .ok (.aload_n 0, 1) := by decide +kernel
theorem dX4_init_43 : decode cX4_init 43 = .ok (.new 26, 3) := by decide +kernel
theorem dX4_init_46 : decode cX4_init 46 = .ok (.dup, 1) := by decide +kernel
theorem dX4_init_47 : decode cX4_init 47 = .ok (.invokespecial 28, 3) := by decide +kernel
theorem dX4_init_50 : decode cX4_init 50 = .ok (.putfield 29, 3) := by decide +kernel
theorem dX4_init_53 : decode cX4_init 53 = .ok (.aload_n 0, 1) := by decide +kernel
theorem dX4_init_54 : decode cX4_init 54 = .ok (.iconst 4, 1) := by decide +kernel
theorem dX4_init_55 : decode cX4_init 55 = .ok (.anewarray 33, 3) := by decide +kernel
theorem dX4_init_58 : decode cX4_init 58 = .ok (.putfield 35, 3) := by decide +kernel
theorem dX4_init_61 : decode cX4_init 61 = .ok (.aload_n 0, 1) := by decide +kernel
theorem dX4_init_62 : decode cX4_init 62 = .ok (.bipush 7, 2) := by decide +kernel
theorem dX4_init_64 : decode cX4_init 64 = .ok (.newarray .int, 2) := by decide +kernel
theorem dX4_init_66 : decode cX4_init 66 = .ok (.putfield 39, 3) := by decide +kernel
theorem dX4_init_69 : decode cX4_init 69 = .ok (.iconst 0, 1) := by decide +kernel
theorem dX4_init_70 : decode cX4_init 70 = .ok (.istore_n 1, 1) := by decide +kernel
theorem dX4_init_71 : decode cX4_init 71 = .ok (.iload_n 1, 1) := by decide +kernel
theorem dX4_init_72 : decode cX4_init 72 = .ok (.aload_n 0, 1) := by decide +kernel
theorem dX4_init_73 : decode cX4_init 73 = .ok (.getfield 35, 3) := by decide +kernel
theorem dX4_init_76 : decode cX4_init 76 = .ok (.arraylength, 1) := by decide +kernel
theorem dX4_init_77 : decode cX4_init 77 = .ok (.if_icmp .ge 22, 3) := by decide +kernel
theorem dX4_init_80 : decode cX4_init 80 = .ok (.aload_n 0, 1) := by decide +kernel
theorem dX4_init_81 : decode cX4_init 81 = .ok (.getfield 35, 3) := by decide +kernel
theorem dX4_init_84 : decode cX4_init 84 = .ok (.iload_n 1, 1) := by decide +kernel
theorem dX4_init_85 : decode cX4_init 85 = .ok (.new 33, 3) := by decide +kernel
theorem dX4_init_88 : decode cX4_init 88 = .ok (.dup, 1) := by decide +kernel
theorem dX4_init_89 : decode cX4_init 89 = .ok (.invokespecial 43, 3) := by decide +kernel
theorem dX4_init_92 : decode cX4_init 92 = .ok (.aastore, 1) := by decide +kernel
theorem dX4_init_93 : decode cX4_init 93 = .ok (.iinc 1 1, 3) := by decide +kernel
theorem dX4_init_96 : decode cX4_init 96 = .ok (.goto (-25), 3) := by decide +kernel
theorem dX4_init_99 : decode cX4_init 99 = .ok (.return_, 1) := by decide +kernel
set_option maxRecDepth 100000 in
set_option maxHeartbeats 4000000 in
theorem ci_X4 {l : Launch} {D : va_G} {ca : Nat → ClassId} : CI l D ca yX4_init cX4_init 2 3 100 48 576 4 [.null, .null, .null, .int 0, .null, .null, .null] (fun q w => ∃ a b c u : Nat → Nat, w = [(q, eO 4 [.ref (a 0), .ref (b 0), .ref (c 0), .int 0, .ref (u 0), .ref (u 2), .ref (u 3)])] ++ coW ca a ++ coW ca b ++ coW ca c ++ [((u 0), eO 3 [.ref (u 1), .int 0, .int 0, .int 0, .int 0, .int 0]), ((u 1), eI (ca 6) 120 (fun _ => 0)), ((u 2), eR (ca 10) 4 (va_up (va_up (va_up (va_up (fun _ => none) 0 (some (u 4))) 1 (some (u 6))) 2 (some (u 8))) 3 (some (u 10)))), ((u 3), eI (ca 8) 7 (fun _ => 0)), ((u 4), eO 2 [.int 0, .int 0, .ref (u 5)]), ((u 5), eI (ca 8) 40 (fun _ => 0)), ((u 6), eO 2 [.int 0, .int 0, .ref (u 7)]), ((u 7), eI (ca 8) 40 (fun _ => 0)), ((u 8), eO 2 [.int 0, .int 0, .ref (u 9)]), ((u 9), eI (ca 8) 40 (fun _ => 0)), ((u 10), eO 2 [.int 0, .int 0, .ref (u 11)]), ((u 11), eI (ca 8) 40 (fun _ => 0))]) := by
  refine ci_of (by decide +kernel) rfl (by decide) (fun q A p e s mi args below meth c C hin hrt hlk => ?_)
  refine i_aload_n (q := 1) (i := 0) C dX4_init_0 rfl rfl ?_
  refine i_obj (q := 4) C dX4_init_1 rfl wo_X4 (Nat.le_of_ble_eq_true rfl) (Nat.le_of_ble_eq_true rfl) ?_
  refine i_aload_n (q := 5) (i := 0) C dX4_init_4 rfl rfl ?_
  refine i_new (q := 8) (ci := 0) (N := 9) (fs := [.null, .int 0, .int 0, .int 0, .int 0, .int 0, .int 0, .null, .null]) C dX4_init_5 rfl (by decide) rfl wl_X4_9 win_0 wii_0 hfs_0 (Nat.le_of_ble_eq_true rfl) (Nat.le_of_ble_eq_true rfl) (fun a1 => ?_)
  refine i_ws (ws' := [(q, eO 4 [.null, .null, .null, .int 0, .null, .null, .null]), (a1, eO 0 [.null, .int 0, .int 0, .int 0, .int 0, .int 0, .int 0, .null, .null])]) rfl ?_
  refine i_widen (k := 1) (n := 9) (by decide) (by decide) ?_
  refine i_dup (q := 9) C dX4_init_8 rfl rfl ?_
  refine i_init (q := 12) (k := 1) (wr := [(q, eO 4 [.null, .null, .null, .int 0, .null, .null, .null])]) [0] C dX4_init_9 rfl ci_X0 ml_X4_11 wn_X0 wii_0 wc_X0 rfl ⟨by decide, by decide, by decide +kernel⟩ rfl rfl (by decide) (by decide) ⟨Nat.le_of_ble_eq_true rfl, Nat.le_of_ble_eq_true rfl⟩ ⟨Nat.le_of_ble_eq_true rfl, Nat.le_of_ble_eq_true rfl⟩ (Nat.le_of_ble_eq_true rfl) (fun w1 hw1 => ?_)
  obtain ⟨b1, rfl, rfl⟩ := hw1
  refine i_ws (ws' := [(q, eO 4 [.null, .null, .null, .int 0, .null, .null, .null])] ++ coW ca b1) rfl ?_
  refine i_widen (k := 12) (n := 89) (by decide) (by decide) ?_
  refine i_putF (q := 15) (q0 := 0) (ws' := [(q, eO 4 [.ref (b1 0), .null, .null, .int 0, .null, .null, .null])] ++ coW ca b1) C hin dX4_init_12 rfl fl_X4_12 rfl rfl rfl rfl rfl (Nat.le_of_ble_eq_true rfl) rfl ?_
  refine i_aload_n (q := 16) (i := 0) C dX4_init_15 rfl rfl ?_
  refine i_new (q := 19) (ci := 0) (N := 9) (fs := [.null, .int 0, .int 0, .int 0, .int 0, .int 0, .int 0, .null, .null]) C dX4_init_16 rfl (by decide) rfl wl_X4_9 win_0 wii_0 hfs_0 (Nat.le_of_ble_eq_true rfl) (Nat.le_of_ble_eq_true rfl) (fun a2 => ?_)
  refine i_ws (ws' := [(q, eO 4 [.ref (b1 0), .null, .null, .int 0, .null, .null, .null])] ++ coW ca b1 ++ [(a2, eO 0 [.null, .int 0, .int 0, .int 0, .int 0, .int 0, .int 0, .null, .null])]) rfl ?_
  refine i_widen (k := 13) (n := 98) (by decide) (by decide) ?_
  refine i_dup (q := 20) C dX4_init_19 rfl rfl ?_
  refine i_init (q := 23) (k := 13) (wr := [(q, eO 4 [.ref (b1 0), .null, .null, .int 0, .null, .null, .null])] ++ coW ca b1) [0, 1, 2, 3, 4, 5, 6, 7, 8, 9, 10, 11, 12] C dX4_init_20 rfl ci_X0 ml_X4_11 wn_X0 wii_0 wc_X0 rfl ⟨by decide, by decide, by decide +kernel⟩ rfl rfl (by decide) (by decide) ⟨Nat.le_of_ble_eq_true rfl, Nat.le_of_ble_eq_true rfl⟩ ⟨Nat.le_of_ble_eq_true rfl, Nat.le_of_ble_eq_true rfl⟩ (Nat.le_of_ble_eq_true rfl) (fun w1 hw1 => ?_)
  obtain ⟨b2, rfl, rfl⟩ := hw1
  refine i_ws (ws' := [(q, eO 4 [.ref (b1 0), .null, .null, .int 0, .null, .null, .null])] ++ coW ca b1 ++ coW ca b2) rfl ?_
  refine i_widen (k := 24) (n := 178) (by decide) (by decide) ?_
  refine i_putF (q := 26) (q0 := 0) (ws' := [(q, eO 4 [.ref (b1 0), .ref (b2 0), .null, .int 0, .null, .null, .null])] ++ coW ca b1 ++ coW ca b2) C hin dX4_init_23 rfl fl_X4_16 rfl rfl rfl rfl rfl (Nat.le_of_ble_eq_true rfl) rfl ?_
  refine i_aload_n (q := 27) (i := 0) C dX4_init_26 rfl rfl ?_
  refine i_new (q := 30) (ci := 0) (N := 9) (fs := [.null, .int 0, .int 0, .int 0, .int 0, .int 0, .int 0, .null, .null]) C dX4_init_27 rfl (by decide) rfl wl_X4_9 win_0 wii_0 hfs_0 (Nat.le_of_ble_eq_true rfl) (Nat.le_of_ble_eq_true rfl) (fun a3 => ?_)
  refine i_ws (ws' := [(q, eO 4 [.ref (b1 0), .ref (b2 0), .null, .int 0, .null, .null, .null])] ++ coW ca b1 ++ coW ca b2 ++ [(a3, eO 0 [.null, .int 0, .int 0, .int 0, .int 0, .int 0, .int 0, .null, .null])]) rfl ?_
  refine i_widen (k := 25) (n := 187) (by decide) (by decide) ?_
  refine i_dup (q := 31) C dX4_init_30 rfl rfl ?_
  refine i_init (q := 34) (k := 25) (wr := [(q, eO 4 [.ref (b1 0), .ref (b2 0), .null, .int 0, .null, .null, .null])] ++ coW ca b1 ++ coW ca b2) [0, 1, 2, 3, 4, 5, 6, 7, 8, 9, 10, 11, 12, 13, 14, 15, 16, 17, 18, 19, 20, 21, 22, 23, 24] C dX4_init_31 rfl ci_X0 ml_X4_11 wn_X0 wii_0 wc_X0 rfl ⟨by decide, by decide, by decide +kernel⟩ rfl rfl (by decide) (by decide) ⟨Nat.le_of_ble_eq_true rfl, Nat.le_of_ble_eq_true rfl⟩ ⟨Nat.le_of_ble_eq_true rfl, Nat.le_of_ble_eq_true rfl⟩ (Nat.le_of_ble_eq_true rfl) (fun w1 hw1 => ?_)
  obtain ⟨b3, rfl, rfl⟩ := hw1
  refine i_ws (ws' := [(q, eO 4 [.ref (b1 0), .ref (b2 0), .null, .int 0, .null, .null, .null])] ++ coW ca b1 ++ coW ca b2 ++ coW ca b3) rfl ?_
  refine i_widen (k := 36) (n := 267) (by decide) (by decide) ?_
  refine i_putF (q := 37) (q0 := 0) (ws' := [(q, eO 4 [.ref (b1 0), .ref (b2 0), .ref (b3 0), .int 0, .null, .null, .null])] ++ coW ca b1 ++ coW ca b2 ++ coW ca b3) C hin dX4_init_34 rfl fl_X4_19 rfl rfl rfl rfl rfl (Nat.le_of_ble_eq_true rfl) rfl ?_
  refine i_aload_n (q := 38) (i := 0) C dX4_init_37 rfl rfl ?_
  refine i_iconst (q := 39) (v := 0) C dX4_init_38 rfl (by decide) ?_
  refine i_put (q := 42) (q0 := 0) (ws' := [(q, eO 4 [.ref (b1 0), .ref (b2 0), .ref (b3 0), .int 0, .null, .null, .null])] ++ coW ca b1 ++ coW ca b2 ++ coW ca b3) C dX4_init_39 rfl fl_X4_22 rfl rfl rfl rfl (Nat.le_of_ble_eq_true rfl) rfl ?_
  refine i_aload_n (q := 43) (i := 0) C dX4_init_42 rfl rfl ?_
  refine i_new (q := 46) (ci := 3) (N := 6) (fs := [.null, .int 0, .int 0, .int 0, .int 0, .int 0]) C dX4_init_43 rfl (by decide) rfl wl_X4_26 win_3 wii_3 hfs_3 (Nat.le_of_ble_eq_true rfl) (Nat.le_of_ble_eq_true rfl) (fun a4 => ?_)
  refine i_ws (ws' := [(q, eO 4 [.ref (b1 0), .ref (b2 0), .ref (b3 0), .int 0, .null, .null, .null])] ++ coW ca b1 ++ coW ca b2 ++ coW ca b3 ++ [(a4, eO 3 [.null, .int 0, .int 0, .int 0, .int 0, .int 0])]) rfl ?_
  refine i_widen (k := 37) (n := 273) (by decide) (by decide) ?_
  refine i_dup (q := 47) C dX4_init_46 rfl rfl ?_
  refine i_initN (q := 50) (k := 37) (wr := [(q, eO 4 [.ref (b1 0), .ref (b2 0), .ref (b3 0), .int 0, .null, .null, .null])] ++ coW ca b1 ++ coW ca b2 ++ coW ca b3) [0, 1, 2, 3, 4, 5, 6, 7, 8, 9, 10, 11, 12, 13, 14, 15, 16, 17, 18, 19, 20, 21, 22, 23, 24, 25, 26, 27, 28, 29, 30, 31, 32, 33, 34, 35, 36] C dX4_init_47 rfl ci_X3 C.2.2.2.2.2.2.1.2.2.2.1 wn_X3 wii_3 wc_X3 rfl ⟨by decide, by decide, by decide +kernel⟩ rfl rfl (by decide) (by decide) ⟨Nat.le_of_ble_eq_true rfl, Nat.le_of_ble_eq_true rfl⟩ ⟨Nat.le_of_ble_eq_true rfl, Nat.le_of_ble_eq_true rfl⟩ (Nat.le_of_ble_eq_true rfl) (fun w1 hw1 => ?_)
  obtain ⟨a5, rfl⟩ := hw1
  refine i_ws (ws' := [(q, eO 4 [.ref (b1 0), .ref (b2 0), .ref (b3 0), .int 0, .null, .null, .null])] ++ coW ca b1 ++ coW ca b2 ++ coW ca b3 ++ [(a4, eO 3 [.ref a5, .int 0, .int 0, .int 0, .int 0, .int 0]), (a5, eI (ca 6) 120 (fun _ => 0))]) rfl ?_
  refine i_widen (k := 38) (n := 393) (by decide) (by decide) ?_
  refine i_putF (q := 53) (q0 := 0) (ws' := [(q, eO 4 [.ref (b1 0), .ref (b2 0), .ref (b3 0), .int 0, .ref a4, .null, .null])] ++ coW ca b1 ++ coW ca b2 ++ coW ca b3 ++ [(a4, eO 3 [.ref a5, .int 0, .int 0, .int 0, .int 0, .int 0]), (a5, eI (ca 6) 120 (fun _ => 0))]) C hin dX4_init_50 rfl fl_X4_29 rfl rfl rfl rfl rfl (Nat.le_of_ble_eq_true rfl) rfl ?_
  refine i_aload_n (q := 54) (i := 0) C dX4_init_53 rfl rfl ?_
  refine i_iconst (q := 55) (v := 4) C dX4_init_54 rfl (by decide) ?_
  refine i_newS (q := 58) (N := 4) C dX4_init_55 rfl wl_X4_33 (by decide) (by decide) (by decide) (Nat.le_of_ble_eq_true rfl) (Nat.le_of_ble_eq_true rfl) (fun a6 => ?_)
  refine i_ws (ws' := [(q, eO 4 [.ref (b1 0), .ref (b2 0), .ref (b3 0), .int 0, .ref a4, .null, .null])] ++ coW ca b1 ++ coW ca b2 ++ coW ca b3 ++ [(a4, eO 3 [.ref a5, .int 0, .int 0, .int 0, .int 0, .int 0]), (a5, eI (ca 6) 120 (fun _ => 0)), (a6, eR (ca 10) 4 (fun _ => none))]) rfl ?_
  refine i_widen (k := 39) (n := 397) (by decide) (by decide) ?_
  refine i_putF (q := 61) (q0 := 0) (ws' := [(q, eO 4 [.ref (b1 0), .ref (b2 0), .ref (b3 0), .int 0, .ref a4, .ref a6, .null])] ++ coW ca b1 ++ coW ca b2 ++ coW ca b3 ++ [(a4, eO 3 [.ref a5, .int 0, .int 0, .int 0, .int 0, .int 0]), (a5, eI (ca 6) 120 (fun _ => 0)), (a6, eR (ca 10) 4 (fun _ => none))]) C hin dX4_init_58 rfl fl_X4_35 rfl rfl rfl rfl rfl (Nat.le_of_ble_eq_true rfl) rfl ?_
  refine i_aload_n (q := 62) (i := 0) C dX4_init_61 rfl rfl ?_
  refine i_bipush (q := 64) (v := 7) C dX4_init_62 rfl (by decide) ?_
  refine i_newI (q := 66) (N := 7) C dX4_init_64 rfl wa_int (by decide) (by decide) (by decide) (Nat.le_of_ble_eq_true rfl) (Nat.le_of_ble_eq_true rfl) (fun a7 => ?_)
  refine i_ws (ws' := [(q, eO 4 [.ref (b1 0), .ref (b2 0), .ref (b3 0), .int 0, .ref a4, .ref a6, .null])] ++ coW ca b1 ++ coW ca b2 ++ coW ca b3 ++ [(a4, eO 3 [.ref a5, .int 0, .int 0, .int 0, .int 0, .int 0]), (a5, eI (ca 6) 120 (fun _ => 0)), (a6, eR (ca 10) 4 (fun _ => none)), (a7, eI (ca 8) 7 (fun _ => 0))]) rfl ?_
  refine i_widen (k := 40) (n := 404) (by decide) (by decide) ?_
  refine i_putF (q := 69) (q0 := 0) (ws' := [(q, eO 4 [.ref (b1 0), .ref (b2 0), .ref (b3 0), .int 0, .ref a4, .ref a6, .ref a7])] ++ coW ca b1 ++ coW ca b2 ++ coW ca b3 ++ [(a4, eO 3 [.ref a5, .int 0, .int 0, .int 0, .int 0, .int 0]), (a5, eI (ca 6) 120 (fun _ => 0)), (a6, eR (ca 10) 4 (fun _ => none)), (a7, eI (ca 8) 7 (fun _ => 0))]) C hin dX4_init_66 rfl fl_X4_39 rfl rfl rfl rfl rfl (Nat.le_of_ble_eq_true rfl) rfl ?_
  refine i_iconst (q := 70) (v := 0) C dX4_init_69 rfl (by decide) ?_
  refine i_istore_n (q := 71) (lv' := [(1, .int 0), (0, .ref q)]) C dX4_init_70 rfl (by decide) rfl ?_
  refine i_iload_n (q := 72) (i := 0) C dX4_init_71 rfl rfl ?_
  refine i_aload_n (q := 73) (i := 1) C dX4_init_72 rfl rfl ?_
  refine i_get (q := 76) (q0 := 0) C dX4_init_73 rfl fl_X4_35 rfl rfl ?_
  refine i_alen (q := 77) (q0 := 39) (t0 := 4) (v := 4) C dX4_init_76 rfl rfl rfl rfl ?_
  refine i_icmp_ge (q := 80) (t := 99) C dX4_init_77 rfl (by decide) (fun h => absurd h (by decide)) (fun _ => ?_)
  refine i_aload_n (q := 81) (i := 1) C dX4_init_80 rfl rfl ?_
  refine i_get (q := 84) (q0 := 0) C dX4_init_81 rfl fl_X4_35 rfl rfl ?_
  refine i_iload_n (q := 85) (i := 0) C dX4_init_84 rfl rfl ?_
  refine i_new (q := 88) (ci := 2) (N := 3) (fs := [.int 0, .int 0, .null]) C dX4_init_85 rfl (by decide) rfl wl_X4_33 win_2 wii_2 hfs_2 (Nat.le_of_ble_eq_true rfl) (Nat.le_of_ble_eq_true rfl) (fun a8 => ?_)
  refine i_ws (ws' := [(q, eO 4 [.ref (b1 0), .ref (b2 0), .ref (b3 0), .int 0, .ref a4, .ref a6, .ref a7])] ++ coW ca b1 ++ coW ca b2 ++ coW ca b3 ++ [(a4, eO 3 [.ref a5, .int 0, .int 0, .int 0, .int 0, .int 0]), (a5, eI (ca 6) 120 (fun _ => 0)), (a6, eR (ca 10) 4 (fun _ => none)), (a7, eI (ca 8) 7 (fun _ => 0)), (a8, eO 2 [.int 0, .int 0, .null])]) rfl ?_
  refine i_widen (k := 41) (n := 407) (by decide) (by decide) ?_
  refine i_dup (q := 89) C dX4_init_88 rfl rfl ?_
  refine i_initN (q := 92) (k := 41) (wr := [(q, eO 4 [.ref (b1 0), .ref (b2 0), .ref (b3 0), .int 0, .ref a4, .ref a6, .ref a7])] ++ coW ca b1 ++ coW ca b2 ++ coW ca b3 ++ [(a4, eO 3 [.ref a5, .int 0, .int 0, .int 0, .int 0, .int 0]), (a5, eI (ca 6) 120 (fun _ => 0)), (a6, eR (ca 10) 4 (fun _ => none)), (a7, eI (ca 8) 7 (fun _ => 0))]) [0, 1, 2, 3, 4, 5, 6, 7, 8, 9, 10, 11, 12, 13, 14, 15, 16, 17, 18, 19, 20, 21, 22, 23, 24, 25, 26, 27, 28, 29, 30, 31, 32, 33, 34, 35, 36, 37, 38, 39, 40] C dX4_init_89 rfl ci_X2 C.2.2.2.2.2.2.1.2.2.2.2 wn_X2 wii_2 wc_X2 rfl ⟨by decide, by decide, by decide +kernel⟩ rfl rfl (by decide) (by decide) ⟨Nat.le_of_ble_eq_true rfl, Nat.le_of_ble_eq_true rfl⟩ ⟨Nat.le_of_ble_eq_true rfl, Nat.le_of_ble_eq_true rfl⟩ (Nat.le_of_ble_eq_true rfl) (fun w1 hw1 => ?_)
  obtain ⟨a9, rfl⟩ := hw1
  refine i_ws (ws' := [(q, eO 4 [.ref (b1 0), .ref (b2 0), .ref (b3 0), .int 0, .ref a4, .ref a6, .ref a7])] ++ coW ca b1 ++ coW ca b2 ++ coW ca b3 ++ [(a4, eO 3 [.ref a5, .int 0, .int 0, .int 0, .int 0, .int 0]), (a5, eI (ca 6) 120 (fun _ => 0)), (a6, eR (ca 10) 4 (fun _ => none)), (a7, eI (ca 8) 7 (fun _ => 0)), (a8, eO 2 [.int 0, .int 0, .ref a9]), (a9, eI (ca 8) 40 (fun _ => 0))]) rfl ?_
  refine i_widen (k := 42) (n := 447) (by decide) (by decide) ?_
  refine i_aast (q := 93) (q0 := 39) (qk := 41) (t0 := 4) (ci := 2) (j := 0) (ws' := [(q, eO 4 [.ref (b1 0), .ref (b2 0), .ref (b3 0), .int 0, .ref a4, .ref a6, .ref a7])] ++ coW ca b1 ++ coW ca b2 ++ coW ca b3 ++ [(a4, eO 3 [.ref a5, .int 0, .int 0, .int 0, .int 0, .int 0]), (a5, eI (ca 6) 120 (fun _ => 0)), (a6, eR (ca 10) 4 (va_up (fun _ => none) 0 (some a8))), (a7, eI (ca 8) 7 (fun _ => 0)), (a8, eO 2 [.int 0, .int 0, .ref a9]), (a9, eI (ca 8) 40 (fun _ => 0))]) C dX4_init_92 rfl (by decide) rfl rfl rfl (ix_nI (k := 0) (by decide) (by decide)) rfl ?_
  refine i_iinc (q := 96) (i := 0) (v := 1) (lv' := [(1, .int 1), (0, .ref q)]) C dX4_init_93 rfl rfl (by decide) (by decide) rfl ?_
  refine i_goto (t := 71) C dX4_init_96 (by decide) ?_
  refine i_iload_n (q := 72) (i := 0) C dX4_init_71 rfl rfl ?_
  refine i_aload_n (q := 73) (i := 1) C dX4_init_72 rfl rfl ?_
  refine i_get (q := 76) (q0 := 0) C dX4_init_73 rfl fl_X4_35 rfl rfl ?_
  refine i_alen (q := 77) (q0 := 39) (t0 := 4) (v := 4) C dX4_init_76 rfl rfl rfl rfl ?_
  refine i_icmp_ge (q := 80) (t := 99) C dX4_init_77 rfl (by decide) (fun h => absurd h (by decide)) (fun _ => ?_)
  refine i_aload_n (q := 81) (i := 1) C dX4_init_80 rfl rfl ?_
  refine i_get (q := 84) (q0 := 0) C dX4_init_81 rfl fl_X4_35 rfl rfl ?_
  refine i_iload_n (q := 85) (i := 0) C dX4_init_84 rfl rfl ?_
  refine i_new (q := 88) (ci := 2) (N := 3) (fs := [.int 0, .int 0, .null]) C dX4_init_85 rfl (by decide) rfl wl_X4_33 win_2 wii_2 hfs_2 (Nat.le_of_ble_eq_true rfl) (Nat.le_of_ble_eq_true rfl) (fun a10 => ?_)
  refine i_ws (ws' := [(q, eO 4 [.ref (b1 0), .ref (b2 0), .ref (b3 0), .int 0, .ref a4, .ref a6, .ref a7])] ++ coW ca b1 ++ coW ca b2 ++ coW ca b3 ++ [(a4, eO 3 [.ref a5, .int 0, .int 0, .int 0, .int 0, .int 0]), (a5, eI (ca 6) 120 (fun _ => 0)), (a6, eR (ca 10) 4 (va_up (fun _ => none) 0 (some a8))), (a7, eI (ca 8) 7 (fun _ => 0)), (a8, eO 2 [.int 0, .int 0, .ref a9]), (a9, eI (ca 8) 40 (fun _ => 0)), (a10, eO 2 [.int 0, .int 0, .null])]) rfl ?_
  refine i_widen (k := 43) (n := 450) (by decide) (by decide) ?_
  refine i_dup (q := 89) C dX4_init_88 rfl rfl ?_
  refine i_initN (q := 92) (k := 43) (wr := [(q, eO 4 [.ref (b1 0), .ref (b2 0), .ref (b3 0), .int 0, .ref a4, .ref a6, .ref a7])] ++ coW ca b1 ++ coW ca b2 ++ coW ca b3 ++ [(a4, eO 3 [.ref a5, .int 0, .int 0, .int 0, .int 0, .int 0]), (a5, eI (ca 6) 120 (fun _ => 0)), (a6, eR (ca 10) 4 (va_up (fun _ => none) 0 (some a8))), (a7, eI (ca 8) 7 (fun _ => 0)), (a8, eO 2 [.int 0, .int 0, .ref a9]), (a9, eI (ca 8) 40 (fun _ => 0))]) [0, 1, 2, 3, 4, 5, 6, 7, 8, 9, 10, 11, 12, 13, 14, 15, 16, 17, 18, 19, 20, 21, 22, 23, 24, 25, 26, 27, 28, 29, 30, 31, 32, 33, 34, 35, 36, 37, 38, 39, 40, 41, 42] C dX4_init_89 rfl ci_X2 C.2.2.2.2.2.2.1.2.2.2.2 wn_X2 wii_2 wc_X2 rfl ⟨by decide, by decide, by decide +kernel⟩ rfl rfl (by decide) (by decide) ⟨Nat.le_of_ble_eq_true rfl, Nat.le_of_ble_eq_true rfl⟩ ⟨Nat.le_of_ble_eq_true rfl, Nat.le_of_ble_eq_true rfl⟩ (Nat.le_of_ble_eq_true rfl) (fun w1 hw1 => ?_)
  obtain ⟨a11, rfl⟩ := hw1
  refine i_ws (ws' := [(q, eO 4 [.ref (b1 0), .ref (b2 0), .ref (b3 0), .int 0, .ref a4, .ref a6, .ref a7])] ++ coW ca b1 ++ coW ca b2 ++ coW ca b3 ++ [(a4, eO 3 [.ref a5, .int 0, .int 0, .int 0, .int 0, .int 0]), (a5, eI (ca 6) 120 (fun _ => 0)), (a6, eR (ca 10) 4 (va_up (fun _ => none) 0 (some a8))), (a7, eI (ca 8) 7 (fun _ => 0)), (a8, eO 2 [.int 0, .int 0, .ref a9]), (a9, eI (ca 8) 40 (fun _ => 0)), (a10, eO 2 [.int 0, .int 0, .ref a11]), (a11, eI (ca 8) 40 (fun _ => 0))]) rfl ?_
  refine i_widen (k := 44) (n := 490) (by decide) (by decide) ?_
  refine i_aast (q := 93) (q0 := 39) (qk := 43) (t0 := 4) (ci := 2) (j := 1) (ws' := [(q, eO 4 [.ref (b1 0), .ref (b2 0), .ref (b3 0), .int 0, .ref a4, .ref a6, .ref a7])] ++ coW ca b1 ++ coW ca b2 ++ coW ca b3 ++ [(a4, eO 3 [.ref a5, .int 0, .int 0, .int 0, .int 0, .int 0]), (a5, eI (ca 6) 120 (fun _ => 0)), (a6, eR (ca 10) 4 (va_up (va_up (fun _ => none) 0 (some a8)) 1 (some a10))), (a7, eI (ca 8) 7 (fun _ => 0)), (a8, eO 2 [.int 0, .int 0, .ref a9]), (a9, eI (ca 8) 40 (fun _ => 0)), (a10, eO 2 [.int 0, .int 0, .ref a11]), (a11, eI (ca 8) 40 (fun _ => 0))]) C dX4_init_92 rfl (by decide) rfl rfl rfl (ix_nI (k := 1) (by decide) (by decide)) rfl ?_
  refine i_iinc (q := 96) (i := 0) (v := 2) (lv' := [(1, .int 2), (0, .ref q)]) C dX4_init_93 rfl rfl (by decide) (by decide) rfl ?_
  refine i_goto (t := 71) C dX4_init_96 (by decide) ?_
  refine i_iload_n (q := 72) (i := 0) C dX4_init_71 rfl rfl ?_
  refine i_aload_n (q := 73) (i := 1) C dX4_init_72 rfl rfl ?_
  refine i_get (q := 76) (q0 := 0) C dX4_init_73 rfl fl_X4_35 rfl rfl ?_
  refine i_alen (q := 77) (q0 := 39) (t0 := 4) (v := 4) C dX4_init_76 rfl rfl rfl rfl ?_
  refine i_icmp_ge (q := 80) (t := 99) C dX4_init_77 rfl (by decide) (fun h => absurd h (by decide)) (fun _ => ?_)
  refine i_aload_n (q := 81) (i := 1) C dX4_init_80 rfl rfl ?_
  refine i_get (q := 84) (q0 := 0) C dX4_init_81 rfl fl_X4_35 rfl rfl ?_
  refine i_iload_n (q := 85) (i := 0) C dX4_init_84 rfl rfl ?_
  refine i_new (q := 88) (ci := 2) (N := 3) (fs := [.int 0, .int 0, .null]) C dX4_init_85 rfl (by decide) rfl wl_X4_33 win_2 wii_2 hfs_2 (Nat.le_of_ble_eq_true rfl) (Nat.le_of_ble_eq_true rfl) (fun a12 => ?_)
  refine i_ws (ws' := [(q, eO 4 [.ref (b1 0), .ref (b2 0), .ref (b3 0), .int 0, .ref a4, .ref a6, .ref a7])] ++ coW ca b1 ++ coW ca b2 ++ coW ca b3 ++ [(a4, eO 3 [.ref a5, .int 0, .int 0, .int 0, .int 0, .int 0]), (a5, eI (ca 6) 120 (fun _ => 0)), (a6, eR (ca 10) 4 (va_up (va_up (fun _ => none) 0 (some a8)) 1 (some a10))), (a7, eI (ca 8) 7 (fun _ => 0)), (a8, eO 2 [.int 0, .int 0, .ref a9]), (a9, eI (ca 8) 40 (fun _ => 0)), (a10, eO 2 [.int 0, .int 0, .ref a11]), (a11, eI (ca 8) 40 (fun _ => 0)), (a12, eO 2 [.int 0, .int 0, .null])]) rfl ?_
  refine i_widen (k := 45) (n := 493) (by decide) (by decide) ?_
  refine i_dup (q := 89) C dX4_init_88 rfl rfl ?_
  refine i_initN (q := 92) (k := 45) (wr := [(q, eO 4 [.ref (b1 0), .ref (b2 0), .ref (b3 0), .int 0, .ref a4, .ref a6, .ref a7])] ++ coW ca b1 ++ coW ca b2 ++ coW ca b3 ++ [(a4, eO 3 [.ref a5, .int 0, .int 0, .int 0, .int 0, .int 0]), (a5, eI (ca 6) 120 (fun _ => 0)), (a6, eR (ca 10) 4 (va_up (va_up (fun _ => none) 0 (some a8)) 1 (some a10))), (a7, eI (ca 8) 7 (fun _ => 0)), (a8, eO 2 [.int 0, .int 0, .ref a9]), (a9, eI (ca 8) 40 (fun _ => 0)), (a10, eO 2 [.int 0, .int 0, .ref a11]), (a11, eI (ca 8) 40 (fun _ => 0))]) [0, 1, 2, 3, 4, 5, 6, 7, 8, 9, 10, 11, 12, 13, 14, 15, 16, 17, 18, 19, 20, 21, 22, 23, 24, 25, 26, 27, 28, 29, 30, 31, 32, 33, 34, 35, 36, 37, 38, 39, 40, 41, 42, 43, 44] C dX4_init_89 rfl ci_X2 C.2.2.2.2.2.2.1.2.2.2.2 wn_X2 wii_2 wc_X2 rfl ⟨by decide, by decide, by decide +kernel⟩ rfl rfl (by decide) (by decide) ⟨Nat.le_of_ble_eq_true rfl, Nat.le_of_ble_eq_true rfl⟩ ⟨Nat.le_of_ble_eq_true rfl, Nat.le_of_ble_eq_true rfl⟩ (Nat.le_of_ble_eq_true rfl) (fun w1 hw1 => ?_)
  obtain ⟨a13, rfl⟩ := hw1
  refine i_ws (ws' := [(q, eO 4 [.ref (b1 0), .ref (b2 0), .ref (b3 0), .int 0, .ref a4, .ref a6, .ref a7])] ++ coW ca b1 ++ coW ca b2 ++ coW ca b3 ++ [(a4, eO 3 [.ref a5, .int 0, .int 0, .int 0, .int 0, .int 0]), (a5, eI (ca 6) 120 (fun _ => 0)), (a6, eR (ca 10) 4 (va_up (va_up (fun _ => none) 0 (some a8)) 1 (some a10))), (a7, eI (ca 8) 7 (fun _ => 0)), (a8, eO 2 [.int 0, .int 0, .ref a9]), (a9, eI (ca 8) 40 (fun _ => 0)), (a10, eO 2 [.int 0, .int 0, .ref a11]), (a11, eI (ca 8) 40 (fun _ => 0)), (a12, eO 2 [.int 0, .int 0, .ref a13]), (a13, eI (ca 8) 40 (fun _ => 0))]) rfl ?_
  refine i_widen (k := 46) (n := 533) (by decide) (by decide) ?_
  refine i_aast (q := 93) (q0 := 39) (qk := 45) (t0 := 4) (ci := 2) (j := 2) (ws' := [(q, eO 4 [.ref (b1 0), .ref (b2 0), .ref (b3 0), .int 0, .ref a4, .ref a6, .ref a7])] ++ coW ca b1 ++ coW ca b2 ++ coW ca b3 ++ [(a4, eO 3 [.ref a5, .int 0, .int 0, .int 0, .int 0, .int 0]), (a5, eI (ca 6) 120 (fun _ => 0)), (a6, eR (ca 10) 4 (va_up (va_up (va_up (fun _ => none) 0 (some a8)) 1 (some a10)) 2 (some a12))), (a7, eI (ca 8) 7 (fun _ => 0)), (a8, eO 2 [.int 0, .int 0, .ref a9]), (a9, eI (ca 8) 40 (fun _ => 0)), (a10, eO 2 [.int 0, .int 0, .ref a11]), (a11, eI (ca 8) 40 (fun _ => 0)), (a12, eO 2 [.int 0, .int 0, .ref a13]), (a13, eI (ca 8) 40 (fun _ => 0))]) C dX4_init_92 rfl (by decide) rfl rfl rfl (ix_nI (k := 2) (by decide) (by decide)) rfl ?_
  refine i_iinc (q := 96) (i := 0) (v := 3) (lv' := [(1, .int 3), (0, .ref q)]) C dX4_init_93 rfl rfl (by decide) (by decide) rfl ?_
  refine i_goto (t := 71) C dX4_init_96 (by decide) ?_
  refine i_iload_n (q := 72) (i := 0) C dX4_init_71 rfl rfl ?_
  refine i_aload_n (q := 73) (i := 1) C dX4_init_72 rfl rfl ?_
  refine i_get (q := 76) (q0 := 0) C dX4_init_73 rfl fl_X4_35 rfl rfl ?_
  refine i_alen (q := 77) (q0 := 39) (t0 := 4) (v := 4) C dX4_init_76 rfl rfl rfl rfl ?_
  refine i_icmp_ge (q := 80) (t := 99) C dX4_init_77 rfl (by decide) (fun h => absurd h (by decide)) (fun _ => ?_)
  refine i_aload_n (q := 81) (i := 1) C dX4_init_80 rfl rfl ?_
  refine i_get (q := 84) (q0 := 0) C dX4_init_81 rfl fl_X4_35 rfl rfl ?_
  refine i_iload_n (q := 85) (i := 0) C dX4_init_84 rfl rfl ?_
  refine i_new (q := 88) (ci := 2) (N := 3) (fs := [.int 0, .int 0, .null]) C dX4_init_85 rfl (by decide) rfl wl_X4_33 win_2 wii_2 hfs_2 (Nat.le_of_ble_eq_true rfl) (Nat.le_of_ble_eq_true rfl) (fun a14 => ?_)
  refine i_ws (ws' := [(q, eO 4 [.ref (b1 0), .ref (b2 0), .ref (b3 0), .int 0, .ref a4, .ref a6, .ref a7])] ++ coW ca b1 ++ coW ca b2 ++ coW ca b3 ++ [(a4, eO 3 [.ref a5, .int 0, .int 0, .int 0, .int 0, .int 0]), (a5, eI (ca 6) 120 (fun _ => 0)), (a6, eR (ca 10) 4 (va_up (va_up (va_up (fun _ => none) 0 (some a8)) 1 (some a10)) 2 (some a12))), (a7, eI (ca 8) 7 (fun _ => 0)), (a8, eO 2 [.int 0, .int 0, .ref a9]), (a9, eI (ca 8) 40 (fun _ => 0)), (a10, eO 2 [.int 0, .int 0, .ref a11]), (a11, eI (ca 8) 40 (fun _ => 0)), (a12, eO 2 [.int 0, .int 0, .ref a13]), (a13, eI (ca 8) 40 (fun _ => 0)), (a14, eO 2 [.int 0, .int 0, .null])]) rfl ?_
  refine i_widen (k := 47) (n := 536) (by decide) (by decide) ?_
  refine i_dup (q := 89) C dX4_init_88 rfl rfl ?_
  refine i_initN (q := 92) (k := 47) (wr := [(q, eO 4 [.ref (b1 0), .ref (b2 0), .ref (b3 0), .int 0, .ref a4, .ref a6, .ref a7])] ++ coW ca b1 ++ coW ca b2 ++ coW ca b3 ++ [(a4, eO 3 [.ref a5, .int 0, .int 0, .int 0, .int 0, .int 0]), (a5, eI (ca 6) 120 (fun _ => 0)), (a6, eR (ca 10) 4 (va_up (va_up (va_up (fun _ => none) 0 (some a8)) 1 (some a10)) 2 (some a12))), (a7, eI (ca 8) 7 (fun _ => 0)), (a8, eO 2 [.int 0, .int 0, .ref a9]), (a9, eI (ca 8) 40 (fun _ => 0)), (a10, eO 2 [.int 0, .int 0, .ref a11]), (a11, eI (ca 8) 40 (fun _ => 0)), (a12, eO 2 [.int 0, .int 0, .ref a13]), (a13, eI (ca 8) 40 (fun _ => 0))]) [0, 1, 2, 3, 4, 5, 6, 7, 8, 9, 10, 11, 12, 13, 14, 15, 16, 17, 18, 19, 20, 21, 22, 23, 24, 25, 26, 27, 28, 29, 30, 31, 32, 33, 34, 35, 36, 37, 38, 39, 40, 41, 42, 43, 44, 45, 46] C dX4_init_89 rfl ci_X2 C.2.2.2.2.2.2.1.2.2.2.2 wn_X2 wii_2 wc_X2 rfl ⟨by decide, by decide, by decide +kernel⟩ rfl rfl (by decide) (by decide) ⟨Nat.le_of_ble_eq_true rfl, Nat.le_of_ble_eq_true rfl⟩ ⟨Nat.le_of_ble_eq_true rfl, Nat.le_of_ble_eq_true rfl⟩ (Nat.le_of_ble_eq_true rfl) (fun w1 hw1 => ?_)
  obtain ⟨a15, rfl⟩ := hw1
  refine i_ws (ws' := [(q, eO 4 [.ref (b1 0), .ref (b2 0), .ref (b3 0), .int 0, .ref a4, .ref a6, .ref a7])] ++ coW ca b1 ++ coW ca b2 ++ coW ca b3 ++ [(a4, eO 3 [.ref a5, .int 0, .int 0, .int 0, .int 0, .int 0]), (a5, eI (ca 6) 120 (fun _ => 0)), (a6, eR (ca 10) 4 (va_up (va_up (va_up (fun _ => none) 0 (some a8)) 1 (some a10)) 2 (some a12))), (a7, eI (ca 8) 7 (fun _ => 0)), (a8, eO 2 [.int 0, .int 0, .ref a9]), (a9, eI (ca 8) 40 (fun _ => 0)), (a10, eO 2 [.int 0, .int 0, .ref a11]), (a11, eI (ca 8) 40 (fun _ => 0)), (a12, eO 2 [.int 0, .int 0, .ref a13]), (a13, eI (ca 8) 40 (fun _ => 0)), (a14, eO 2 [.int 0, .int 0, .ref a15]), (a15, eI (ca 8) 40 (fun _ => 0))]) rfl ?_
  refine i_widen (k := 48) (n := 576) (by decide) (by decide) ?_
  refine i_aast (q := 93) (q0 := 39) (qk := 47) (t0 := 4) (ci := 2) (j := 3) (ws' := [(q, eO 4 [.ref (b1 0), .ref (b2 0), .ref (b3 0), .int 0, .ref a4, .ref a6, .ref a7])] ++ coW ca b1 ++ coW ca b2 ++ coW ca b3 ++ [(a4, eO 3 [.ref a5, .int 0, .int 0, .int 0, .int 0, .int 0]), (a5, eI (ca 6) 120 (fun _ => 0)), (a6, eR (ca 10) 4 (va_up (va_up (va_up (va_up (fun _ => none) 0 (some a8)) 1 (some a10)) 2 (some a12)) 3 (some a14))), (a7, eI (ca 8) 7 (fun _ => 0)), (a8, eO 2 [.int 0, .int 0, .ref a9]), (a9, eI (ca 8) 40 (fun _ => 0)), (a10, eO 2 [.int 0, .int 0, .ref a11]), (a11, eI (ca 8) 40 (fun _ => 0)), (a12, eO 2 [.int 0, .int 0, .ref a13]), (a13, eI (ca 8) 40 (fun _ => 0)), (a14, eO 2 [.int 0, .int 0, .ref a15]), (a15, eI (ca 8) 40 (fun _ => 0))]) C dX4_init_92 rfl (by decide) rfl rfl rfl (ix_nI (k := 3) (by decide) (by decide)) rfl ?_
  refine i_iinc (q := 96) (i := 0) (v := 4) (lv' := [(1, .int 4), (0, .ref q)]) C dX4_init_93 rfl rfl (by decide) (by decide) rfl ?_
  refine i_goto (t := 71) C dX4_init_96 (by decide) ?_
  refine i_iload_n (q := 72) (i := 0) C dX4_init_71 rfl rfl ?_
  refine i_aload_n (q := 73) (i := 1) C dX4_init_72 rfl rfl ?_
  refine i_get (q := 76) (q0 := 0) C dX4_init_73 rfl fl_X4_35 rfl rfl ?_
  refine i_alen (q := 77) (q0 := 39) (t0 := 4) (v := 4) C dX4_init_76 rfl rfl rfl rfl ?_
  refine i_icmp_ge (q := 80) (t := 99) C dX4_init_77 rfl (by decide) (fun _ => ?_) (fun h => absurd (by decide) h)
  exact i_return C hrt hlk dX4_init_99 ⟨b1, b2, b3, fun i => [a4, a5, a6, a7, a8, a9, a10, a11, a12, a13, a14, a15].getD i 0, rfl⟩
