/-! the constructor of the reference -/
set_option maxRecDepth 100000 in
set_option maxHeartbeats 4000000 in
theorem ci_X5 {l : Launch} {D : va_G} {ca : Nat → ClassId} : CI l D ca yX5_init cX5_init 2 3 100 12 699 5 [.null, .null, .null, .int 0, .null, .null, .int 0, .int 0, .int 0, .int 0, .long 0, .null, .null, .null, .null, .null, .null, .null] (fun q w => ∃ u : Nat → Nat, w = [(q, eO 5 [.ref (u 0), .ref (u 1), .ref (u 2), .int 0, .ref (u 3), .ref (u 4), .int 0, .int 0, .int 0, .int 0, .long 0, .ref (u 5), .ref (u 6), .ref (u 7), .ref (u 8), .ref (u 9), .ref (u 10), .ref (u 11)]), ((u 0), eI (ca 8) 78 (stN 10)), ((u 1), eI (ca 8) 78 (fun _ => 0)), ((u 2), eI (ca 8) 78 (fun _ => 0)), ((u 3), eI (ca 8) 7 (fun _ => 0)), ((u 4), eI (ca 8) 120 (fun _ => 0)), ((u 5), eI (ca 7) 70 (tk ltL 70)), ((u 6), eI (ca 7) 40 (tk moL 40)), ((u 7), eI (ca 7) 20 (tk otL 20)), ((u 8), eI (ca 8) 4 (fun _ => 0)), ((u 9), eI (ca 8) 4 (fun _ => 0)), ((u 10), eI (ca 8) 160 (fun _ => 0)), ((u 11), eI (ca 8) 40 (fun _ => 0))]) := by
  refine ci_of (by decide +kernel) rfl (by decide) (fun q A p e s mi args below meth c C hin hrt hlk => ?_)
  refine i_aload_n (q := 1) (i := 0) C dX5_init_0 rfl rfl ?_
  refine i_obj (q := 4) C dX5_init_1 rfl wo_X5 (Nat.le_of_ble_eq_true rfl) (Nat.le_of_ble_eq_true rfl) ?_
  refine i_aload_n (q := 5) (i := 0) C dX5_init_4 rfl rfl ?_
  refine i_bipush (q := 7) (v := 78) C dX5_init_5 rfl (by decide) ?_
  refine i_newI (q := 9) (N := 78) C dX5_init_7 rfl wa_int (by decide) (by decide) (by decide) (Nat.le_of_ble_eq_true rfl) (Nat.le_of_ble_eq_true rfl) (fun a1 => ?_)
  refine i_ws (ws' := [(q, eO 5 [.null, .null, .null, .int 0, .null, .null, .int 0, .int 0, .int 0, .int 0, .long 0, .null, .null, .null, .null, .null, .null, .null]), (a1, eI (ca 8) 78 (fun _ => 0))]) rfl ?_
  refine i_widen (k := 1) (n := 78) (by decide) (by decide) ?_
  refine i_putF (q := 12) (q0 := 0) (ws' := [(q, eO 5 [.ref a1, .null, .null, .int 0, .null, .null, .int 0, .int 0, .int 0, .int 0, .long 0, .null, .null, .null, .null, .null, .null, .null]), (a1, eI (ca 8) 78 (fun _ => 0))]) C hin dX5_init_9 rfl fl_X5_9 rfl rfl rfl rfl rfl (Nat.le_of_ble_eq_true rfl) rfl ?_
  refine i_aload_n (q := 13) (i := 0) C dX5_init_12 rfl rfl ?_
  refine i_bipush (q := 15) (v := 78) C dX5_init_13 rfl (by decide) ?_
  refine i_newI (q := 17) (N := 78) C dX5_init_15 rfl wa_int (by decide) (by decide) (by decide) (Nat.le_of_ble_eq_true rfl) (Nat.le_of_ble_eq_true rfl) (fun a2 => ?_)
  refine i_ws (ws' := [(q, eO 5 [.ref a1, .null, .null, .int 0, .null, .null, .int 0, .int 0, .int 0, .int 0, .long 0, .null, .null, .null, .null, .null, .null, .null]), (a1, eI (ca 8) 78 (fun _ => 0)), (a2, eI (ca 8) 78 (fun _ => 0))]) rfl ?_
  refine i_widen (k := 2) (n := 156) (by decide) (by decide) ?_
  refine i_putF (q := 20) (q0 := 0) (ws' := [(q, eO 5 [.ref a1, .ref a2, .null, .int 0, .null, .null, .int 0, .int 0, .int 0, .int 0, .long 0, .null, .null, .null, .null, .null, .null, .null]), (a1, eI (ca 8) 78 (fun _ => 0)), (a2, eI (ca 8) 78 (fun _ => 0))]) C hin dX5_init_17 rfl fl_X5_13 rfl rfl rfl rfl rfl (Nat.le_of_ble_eq_true rfl) rfl ?_
  refine i_aload_n (q := 21) (i := 0) C dX5_init_20 rfl rfl ?_
  refine i_bipush (q := 23) (v := 78) C dX5_init_21 rfl (by decide) ?_
  refine i_newI (q := 25) (N := 78) C dX5_init_23 rfl wa_int (by decide) (by decide) (by decide) (Nat.le_of_ble_eq_true rfl) (Nat.le_of_ble_eq_true rfl) (fun a3 => ?_)
  refine i_ws (ws' := [(q, eO 5 [.ref a1, .ref a2, .null, .int 0, .null, .null, .int 0, .int 0, .int 0, .int 0, .long 0, .null, .null, .null, .null, .null, .null, .null]), (a1, eI (ca 8) 78 (fun _ => 0)), (a2, eI (ca 8) 78 (fun _ => 0)), (a3, eI (ca 8) 78 (fun _ => 0))]) rfl ?_
  refine i_widen (k := 3) (n := 234) (by decide) (by decide) ?_
  refine i_putF (q := 28) (q0 := 0) (ws' := [(q, eO 5 [.ref a1, .ref a2, .ref a3, .int 0, .null, .null, .int 0, .int 0, .int 0, .int 0, .long 0, .null, .null, .null, .null, .null, .null, .null]), (a1, eI (ca 8) 78 (fun _ => 0)), (a2, eI (ca 8) 78 (fun _ => 0)), (a3, eI (ca 8) 78 (fun _ => 0))]) C hin dX5_init_25 rfl fl_X5_16 rfl rfl rfl rfl rfl (Nat.le_of_ble_eq_true rfl) rfl ?_
  refine i_aload_n (q := 29) (i := 0) C dX5_init_28 rfl rfl ?_
  refine i_bipush (q := 31) (v := 7) C dX5_init_29 rfl (by decide) ?_
  refine i_newI (q := 33) (N := 7) C dX5_init_31 rfl wa_int (by decide) (by decide) (by decide) (Nat.le_of_ble_eq_true rfl) (Nat.le_of_ble_eq_true rfl) (fun a4 => ?_)
  refine i_ws (ws' := [(q, eO 5 [.ref a1, .ref a2, .ref a3, .int 0, .null, .null, .int 0, .int 0, .int 0, .int 0, .long 0, .null, .null, .null, .null, .null, .null, .null]), (a1, eI (ca 8) 78 (fun _ => 0)), (a2, eI (ca 8) 78 (fun _ => 0)), (a3, eI (ca 8) 78 (fun _ => 0)), (a4, eI (ca 8) 7 (fun _ => 0))]) rfl ?_
  refine i_widen (k := 4) (n := 241) (by decide) (by decide) ?_
  refine i_putF (q := 36) (q0 := 0) (ws' := [(q, eO 5 [.ref a1, .ref a2, .ref a3, .int 0, .ref a4, .null, .int 0, .int 0, .int 0, .int 0, .long 0, .null, .null, .null, .null, .null, .null, .null]), (a1, eI (ca 8) 78 (fun _ => 0)), (a2, eI (ca 8) 78 (fun _ => 0)), (a3, eI (ca 8) 78 (fun _ => 0)), (a4, eI (ca 8) 7 (fun _ => 0))]) C hin dX5_init_33 rfl fl_X5_19 rfl rfl rfl rfl rfl (Nat.le_of_ble_eq_true rfl) rfl ?_
  refine i_aload_n (q := 37) (i := 0) C dX5_init_36 rfl rfl ?_
  refine i_bipush (q := 39) (v := 120) C dX5_init_37 rfl (by decide) ?_
  refine i_newI (q := 41) (N := 120) C dX5_init_39 rfl wa_int (by decide) (by decide) (by decide) (Nat.le_of_ble_eq_true rfl) (Nat.le_of_ble_eq_true rfl) (fun a5 => ?_)
  refine i_ws (ws' := [(q, eO 5 [.ref a1, .ref a2, .ref a3, .int 0, .ref a4, .null, .int 0, .int 0, .int 0, .int 0, .long 0, .null, .null, .null, .null, .null, .null, .null]), (a1, eI (ca 8) 78 (fun _ => 0)), (a2, eI (ca 8) 78 (fun _ => 0)), (a3, eI (ca 8) 78 (fun _ => 0)), (a4, eI (ca 8) 7 (fun _ => 0)), (a5, eI (ca 8) 120 (fun _ => 0))]) rfl ?_
  refine i_widen (k := 5) (n := 361) (by decide) (by decide) ?_
  refine i_putF (q := 44) (q0 := 0) (ws' := [(q, eO 5 [.ref a1, .ref a2, .ref a3, .int 0, .ref a4, .ref a5, .int 0, .int 0, .int 0, .int 0, .long 0, .null, .null, .null, .null, .null, .null, .null]), (a1, eI (ca 8) 78 (fun _ => 0)), (a2, eI (ca 8) 78 (fun _ => 0)), (a3, eI (ca 8) 78 (fun _ => 0)), (a4, eI (ca 8) 7 (fun _ => 0)), (a5, eI (ca 8) 120 (fun _ => 0))]) C hin dX5_init_41 rfl fl_X5_22 rfl rfl rfl rfl rfl (Nat.le_of_ble_eq_true rfl) rfl ?_
  refine i_aload_n (q := 45) (i := 0) C dX5_init_44 rfl rfl ?_
  refine i_bipush (q := 47) (v := 70) C dX5_init_45 rfl (by decide) ?_
  refine i_newC (q := 49) (N := 70) C dX5_init_47 rfl wa_char (by decide) (by decide) (by decide) (Nat.le_of_ble_eq_true rfl) (Nat.le_of_ble_eq_true rfl) (fun a6 => ?_)
  refine i_ws (ws' := [(q, eO 5 [.ref a1, .ref a2, .ref a3, .int 0, .ref a4, .ref a5, .int 0, .int 0, .int 0, .int 0, .long 0, .null, .null, .null, .null, .null, .null, .null]), (a1, eI (ca 8) 78 (fun _ => 0)), (a2, eI (ca 8) 78 (fun _ => 0)), (a3, eI (ca 8) 78 (fun _ => 0)), (a4, eI (ca 8) 7 (fun _ => 0)), (a5, eI (ca 8) 120 (fun _ => 0)), (a6, eI (ca 7) 70 (fun _ => 0))]) rfl ?_
  refine i_widen (k := 6) (n := 431) (by decide) (by decide) ?_
  refine i_dup (q := 50) C dX5_init_49 rfl rfl ?_
  refine i_iconst (q := 51) (v := 0) C dX5_init_50 rfl (by decide) ?_
  refine i_bipush (q := 53) (v := 112) C dX5_init_51 rfl (by decide) ?_
  refine i_cast (q := 54) (q0 := 6) (j := 0) (f' := (tk ltL 1)) (ws' := [(q, eO 5 [.ref a1, .ref a2, .ref a3, .int 0, .ref a4, .ref a5, .int 0, .int 0, .int 0, .int 0, .long 0, .null, .null, .null, .null, .null, .null, .null]), (a1, eI (ca 8) 78 (fun _ => 0)), (a2, eI (ca 8) 78 (fun _ => 0)), (a3, eI (ca 8) 78 (fun _ => 0)), (a4, eI (ca 8) 7 (fun _ => 0)), (a5, eI (ca 8) 120 (fun _ => 0)), (a6, eI (ca 7) 70 (tk ltL 1))]) C dX5_init_53 rfl rfl (ix_nI (k := 0) (by decide) (by decide)) (tkc_0 ltL (by decide +kernel)) rfl ?_
  refine i_dup (q := 55) C dX5_init_54 rfl rfl ?_
  refine i_iconst (q := 56) (v := 1) C dX5_init_55 rfl (by decide) ?_
  refine i_bipush (q := 58) (v := 97) C dX5_init_56 rfl (by decide) ?_
  refine i_cast (q := 59) (q0 := 6) (j := 1) (f' := (tk ltL 2)) (ws' := [(q, eO 5 [.ref a1, .ref a2, .ref a3, .int 0, .ref a4, .ref a5, .int 0, .int 0, .int 0, .int 0, .long 0, .null, .null, .null, .null, .null, .null, .null]), (a1, eI (ca 8) 78 (fun _ => 0)), (a2, eI (ca 8) 78 (fun _ => 0)), (a3, eI (ca 8) 78 (fun _ => 0)), (a4, eI (ca 8) 7 (fun _ => 0)), (a5, eI (ca 8) 120 (fun _ => 0)), (a6, eI (ca 7) 70 (tk ltL 2))]) C dX5_init_58 rfl rfl (ix_nI (k := 1) (by decide) (by decide)) (tkc_s ltL 1 (by decide +kernel)) rfl ?_
  refine i_dup (q := 60) C dX5_init_59 rfl rfl ?_
  refine i_iconst (q := 61) (v := 2) C dX5_init_60 rfl (by decide) ?_
  refine i_bipush (q := 63) (v := 114) C dX5_init_61 rfl (by decide) ?_
  refine i_cast (q := 64) (q0 := 6) (j := 2) (f' := (tk ltL 3)) (ws' := [(q, eO 5 [.ref a1, .ref a2, .ref a3, .int 0, .ref a4, .ref a5, .int 0, .int 0, .int 0, .int 0, .long 0, .null, .null, .null, .null, .null, .null, .null]), (a1, eI (ca 8) 78 (fun _ => 0)), (a2, eI (ca 8) 78 (fun _ => 0)), (a3, eI (ca 8) 78 (fun _ => 0)), (a4, eI (ca 8) 7 (fun _ => 0)), (a5, eI (ca 8) 120 (fun _ => 0)), (a6, eI (ca 7) 70 (tk ltL 3))]) C dX5_init_63 rfl rfl (ix_nI (k := 2) (by decide) (by decide)) (tkc_s ltL 2 (by decide +kernel)) rfl ?_
  refine i_dup (q := 65) C dX5_init_64 rfl rfl ?_
  refine i_iconst (q := 66) (v := 3) C dX5_init_65 rfl (by decide) ?_
  refine i_bipush (q := 68) (v := 99) C dX5_init_66 rfl (by decide) ?_
  refine i_cast (q := 69) (q0 := 6) (j := 3) (f' := (tk ltL 4)) (ws' := [(q, eO 5 [.ref a1, .ref a2, .ref a3, .int 0, .ref a4, .ref a5, .int 0, .int 0, .int 0, .int 0, .long 0, .null, .null, .null, .null, .null, .null, .null]), (a1, eI (ca 8) 78 (fun _ => 0)), (a2, eI (ca 8) 78 (fun _ => 0)), (a3, eI (ca 8) 78 (fun _ => 0)), (a4, eI (ca 8) 7 (fun _ => 0)), (a5, eI (ca 8) 120 (fun _ => 0)), (a6, eI (ca 7) 70 (tk ltL 4))]) C dX5_init_68 rfl rfl (ix_nI (k := 3) (by decide) (by decide)) (tkc_s ltL 3 (by decide +kernel)) rfl ?_
  refine i_dup (q := 70) C dX5_init_69 rfl rfl ?_
  refine i_iconst (q := 71) (v := 4) C dX5_init_70 rfl (by decide) ?_
  refine i_bipush (q := 73) (v := 101) C dX5_init_71 rfl (by decide) ?_
  refine i_cast (q := 74) (q0 := 6) (j := 4) (f' := (tk ltL 5)) (ws' := [(q, eO 5 [.ref a1, .ref a2, .ref a3, .int 0, .ref a4, .ref a5, .int 0, .int 0, .int 0, .int 0, .long 0, .null, .null, .null, .null, .null, .null, .null]), (a1, eI (ca 8) 78 (fun _ => 0)), (a2, eI (ca 8) 78 (fun _ => 0)), (a3, eI (ca 8) 78 (fun _ => 0)), (a4, eI (ca 8) 7 (fun _ => 0)), (a5, eI (ca 8) 120 (fun _ => 0)), (a6, eI (ca 7) 70 (tk ltL 5))]) C dX5_init_73 rfl rfl (ix_nI (k := 4) (by decide) (by decide)) (tkc_s ltL 4 (by decide +kernel)) rfl ?_
  refine i_dup (q := 75) C dX5_init_74 rfl rfl ?_
  refine i_iconst (q := 76) (v := 5) C dX5_init_75 rfl (by decide) ?_
  refine i_bipush (q := 78) (v := 108) C dX5_init_76 rfl (by decide) ?_
  refine i_cast (q := 79) (q0 := 6) (j := 5) (f' := (tk ltL 6)) (ws' := [(q, eO 5 [.ref a1, .ref a2, .ref a3, .int 0, .ref a4, .ref a5, .int 0, .int 0, .int 0, .int 0, .long 0, .null, .null, .null, .null, .null, .null, .null]), (a1, eI (ca 8) 78 (fun _ => 0)), (a2, eI (ca 8) 78 (fun _ => 0)), (a3, eI (ca 8) 78 (fun _ => 0)), (a4, eI (ca 8) 7 (fun _ => 0)), (a5, eI (ca 8) 120 (fun _ => 0)), (a6, eI (ca 7) 70 (tk ltL 6))]) C dX5_init_78 rfl rfl (ix_nI (k := 5) (by decide) (by decide)) (tkc_s ltL 5 (by decide +kernel)) rfl ?_
  refine i_dup (q := 80) C dX5_init_79 rfl rfl ?_
  refine i_bipush (q := 82) (v := 6) C dX5_init_80 rfl (by decide) ?_
  refine i_bipush (q := 84) (v := 32) C dX5_init_82 rfl (by decide) ?_
  refine i_cast (q := 85) (q0 := 6) (j := 6) (f' := (tk ltL 7)) (ws' := [(q, eO 5 [.ref a1, .ref a2, .ref a3, .int 0, .ref a4, .ref a5, .int 0, .int 0, .int 0, .int 0, .long 0, .null, .null, .null, .null, .null, .null, .null]), (a1, eI (ca 8) 78 (fun _ => 0)), (a2, eI (ca 8) 78 (fun _ => 0)), (a3, eI (ca 8) 78 (fun _ => 0)), (a4, eI (ca 8) 7 (fun _ => 0)), (a5, eI (ca 8) 120 (fun _ => 0)), (a6, eI (ca 7) 70 (tk ltL 7))]) C dX5_init_84 rfl rfl (ix_nI (k := 6) (by decide) (by decide)) (tkc_s ltL 6 (by decide +kernel)) rfl ?_
  refine i_dup (q := 86) C dX5_init_85 rfl rfl ?_
  refine i_bipush (q := 88) (v := 7) C dX5_init_86 rfl (by decide) ?_
  refine i_bipush (q := 90) (v := 32) C dX5_init_88 rfl (by decide) ?_
  refine i_cast (q := 91) (q0 := 6) (j := 7) (f' := (tk ltL 8)) (ws' := [(q, eO 5 [.ref a1, .ref a2, .ref a3, .int 0, .ref a4, .ref a5, .int 0, .int 0, .int 0, .int 0, .long 0, .null, .null, .null, .null, .null, .null, .null]), (a1, eI (ca 8) 78 (fun _ => 0)), (a2, eI (ca 8) 78 (fun _ => 0)), (a3, eI (ca 8) 78 (fun _ => 0)), (a4, eI (ca 8) 7 (fun _ => 0)), (a5, eI (ca 8) 120 (fun _ => 0)), (a6, eI (ca 7) 70 (tk ltL 8))]) C dX5_init_90 rfl rfl (ix_nI (k := 7) (by decide) (by decide)) (tkc_s ltL 7 (by decide +kernel)) rfl ?_
  refine i_dup (q := 92) C dX5_init_91 rfl rfl ?_
  refine i_bipush (q := 94) (v := 8) C dX5_init_92 rfl (by decide) ?_
  refine i_bipush (q := 96) (v := 32) C dX5_init_94 rfl (by decide) ?_
  refine i_cast (q := 97) (q0 := 6) (j := 8) (f' := (tk ltL 9)) (ws' := [(q, eO 5 [.ref a1, .ref a2, .ref a3, .int 0, .ref a4, .ref a5, .int 0, .int 0, .int 0, .int 0, .long 0, .null, .null, .null, .null, .null, .null, .null]), (a1, eI (ca 8) 78 (fun _ => 0)), (a2, eI (ca 8) 78 (fun _ => 0)), (a3, eI (ca 8) 78 (fun _ => 0)), (a4, eI (ca 8) 7 (fun _ => 0)), (a5, eI (ca 8) 120 (fun _ => 0)), (a6, eI (ca 7) 70 (tk ltL 9))]) C dX5_init_96 rfl rfl (ix_nI (k := 8) (by decide) (by decide)) (tkc_s ltL 8 (by decide +kernel)) rfl ?_
  refine i_dup (q := 98) C dX5_init_97 rfl rfl ?_
  refine i_bipush (q := 100) (v := 9) C dX5_init_98 rfl (by decide) ?_
  refine i_bipush (q := 102) (v := 32) C dX5_init_100 rfl (by decide) ?_
  refine i_cast (q := 103) (q0 := 6) (j := 9) (f' := (tk ltL 10)) (ws' := [(q, eO 5 [.ref a1, .ref a2, .ref a3, .int 0, .ref a4, .ref a5, .int 0, .int 0, .int 0, .int 0, .long 0, .null, .null, .null, .null, .null, .null, .null]), (a1, eI (ca 8) 78 (fun _ => 0)), (a2, eI (ca 8) 78 (fun _ => 0)), (a3, eI (ca 8) 78 (fun _ => 0)), (a4, eI (ca 8) 7 (fun _ => 0)), (a5, eI (ca 8) 120 (fun _ => 0)), (a6, eI (ca 7) 70 (tk ltL 10))]) C dX5_init_102 rfl rfl (ix_nI (k := 9) (by decide) (by decide)) (tkc_s ltL 9 (by decide +kernel)) rfl ?_
  refine i_dup (q := 104) C dX5_init_103 rfl rfl ?_
  refine i_bipush (q := 106) (v := 10) C dX5_init_104 rfl (by decide) ?_
  refine i_bipush (q := 108) (v := 108) C dX5_init_106 rfl (by decide) ?_
  refine i_cast (q := 109) (q0 := 6) (j := 10) (f' := (tk ltL 11)) (ws' := [(q, eO 5 [.ref a1, .ref a2, .ref a3, .int 0, .ref a4, .ref a5, .int 0, .int 0, .int 0, .int 0, .long 0, .null, .null, .null, .null, .null, .null, .null]), (a1, eI (ca 8) 78 (fun _ => 0)), (a2, eI (ca 8) 78 (fun _ => 0)), (a3, eI (ca 8) 78 (fun _ => 0)), (a4, eI (ca 8) 7 (fun _ => 0)), (a5, eI (ca 8) 120 (fun _ => 0)), (a6, eI (ca 7) 70 (tk ltL 11))]) C dX5_init_108 rfl rfl (ix_nI (k := 10) (by decide) (by decide)) (tkc_s ltL 10 (by decide +kernel)) rfl ?_
  refine i_dup (q := 110) C dX5_init_109 rfl rfl ?_
  refine i_bipush (q := 112) (v := 11) C dX5_init_110 rfl (by decide) ?_
  refine i_bipush (q := 114) (v := 101) C dX5_init_112 rfl (by decide) ?_
  refine i_cast (q := 115) (q0 := 6) (j := 11) (f' := (tk ltL 12)) (ws' := [(q, eO 5 [.ref a1, .ref a2, .ref a3, .int 0, .ref a4, .ref a5, .int 0, .int 0, .int 0, .int 0, .long 0, .null, .null, .null, .null, .null, .null, .null]), (a1, eI (ca 8) 78 (fun _ => 0)), (a2, eI (ca 8) 78 (fun _ => 0)), (a3, eI (ca 8) 78 (fun _ => 0)), (a4, eI (ca 8) 7 (fun _ => 0)), (a5, eI (ca 8) 120 (fun _ => 0)), (a6, eI (ca 7) 70 (tk ltL 12))]) C dX5_init_114 rfl rfl (ix_nI (k := 11) (by decide) (by decide)) (tkc_s ltL 11 (by decide +kernel)) rfl ?_
  refine i_dup (q := 116) C dX5_init_115 rfl rfl ?_
  refine i_bipush (q := 118) (v := 12) C dX5_init_116 rfl (by decide) ?_
  refine i_bipush (q := 120) (v := 116) C dX5_init_118 rfl (by decide) ?_
  refine i_cast (q := 121) (q0 := 6) (j := 12) (f' := (tk ltL 13)) (ws' := [(q, eO 5 [.ref a1, .ref a2, .ref a3, .int 0, .ref a4, .ref a5, .int 0, .int 0, .int 0, .int 0, .long 0, .null, .null, .null, .null, .null, .null, .null]), (a1, eI (ca 8) 78 (fun _ => 0)), (a2, eI (ca 8) 78 (fun _ => 0)), (a3, eI (ca 8) 78 (fun _ => 0)), (a4, eI (ca 8) 7 (fun _ => 0)), (a5, eI (ca 8) 120 (fun _ => 0)), (a6, eI (ca 7) 70 (tk ltL 13))]) C dX5_init_120 rfl rfl (ix_nI (k := 12) (by decide) (by decide)) (tkc_s ltL 12 (by decide +kernel)) rfl ?_
  refine i_dup (q := 122) C dX5_init_121 rfl rfl ?_
  refine i_bipush (q := 124) (v := 13) C dX5_init_122 rfl (by decide) ?_
  refine i_bipush (q := 126) (v := 116) C dX5_init_124 rfl (by decide) ?_
  refine i_cast (q := 127) (q0 := 6) (j := 13) (f' := (tk ltL 14)) (ws' := [(q, eO 5 [.ref a1, .ref a2, .ref a3, .int 0, .ref a4, .ref a5, .int 0, .int 0, .int 0, .int 0, .long 0, .null, .null, .null, .null, .null, .null, .null]), (a1, eI (ca 8) 78 (fun _ => 0)), (a2, eI (ca 8) 78 (fun _ => 0)), (a3, eI (ca 8) 78 (fun _ => 0)), (a4, eI (ca 8) 7 (fun _ => 0)), (a5, eI (ca 8) 120 (fun _ => 0)), (a6, eI (ca 7) 70 (tk ltL 14))]) C dX5_init_126 rfl rfl (ix_nI (k := 13) (by decide) (by decide)) (tkc_s ltL 13 (by decide +kernel)) rfl ?_
  refine i_dup (q := 128) C dX5_init_127 rfl rfl ?_
  refine i_bipush (q := 130) (v := 14) C dX5_init_128 rfl (by decide) ?_
  refine i_bipush (q := 132) (v := 101) C dX5_init_130 rfl (by decide) ?_
  refine i_cast (q := 133) (q0 := 6) (j := 14) (f' := (tk ltL 15)) (ws' := [(q, eO 5 [.ref a1, .ref a2, .ref a3, .int 0, .ref a4, .ref a5, .int 0, .int 0, .int 0, .int 0, .long 0, .null, .null, .null, .null, .null, .null, .null]), (a1, eI (ca 8) 78 (fun _ => 0)), (a2, eI (ca 8) 78 (fun _ => 0)), (a3, eI (ca 8) 78 (fun _ => 0)), (a4, eI (ca 8) 7 (fun _ => 0)), (a5, eI (ca 8) 120 (fun _ => 0)), (a6, eI (ca 7) 70 (tk ltL 15))]) C dX5_init_132 rfl rfl (ix_nI (k := 14) (by decide) (by decide)) (tkc_s ltL 14 (by decide +kernel)) rfl ?_
  refine i_dup (q := 134) C dX5_init_133 rfl rfl ?_
  refine i_bipush (q := 136) (v := 15) C dX5_init_134 rfl (by decide) ?_
  refine i_bipush (q := 138) (v := 114) C dX5_init_136 rfl (by decide) ?_
  refine i_cast (q := 139) (q0 := 6) (j := 15) (f' := (tk ltL 16)) (ws' := [(q, eO 5 [.ref a1, .ref a2, .ref a3, .int 0, .ref a4, .ref a5, .int 0, .int 0, .int 0, .int 0, .long 0, .null, .null, .null, .null, .null, .null, .null]), (a1, eI (ca 8) 78 (fun _ => 0)), (a2, eI (ca 8) 78 (fun _ => 0)), (a3, eI (ca 8) 78 (fun _ => 0)), (a4, eI (ca 8) 7 (fun _ => 0)), (a5, eI (ca 8) 120 (fun _ => 0)), (a6, eI (ca 7) 70 (tk ltL 16))]) C dX5_init_138 rfl rfl (ix_nI (k := 15) (by decide) (by decide)) (tkc_s ltL 15 (by decide +kernel)) rfl ?_
  refine i_dup (q := 140) C dX5_init_139 rfl rfl ?_
  refine i_bipush (q := 142) (v := 16) C dX5_init_140 rfl (by decide) ?_
  refine i_bipush (q := 144) (v := 32) C dX5_init_142 rfl (by decide) ?_
  refine i_cast (q := 145) (q0 := 6) (j := 16) (f' := (tk ltL 17)) (ws' := [(q, eO 5 [.ref a1, .ref a2, .ref a3, .int 0, .ref a4, .ref a5, .int 0, .int 0, .int 0, .int 0, .long 0, .null, .null, .null, .null, .null, .null, .null]), (a1, eI (ca 8) 78 (fun _ => 0)), (a2, eI (ca 8) 78 (fun _ => 0)), (a3, eI (ca 8) 78 (fun _ => 0)), (a4, eI (ca 8) 7 (fun _ => 0)), (a5, eI (ca 8) 120 (fun _ => 0)), (a6, eI (ca 7) 70 (tk ltL 17))]) C dX5_init_144 rfl rfl (ix_nI (k := 16) (by decide) (by decide)) (tkc_s ltL 16 (by decide +kernel)) rfl ?_
  refine i_dup (q := 146) C dX5_init_145 rfl rfl ?_
  refine i_bipush (q := 148) (v := 17) C dX5_init_146 rfl (by decide) ?_
  refine i_bipush (q := 150) (v := 32) C dX5_init_148 rfl (by decide) ?_
  refine i_cast (q := 151) (q0 := 6) (j := 17) (f' := (tk ltL 18)) (ws' := [(q, eO 5 [.ref a1, .ref a2, .ref a3, .int 0, .ref a4, .ref a5, .int 0, .int 0, .int 0, .int 0, .long 0, .null, .null, .null, .null, .null, .null, .null]), (a1, eI (ca 8) 78 (fun _ => 0)), (a2, eI (ca 8) 78 (fun _ => 0)), (a3, eI (ca 8) 78 (fun _ => 0)), (a4, eI (ca 8) 7 (fun _ => 0)), (a5, eI (ca 8) 120 (fun _ => 0)), (a6, eI (ca 7) 70 (tk ltL 18))]) C dX5_init_150 rfl rfl (ix_nI (k := 17) (by decide) (by decide)) (tkc_s ltL 17 (by decide +kernel)) rfl ?_
  refine i_dup (q := 152) C dX5_init_151 rfl rfl ?_
  refine i_bipush (q := 154) (v := 18) C dX5_init_152 rfl (by decide) ?_
  refine i_bipush (q := 156) (v := 32) C dX5_init_154 rfl (by decide) ?_
  refine i_cast (q := 157) (q0 := 6) (j := 18) (f' := (tk ltL 19)) (ws' := [(q, eO 5 [.ref a1, .ref a2, .ref a3, .int 0, .ref a4, .ref a5, .int 0, .int 0, .int 0, .int 0, .long 0, .null, .null, .null, .null, .null, .null, .null]), (a1, eI (ca 8) 78 (fun _ => 0)), (a2, eI (ca 8) 78 (fun _ => 0)), (a3, eI (ca 8) 78 (fun _ => 0)), (a4, eI (ca 8) 7 (fun _ => 0)), (a5, eI (ca 8) 120 (fun _ => 0)), (a6, eI (ca 7) 70 (tk ltL 19))]) C dX5_init_156 rfl rfl (ix_nI (k := 18) (by decide) (by decide)) (tkc_s ltL 18 (by decide +kernel)) rfl ?_
  refine i_dup (q := 158) C dX5_init_157 rfl rfl ?_
  refine i_bipush (q := 160) (v := 19) C dX5_init_158 rfl (by decide) ?_
  refine i_bipush (q := 162) (v := 32) C dX5_init_160 rfl (by decide) ?_
  refine i_cast (q := 163) (q0 := 6) (j := 19) (f' := (tk ltL 20)) (ws' := [(q, eO 5 [.ref a1, .ref a2, .ref a3, .int 0, .ref a4, .ref a5, .int 0, .int 0, .int 0, .int 0, .long 0, .null, .null, .null, .null, .null, .null, .null]), (a1, eI (ca 8) 78 (fun _ => 0)), (a2, eI (ca 8) 78 (fun _ => 0)), (a3, eI (ca 8) 78 (fun _ => 0)), (a4, eI (ca 8) 7 (fun _ => 0)), (a5, eI (ca 8) 120 (fun _ => 0)), (a6, eI (ca 7) 70 (tk ltL 20))]) C dX5_init_162 rfl rfl (ix_nI (k := 19) (by decide) (by decide)) (tkc_s ltL 19 (by decide +kernel)) rfl ?_
  refine i_dup (q := 164) C dX5_init_163 rfl rfl ?_
  refine i_bipush (q := 166) (v := 20) C dX5_init_164 rfl (by decide) ?_
  refine i_bipush (q := 168) (v := 99) C dX5_init_166 rfl (by decide) ?_
  refine i_cast (q := 169) (q0 := 6) (j := 20) (f' := (tk ltL 21)) (ws' := [(q, eO 5 [.ref a1, .ref a2, .ref a3, .int 0, .ref a4, .ref a5, .int 0, .int 0, .int 0, .int 0, .long 0, .null, .null, .null, .null, .null, .null, .null]), (a1, eI (ca 8) 78 (fun _ => 0)), (a2, eI (ca 8) 78 (fun _ => 0)), (a3, eI (ca 8) 78 (fun _ => 0)), (a4, eI (ca 8) 7 (fun _ => 0)), (a5, eI (ca 8) 120 (fun _ => 0)), (a6, eI (ca 7) 70 (tk ltL 21))]) C dX5_init_168 rfl rfl (ix_nI (k := 20) (by decide) (by decide)) (tkc_s ltL 20 (by decide +kernel)) rfl ?_
  refine i_dup (q := 170) C dX5_init_169 rfl rfl ?_
  refine i_bipush (q := 172) (v := 21) C dX5_init_170 rfl (by decide) ?_
  refine i_bipush (q := 174) (v := 114) C dX5_init_172 rfl (by decide) ?_
  refine i_cast (q := 175) (q0 := 6) (j := 21) (f' := (tk ltL 22)) (ws' := [(q, eO 5 [.ref a1, .ref a2, .ref a3, .int 0, .ref a4, .ref a5, .int 0, .int 0, .int 0, .int 0, .long 0, .null, .null, .null, .null, .null, .null, .null]), (a1, eI (ca 8) 78 (fun _ => 0)), (a2, eI (ca 8) 78 (fun _ => 0)), (a3, eI (ca 8) 78 (fun _ => 0)), (a4, eI (ca 8) 7 (fun _ => 0)), (a5, eI (ca 8) 120 (fun _ => 0)), (a6, eI (ca 7) 70 (tk ltL 22))]) C dX5_init_174 rfl rfl (ix_nI (k := 21) (by decide) (by decide)) (tkc_s ltL 21 (by decide +kernel)) rfl ?_
  refine i_dup (q := 176) C dX5_init_175 rfl rfl ?_
  refine i_bipush (q := 178) (v := 22) C dX5_init_176 rfl (by decide) ?_
  refine i_bipush (q := 180) (v := 97) C dX5_init_178 rfl (by decide) ?_
  refine i_cast (q := 181) (q0 := 6) (j := 22) (f' := (tk ltL 23)) (ws' := [(q, eO 5 [.ref a1, .ref a2, .ref a3, .int 0, .ref a4, .ref a5, .int 0, .int 0, .int 0, .int 0, .long 0, .null, .null, .null, .null, .null, .null, .null]), (a1, eI (ca 8) 78 (fun _ => 0)), (a2, eI (ca 8) 78 (fun _ => 0)), (a3, eI (ca 8) 78 (fun _ => 0)), (a4, eI (ca 8) 7 (fun _ => 0)), (a5, eI (ca 8) 120 (fun _ => 0)), (a6, eI (ca 7) 70 (tk ltL 23))]) C dX5_init_180 rfl rfl (ix_nI (k := 22) (by decide) (by decide)) (tkc_s ltL 22 (by decide +kernel)) rfl ?_
  refine i_dup (q := 182) C dX5_init_181 rfl rfl ?_
  refine i_bipush (q := 184) (v := 23) C dX5_init_182 rfl (by decide) ?_
  refine i_bipush (q := 186) (v := 116) C dX5_init_184 rfl (by decide) ?_
  refine i_cast (q := 187) (q0 := 6) (j := 23) (f' := (tk ltL 24)) (ws' := [(q, eO 5 [.ref a1, .ref a2, .ref a3, .int 0, .ref a4, .ref a5, .int 0, .int 0, .int 0, .int 0, .long 0, .null, .null, .null, .null, .null, .null, .null]), (a1, eI (ca 8) 78 (fun _ => 0)), (a2, eI (ca 8) 78 (fun _ => 0)), (a3, eI (ca 8) 78 (fun _ => 0)), (a4, eI (ca 8) 7 (fun _ => 0)), (a5, eI (ca 8) 120 (fun _ => 0)), (a6, eI (ca 7) 70 (tk ltL 24))]) C dX5_init_186 rfl rfl (ix_nI (k := 23) (by decide) (by decide)) (tkc_s ltL 23 (by decide +kernel)) rfl ?_
  refine i_dup (q := 188) C dX5_init_187 rfl rfl ?_
  refine i_bipush (q := 190) (v := 24) C dX5_init_188 rfl (by decide) ?_
  refine i_bipush (q := 192) (v := 101) C dX5_init_190 rfl (by decide) ?_
  refine i_cast (q := 193) (q0 := 6) (j := 24) (f' := (tk ltL 25)) (ws' := [(q, eO 5 [.ref a1, .ref a2, .ref a3, .int 0, .ref a4, .ref a5, .int 0, .int 0, .int 0, .int 0, .long 0, .null, .null, .null, .null, .null, .null, .null]), (a1, eI (ca 8) 78 (fun _ => 0)), (a2, eI (ca 8) 78 (fun _ => 0)), (a3, eI (ca 8) 78 (fun _ => 0)), (a4, eI (ca 8) 7 (fun _ => 0)), (a5, eI (ca 8) 120 (fun _ => 0)), (a6, eI (ca 7) 70 (tk ltL 25))]) C dX5_init_192 rfl rfl (ix_nI (k := 24) (by decide) (by decide)) (tkc_s ltL 24 (by decide +kernel)) rfl ?_
  refine i_dup (q := 194) C dX5_init_193 rfl rfl ?_
  refine i_bipush (q := 196) (v := 25) C dX5_init_194 rfl (by decide) ?_
  refine i_bipush (q := 198) (v := 32) C dX5_init_196 rfl (by decide) ?_
  refine i_cast (q := 199) (q0 := 6) (j := 25) (f' := (tk ltL 26)) (ws' := [(q, eO 5 [.ref a1, .ref a2, .ref a3, .int 0, .ref a4, .ref a5, .int 0, .int 0, .int 0, .int 0, .long 0, .null, .null, .null, .null, .null, .null, .null]), (a1, eI (ca 8) 78 (fun _ => 0)), (a2, eI (ca 8) 78 (fun _ => 0)), (a3, eI (ca 8) 78 (fun _ => 0)), (a4, eI (ca 8) 7 (fun _ => 0)), (a5, eI (ca 8) 120 (fun _ => 0)), (a6, eI (ca 7) 70 (tk ltL 26))]) C dX5_init_198 rfl rfl (ix_nI (k := 25) (by decide) (by decide)) (tkc_s ltL 25 (by decide +kernel)) rfl ?_
  refine i_dup (q := 200) C dX5_init_199 rfl rfl ?_
  refine i_bipush (q := 202) (v := 26) C dX5_init_200 rfl (by decide) ?_
  refine i_bipush (q := 204) (v := 32) C dX5_init_202 rfl (by decide) ?_
  refine i_cast (q := 205) (q0 := 6) (j := 26) (f' := (tk ltL 27)) (ws' := [(q, eO 5 [.ref a1, .ref a2, .ref a3, .int 0, .ref a4, .ref a5, .int 0, .int 0, .int 0, .int 0, .long 0, .null, .null, .null, .null, .null, .null, .null]), (a1, eI (ca 8) 78 (fun _ => 0)), (a2, eI (ca 8) 78 (fun _ => 0)), (a3, eI (ca 8) 78 (fun _ => 0)), (a4, eI (ca 8) 7 (fun _ => 0)), (a5, eI (ca 8) 120 (fun _ => 0)), (a6, eI (ca 7) 70 (tk ltL 27))]) C dX5_init_204 rfl rfl (ix_nI (k := 26) (by decide) (by decide)) (tkc_s ltL 26 (by decide +kernel)) rfl ?_
  refine i_dup (q := 206) C dX5_init_205 rfl rfl ?_
  refine i_bipush (q := 208) (v := 27) C dX5_init_206 rfl (by decide) ?_
  refine i_bipush (q := 210) (v := 32) C dX5_init_208 rfl (by decide) ?_
  refine i_cast (q := 211) (q0 := 6) (j := 27) (f' := (tk ltL 28)) (ws' := [(q, eO 5 [.ref a1, .ref a2, .ref a3, .int 0, .ref a4, .ref a5, .int 0, .int 0, .int 0, .int 0, .long 0, .null, .null, .null, .null, .null, .null, .null]), (a1, eI (ca 8) 78 (fun _ => 0)), (a2, eI (ca 8) 78 (fun _ => 0)), (a3, eI (ca 8) 78 (fun _ => 0)), (a4, eI (ca 8) 7 (fun _ => 0)), (a5, eI (ca 8) 120 (fun _ => 0)), (a6, eI (ca 7) 70 (tk ltL 28))]) C dX5_init_210 rfl rfl (ix_nI (k := 27) (by decide) (by decide)) (tkc_s ltL 27 (by decide +kernel)) rfl ?_
  refine i_dup (q := 212) C dX5_init_211 rfl rfl ?_
  refine i_bipush (q := 214) (v := 28) C dX5_init_212 rfl (by decide) ?_
  refine i_bipush (q := 216) (v := 32) C dX5_init_214 rfl (by decide) ?_
  refine i_cast (q := 217) (q0 := 6) (j := 28) (f' := (tk ltL 29)) (ws' := [(q, eO 5 [.ref a1, .ref a2, .ref a3, .int 0, .ref a4, .ref a5, .int 0, .int 0, .int 0, .int 0, .long 0, .null, .null, .null, .null, .null, .null, .null]), (a1, eI (ca 8) 78 (fun _ => 0)), (a2, eI (ca 8) 78 (fun _ => 0)), (a3, eI (ca 8) 78 (fun _ => 0)), (a4, eI (ca 8) 7 (fun _ => 0)), (a5, eI (ca 8) 120 (fun _ => 0)), (a6, eI (ca 7) 70 (tk ltL 29))]) C dX5_init_216 rfl rfl (ix_nI (k := 28) (by decide) (by decide)) (tkc_s ltL 28 (by decide +kernel)) rfl ?_
  refine i_dup (q := 218) C dX5_init_217 rfl rfl ?_
  refine i_bipush (q := 220) (v := 29) C dX5_init_218 rfl (by decide) ?_
  refine i_bipush (q := 222) (v := 32) C dX5_init_220 rfl (by decide) ?_
  refine i_cast (q := 223) (q0 := 6) (j := 29) (f' := (tk ltL 30)) (ws' := [(q, eO 5 [.ref a1, .ref a2, .ref a3, .int 0, .ref a4, .ref a5, .int 0, .int 0, .int 0, .int 0, .long 0, .null, .null, .null, .null, .null, .null, .null]), (a1, eI (ca 8) 78 (fun _ => 0)), (a2, eI (ca 8) 78 (fun _ => 0)), (a3, eI (ca 8) 78 (fun _ => 0)), (a4, eI (ca 8) 7 (fun _ => 0)), (a5, eI (ca 8) 120 (fun _ => 0)), (a6, eI (ca 7) 70 (tk ltL 30))]) C dX5_init_222 rfl rfl (ix_nI (k := 29) (by decide) (by decide)) (tkc_s ltL 29 (by decide +kernel)) rfl ?_
  refine i_dup (q := 224) C dX5_init_223 rfl rfl ?_
  refine i_bipush (q := 226) (v := 30) C dX5_init_224 rfl (by decide) ?_
  refine i_bipush (q := 228) (v := 99) C dX5_init_226 rfl (by decide) ?_
  refine i_cast (q := 229) (q0 := 6) (j := 30) (f' := (tk ltL 31)) (ws' := [(q, eO 5 [.ref a1, .ref a2, .ref a3, .int 0, .ref a4, .ref a5, .int 0, .int 0, .int 0, .int 0, .long 0, .null, .null, .null, .null, .null, .null, .null]), (a1, eI (ca 8) 78 (fun _ => 0)), (a2, eI (ca 8) 78 (fun _ => 0)), (a3, eI (ca 8) 78 (fun _ => 0)), (a4, eI (ca 8) 7 (fun _ => 0)), (a5, eI (ca 8) 120 (fun _ => 0)), (a6, eI (ca 7) 70 (tk ltL 31))]) C dX5_init_228 rfl rfl (ix_nI (k := 30) (by decide) (by decide)) (tkc_s ltL 30 (by decide +kernel)) rfl ?_
  refine i_dup (q := 230) C dX5_init_229 rfl rfl ?_
  refine i_bipush (q := 232) (v := 31) C dX5_init_230 rfl (by decide) ?_
  refine i_bipush (q := 234) (v := 108) C dX5_init_232 rfl (by decide) ?_
  refine i_cast (q := 235) (q0 := 6) (j := 31) (f' := (tk ltL 32)) (ws' := [(q, eO 5 [.ref a1, .ref a2, .ref a3, .int 0, .ref a4, .ref a5, .int 0, .int 0, .int 0, .int 0, .long 0, .null, .null, .null, .null, .null, .null, .null]), (a1, eI (ca 8) 78 (fun _ => 0)), (a2, eI (ca 8) 78 (fun _ => 0)), (a3, eI (ca 8) 78 (fun _ => 0)), (a4, eI (ca 8) 7 (fun _ => 0)), (a5, eI (ca 8) 120 (fun _ => 0)), (a6, eI (ca 7) 70 (tk ltL 32))]) C dX5_init_234 rfl rfl (ix_nI (k := 31) (by decide) (by decide)) (tkc_s ltL 31 (by decide +kernel)) rfl ?_
  refine i_dup (q := 236) C dX5_init_235 rfl rfl ?_
  refine i_bipush (q := 238) (v := 32) C dX5_init_236 rfl (by decide) ?_
  refine i_bipush (q := 240) (v := 111) C dX5_init_238 rfl (by decide) ?_
  refine i_cast (q := 241) (q0 := 6) (j := 32) (f' := (tk ltL 33)) (ws' := [(q, eO 5 [.ref a1, .ref a2, .ref a3, .int 0, .ref a4, .ref a5, .int 0, .int 0, .int 0, .int 0, .long 0, .null, .null, .null, .null, .null, .null, .null]), (a1, eI (ca 8) 78 (fun _ => 0)), (a2, eI (ca 8) 78 (fun _ => 0)), (a3, eI (ca 8) 78 (fun _ => 0)), (a4, eI (ca 8) 7 (fun _ => 0)), (a5, eI (ca 8) 120 (fun _ => 0)), (a6, eI (ca 7) 70 (tk ltL 33))]) C dX5_init_240 rfl rfl (ix_nI (k := 32) (by decide) (by decide)) (tkc_s ltL 32 (by decide +kernel)) rfl ?_
  refine i_dup (q := 242) C dX5_init_241 rfl rfl ?_
  refine i_bipush (q := 244) (v := 33) C dX5_init_242 rfl (by decide) ?_
  refine i_bipush (q := 246) (v := 99) C dX5_init_244 rfl (by decide) ?_
  refine i_cast (q := 247) (q0 := 6) (j := 33) (f' := (tk ltL 34)) (ws' := [(q, eO 5 [.ref a1, .ref a2, .ref a3, .int 0, .ref a4, .ref a5, .int 0, .int 0, .int 0, .int 0, .long 0, .null, .null, .null, .null, .null, .null, .null]), (a1, eI (ca 8) 78 (fun _ => 0)), (a2, eI (ca 8) 78 (fun _ => 0)), (a3, eI (ca 8) 78 (fun _ => 0)), (a4, eI (ca 8) 7 (fun _ => 0)), (a5, eI (ca 8) 120 (fun _ => 0)), (a6, eI (ca 7) 70 (tk ltL 34))]) C dX5_init_246 rfl rfl (ix_nI (k := 33) (by decide) (by decide)) (tkc_s ltL 33 (by decide +kernel)) rfl ?_
  refine i_dup (q := 248) C dX5_init_247 rfl rfl ?_
  refine i_bipush (q := 250) (v := 34) C dX5_init_248 rfl (by decide) ?_
  refine i_bipush (q := 252) (v := 107) C dX5_init_250 rfl (by decide) ?_
  refine i_cast (q := 253) (q0 := 6) (j := 34) (f' := (tk ltL 35)) (ws' := [(q, eO 5 [.ref a1, .ref a2, .ref a3, .int 0, .ref a4, .ref a5, .int 0, .int 0, .int 0, .int 0, .long 0, .null, .null, .null, .null, .null, .null, .null]), (a1, eI (ca 8) 78 (fun _ => 0)), (a2, eI (ca 8) 78 (fun _ => 0)), (a3, eI (ca 8) 78 (fun _ => 0)), (a4, eI (ca 8) 7 (fun _ => 0)), (a5, eI (ca 8) 120 (fun _ => 0)), (a6, eI (ca 7) 70 (tk ltL 35))]) C dX5_init_252 rfl rfl (ix_nI (k := 34) (by decide) (by decide)) (tkc_s ltL 34 (by decide +kernel)) rfl ?_
  refine i_dup (q := 254) C dX5_init_253 rfl rfl ?_
  refine i_bipush (q := 256) (v := 35) C dX5_init_254 rfl (by decide) ?_
  refine i_bipush (q := 258) (v := 32) C dX5_init_256 rfl (by decide) ?_
  refine i_cast (q := 259) (q0 := 6) (j := 35) (f' := (tk ltL 36)) (ws' := [(q, eO 5 [.ref a1, .ref a2, .ref a3, .int 0, .ref a4, .ref a5, .int 0, .int 0, .int 0, .int 0, .long 0, .null, .null, .null, .null, .null, .null, .null]), (a1, eI (ca 8) 78 (fun _ => 0)), (a2, eI (ca 8) 78 (fun _ => 0)), (a3, eI (ca 8) 78 (fun _ => 0)), (a4, eI (ca 8) 7 (fun _ => 0)), (a5, eI (ca 8) 120 (fun _ => 0)), (a6, eI (ca 7) 70 (tk ltL 36))]) C dX5_init_258 rfl rfl (ix_nI (k := 35) (by decide) (by decide)) (tkc_s ltL 35 (by decide +kernel)) rfl ?_
  refine i_dup (q := 260) C dX5_init_259 rfl rfl ?_
  refine i_bipush (q := 262) (v := 36) C dX5_init_260 rfl (by decide) ?_
  refine i_bipush (q := 264) (v := 32) C dX5_init_262 rfl (by decide) ?_
  refine i_cast (q := 265) (q0 := 6) (j := 36) (f' := (tk ltL 37)) (ws' := [(q, eO 5 [.ref a1, .ref a2, .ref a3, .int 0, .ref a4, .ref a5, .int 0, .int 0, .int 0, .int 0, .long 0, .null, .null, .null, .null, .null, .null, .null]), (a1, eI (ca 8) 78 (fun _ => 0)), (a2, eI (ca 8) 78 (fun _ => 0)), (a3, eI (ca 8) 78 (fun _ => 0)), (a4, eI (ca 8) 7 (fun _ => 0)), (a5, eI (ca 8) 120 (fun _ => 0)), (a6, eI (ca 7) 70 (tk ltL 37))]) C dX5_init_264 rfl rfl (ix_nI (k := 36) (by decide) (by decide)) (tkc_s ltL 36 (by decide +kernel)) rfl ?_
  refine i_dup (q := 266) C dX5_init_265 rfl rfl ?_
  refine i_bipush (q := 268) (v := 37) C dX5_init_266 rfl (by decide) ?_
  refine i_bipush (q := 270) (v := 32) C dX5_init_268 rfl (by decide) ?_
  refine i_cast (q := 271) (q0 := 6) (j := 37) (f' := (tk ltL 38)) (ws' := [(q, eO 5 [.ref a1, .ref a2, .ref a3, .int 0, .ref a4, .ref a5, .int 0, .int 0, .int 0, .int 0, .long 0, .null, .null, .null, .null, .null, .null, .null]), (a1, eI (ca 8) 78 (fun _ => 0)), (a2, eI (ca 8) 78 (fun _ => 0)), (a3, eI (ca 8) 78 (fun _ => 0)), (a4, eI (ca 8) 7 (fun _ => 0)), (a5, eI (ca 8) 120 (fun _ => 0)), (a6, eI (ca 7) 70 (tk ltL 38))]) C dX5_init_270 rfl rfl (ix_nI (k := 37) (by decide) (by decide)) (tkc_s ltL 37 (by decide +kernel)) rfl ?_
  refine i_dup (q := 272) C dX5_init_271 rfl rfl ?_
  refine i_bipush (q := 274) (v := 38) C dX5_init_272 rfl (by decide) ?_
  refine i_bipush (q := 276) (v := 32) C dX5_init_274 rfl (by decide) ?_
  refine i_cast (q := 277) (q0 := 6) (j := 38) (f' := (tk ltL 39)) (ws' := [(q, eO 5 [.ref a1, .ref a2, .ref a3, .int 0, .ref a4, .ref a5, .int 0, .int 0, .int 0, .int 0, .long 0, .null, .null, .null, .null, .null, .null, .null]), (a1, eI (ca 8) 78 (fun _ => 0)), (a2, eI (ca 8) 78 (fun _ => 0)), (a3, eI (ca 8) 78 (fun _ => 0)), (a4, eI (ca 8) 7 (fun _ => 0)), (a5, eI (ca 8) 120 (fun _ => 0)), (a6, eI (ca 7) 70 (tk ltL 39))]) C dX5_init_276 rfl rfl (ix_nI (k := 38) (by decide) (by decide)) (tkc_s ltL 38 (by decide +kernel)) rfl ?_
  refine i_dup (q := 278) C dX5_init_277 rfl rfl ?_
  refine i_bipush (q := 280) (v := 39) C dX5_init_278 rfl (by decide) ?_
  refine i_bipush (q := 282) (v := 32) C dX5_init_280 rfl (by decide) ?_
  refine i_cast (q := 283) (q0 := 6) (j := 39) (f' := (tk ltL 40)) (ws' := [(q, eO 5 [.ref a1, .ref a2, .ref a3, .int 0, .ref a4, .ref a5, .int 0, .int 0, .int 0, .int 0, .long 0, .null, .null, .null, .null, .null, .null, .null]), (a1, eI (ca 8) 78 (fun _ => 0)), (a2, eI (ca 8) 78 (fun _ => 0)), (a3, eI (ca 8) 78 (fun _ => 0)), (a4, eI (ca 8) 7 (fun _ => 0)), (a5, eI (ca 8) 120 (fun _ => 0)), (a6, eI (ca 7) 70 (tk ltL 40))]) C dX5_init_282 rfl rfl (ix_nI (k := 39) (by decide) (by decide)) (tkc_s ltL 39 (by decide +kernel)) rfl ?_
  refine i_dup (q := 284) C dX5_init_283 rfl rfl ?_
  refine i_bipush (q := 286) (v := 40) C dX5_init_284 rfl (by decide) ?_
  refine i_bipush (q := 288) (v := 98) C dX5_init_286 rfl (by decide) ?_
  refine i_cast (q := 289) (q0 := 6) (j := 40) (f' := (tk ltL 41)) (ws' := [(q, eO 5 [.ref a1, .ref a2, .ref a3, .int 0, .ref a4, .ref a5, .int 0, .int 0, .int 0, .int 0, .long 0, .null, .null, .null, .null, .null, .null, .null]), (a1, eI (ca 8) 78 (fun _ => 0)), (a2, eI (ca 8) 78 (fun _ => 0)), (a3, eI (ca 8) 78 (fun _ => 0)), (a4, eI (ca 8) 7 (fun _ => 0)), (a5, eI (ca 8) 120 (fun _ => 0)), (a6, eI (ca 7) 70 (tk ltL 41))]) C dX5_init_288 rfl rfl (ix_nI (k := 40) (by decide) (by decide)) (tkc_s ltL 40 (by decide +kernel)) rfl ?_
  refine i_dup (q := 290) C dX5_init_289 rfl rfl ?_
  refine i_bipush (q := 292) (v := 41) C dX5_init_290 rfl (by decide) ?_
  refine i_bipush (q := 294) (v := 114) C dX5_init_292 rfl (by decide) ?_
  refine i_cast (q := 295) (q0 := 6) (j := 41) (f' := (tk ltL 42)) (ws' := [(q, eO 5 [.ref a1, .ref a2, .ref a3, .int 0, .ref a4, .ref a5, .int 0, .int 0, .int 0, .int 0, .long 0, .null, .null, .null, .null, .null, .null, .null]), (a1, eI (ca 8) 78 (fun _ => 0)), (a2, eI (ca 8) 78 (fun _ => 0)), (a3, eI (ca 8) 78 (fun _ => 0)), (a4, eI (ca 8) 7 (fun _ => 0)), (a5, eI (ca 8) 120 (fun _ => 0)), (a6, eI (ca 7) 70 (tk ltL 42))]) C dX5_init_294 rfl rfl (ix_nI (k := 41) (by decide) (by decide)) (tkc_s ltL 41 (by decide +kernel)) rfl ?_
  refine i_dup (q := 296) C dX5_init_295 rfl rfl ?_
  refine i_bipush (q := 298) (v := 42) C dX5_init_296 rfl (by decide) ?_
  refine i_bipush (q := 300) (v := 105) C dX5_init_298 rfl (by decide) ?_
  refine i_cast (q := 301) (q0 := 6) (j := 42) (f' := (tk ltL 43)) (ws' := [(q, eO 5 [.ref a1, .ref a2, .ref a3, .int 0, .ref a4, .ref a5, .int 0, .int 0, .int 0, .int 0, .long 0, .null, .null, .null, .null, .null, .null, .null]), (a1, eI (ca 8) 78 (fun _ => 0)), (a2, eI (ca 8) 78 (fun _ => 0)), (a3, eI (ca 8) 78 (fun _ => 0)), (a4, eI (ca 8) 7 (fun _ => 0)), (a5, eI (ca 8) 120 (fun _ => 0)), (a6, eI (ca 7) 70 (tk ltL 43))]) C dX5_init_300 rfl rfl (ix_nI (k := 42) (by decide) (by decide)) (tkc_s ltL 42 (by decide +kernel)) rfl ?_
  refine i_dup (q := 302) C dX5_init_301 rfl rfl ?_
  refine i_bipush (q := 304) (v := 43) C dX5_init_302 rfl (by decide) ?_
  refine i_bipush (q := 306) (v := 100) C dX5_init_304 rfl (by decide) ?_
  refine i_cast (q := 307) (q0 := 6) (j := 43) (f' := (tk ltL 44)) (ws' := [(q, eO 5 [.ref a1, .ref a2, .ref a3, .int 0, .ref a4, .ref a5, .int 0, .int 0, .int 0, .int 0, .long 0, .null, .null, .null, .null, .null, .null, .null]), (a1, eI (ca 8) 78 (fun _ => 0)), (a2, eI (ca 8) 78 (fun _ => 0)), (a3, eI (ca 8) 78 (fun _ => 0)), (a4, eI (ca 8) 7 (fun _ => 0)), (a5, eI (ca 8) 120 (fun _ => 0)), (a6, eI (ca 7) 70 (tk ltL 44))]) C dX5_init_306 rfl rfl (ix_nI (k := 43) (by decide) (by decide)) (tkc_s ltL 43 (by decide +kernel)) rfl ?_
  refine i_dup (q := 308) C dX5_init_307 rfl rfl ?_
  refine i_bipush (q := 310) (v := 44) C dX5_init_308 rfl (by decide) ?_
  refine i_bipush (q := 312) (v := 101) C dX5_init_310 rfl (by decide) ?_
  refine i_cast (q := 313) (q0 := 6) (j := 44) (f' := (tk ltL 45)) (ws' := [(q, eO 5 [.ref a1, .ref a2, .ref a3, .int 0, .ref a4, .ref a5, .int 0, .int 0, .int 0, .int 0, .long 0, .null, .null, .null, .null, .null, .null, .null]), (a1, eI (ca 8) 78 (fun _ => 0)), (a2, eI (ca 8) 78 (fun _ => 0)), (a3, eI (ca 8) 78 (fun _ => 0)), (a4, eI (ca 8) 7 (fun _ => 0)), (a5, eI (ca 8) 120 (fun _ => 0)), (a6, eI (ca 7) 70 (tk ltL 45))]) C dX5_init_312 rfl rfl (ix_nI (k := 44) (by decide) (by decide)) (tkc_s ltL 44 (by decide +kernel)) rfl ?_
  refine i_dup (q := 314) C dX5_init_313 rfl rfl ?_
  refine i_bipush (q := 316) (v := 45) C dX5_init_314 rfl (by decide) ?_
  refine i_bipush (q := 318) (v := 32) C dX5_init_316 rfl (by decide) ?_
  refine i_cast (q := 319) (q0 := 6) (j := 45) (f' := (tk ltL 46)) (ws' := [(q, eO 5 [.ref a1, .ref a2, .ref a3, .int 0, .ref a4, .ref a5, .int 0, .int 0, .int 0, .int 0, .long 0, .null, .null, .null, .null, .null, .null, .null]), (a1, eI (ca 8) 78 (fun _ => 0)), (a2, eI (ca 8) 78 (fun _ => 0)), (a3, eI (ca 8) 78 (fun _ => 0)), (a4, eI (ca 8) 7 (fun _ => 0)), (a5, eI (ca 8) 120 (fun _ => 0)), (a6, eI (ca 7) 70 (tk ltL 46))]) C dX5_init_318 rfl rfl (ix_nI (k := 45) (by decide) (by decide)) (tkc_s ltL 45 (by decide +kernel)) rfl ?_
  refine i_dup (q := 320) C dX5_init_319 rfl rfl ?_
  refine i_bipush (q := 322) (v := 46) C dX5_init_320 rfl (by decide) ?_
  refine i_bipush (q := 324) (v := 32) C dX5_init_322 rfl (by decide) ?_
  refine i_cast (q := 325) (q0 := 6) (j := 46) (f' := (tk ltL 47)) (ws' := [(q, eO 5 [.ref a1, .ref a2, .ref a3, .int 0, .ref a4, .ref a5, .int 0, .int 0, .int 0, .int 0, .long 0, .null, .null, .null, .null, .null, .null, .null]), (a1, eI (ca 8) 78 (fun _ => 0)), (a2, eI (ca 8) 78 (fun _ => 0)), (a3, eI (ca 8) 78 (fun _ => 0)), (a4, eI (ca 8) 7 (fun _ => 0)), (a5, eI (ca 8) 120 (fun _ => 0)), (a6, eI (ca 7) 70 (tk ltL 47))]) C dX5_init_324 rfl rfl (ix_nI (k := 46) (by decide) (by decide)) (tkc_s ltL 46 (by decide +kernel)) rfl ?_
  refine i_dup (q := 326) C dX5_init_325 rfl rfl ?_
  refine i_bipush (q := 328) (v := 47) C dX5_init_326 rfl (by decide) ?_
  refine i_bipush (q := 330) (v := 32) C dX5_init_328 rfl (by decide) ?_
  refine i_cast (q := 331) (q0 := 6) (j := 47) (f' := (tk ltL 48)) (ws' := [(q, eO 5 [.ref a1, .ref a2, .ref a3, .int 0, .ref a4, .ref a5, .int 0, .int 0, .int 0, .int 0, .long 0, .null, .null, .null, .null, .null, .null, .null]), (a1, eI (ca 8) 78 (fun _ => 0)), (a2, eI (ca 8) 78 (fun _ => 0)), (a3, eI (ca 8) 78 (fun _ => 0)), (a4, eI (ca 8) 7 (fun _ => 0)), (a5, eI (ca 8) 120 (fun _ => 0)), (a6, eI (ca 7) 70 (tk ltL 48))]) C dX5_init_330 rfl rfl (ix_nI (k := 47) (by decide) (by decide)) (tkc_s ltL 47 (by decide +kernel)) rfl ?_
  refine i_dup (q := 332) C dX5_init_331 rfl rfl ?_
  refine i_bipush (q := 334) (v := 48) C dX5_init_332 rfl (by decide) ?_
  refine i_bipush (q := 336) (v := 32) C dX5_init_334 rfl (by decide) ?_
  refine i_cast (q := 337) (q0 := 6) (j := 48) (f' := (tk ltL 49)) (ws' := [(q, eO 5 [.ref a1, .ref a2, .ref a3, .int 0, .ref a4, .ref a5, .int 0, .int 0, .int 0, .int 0, .long 0, .null, .null, .null, .null, .null, .null, .null]), (a1, eI (ca 8) 78 (fun _ => 0)), (a2, eI (ca 8) 78 (fun _ => 0)), (a3, eI (ca 8) 78 (fun _ => 0)), (a4, eI (ca 8) 7 (fun _ => 0)), (a5, eI (ca 8) 120 (fun _ => 0)), (a6, eI (ca 7) 70 (tk ltL 49))]) C dX5_init_336 rfl rfl (ix_nI (k := 48) (by decide) (by decide)) (tkc_s ltL 48 (by decide +kernel)) rfl ?_
  refine i_dup (q := 338) C dX5_init_337 rfl rfl ?_
  refine i_bipush (q := 340) (v := 49) C dX5_init_338 rfl (by decide) ?_
  refine i_bipush (q := 342) (v := 32) C dX5_init_340 rfl (by decide) ?_
  refine i_cast (q := 343) (q0 := 6) (j := 49) (f' := (tk ltL 50)) (ws' := [(q, eO 5 [.ref a1, .ref a2, .ref a3, .int 0, .ref a4, .ref a5, .int 0, .int 0, .int 0, .int 0, .long 0, .null, .null, .null, .null, .null, .null, .null]), (a1, eI (ca 8) 78 (fun _ => 0)), (a2, eI (ca 8) 78 (fun _ => 0)), (a3, eI (ca 8) 78 (fun _ => 0)), (a4, eI (ca 8) 7 (fun _ => 0)), (a5, eI (ca 8) 120 (fun _ => 0)), (a6, eI (ca 7) 70 (tk ltL 50))]) C dX5_init_342 rfl rfl (ix_nI (k := 49) (by decide) (by decide)) (tkc_s ltL 49 (by decide +kernel)) rfl ?_
  refine i_dup (q := 344) C dX5_init_343 rfl rfl ?_
  refine i_bipush (q := 346) (v := 50) C dX5_init_344 rfl (by decide) ?_
  refine i_bipush (q := 348) (v := 115) C dX5_init_346 rfl (by decide) ?_
  refine i_cast (q := 349) (q0 := 6) (j := 50) (f' := (tk ltL 51)) (ws' := [(q, eO 5 [.ref a1, .ref a2, .ref a3, .int 0, .ref a4, .ref a5, .int 0, .int 0, .int 0, .int 0, .long 0, .null, .null, .null, .null, .null, .null, .null]), (a1, eI (ca 8) 78 (fun _ => 0)), (a2, eI (ca 8) 78 (fun _ => 0)), (a3, eI (ca 8) 78 (fun _ => 0)), (a4, eI (ca 8) 7 (fun _ => 0)), (a5, eI (ca 8) 120 (fun _ => 0)), (a6, eI (ca 7) 70 (tk ltL 51))]) C dX5_init_348 rfl rfl (ix_nI (k := 50) (by decide) (by decide)) (tkc_s ltL 50 (by decide +kernel)) rfl ?_
  refine i_dup (q := 350) C dX5_init_349 rfl rfl ?_
  refine i_bipush (q := 352) (v := 51) C dX5_init_350 rfl (by decide) ?_
  refine i_bipush (q := 354) (v := 111) C dX5_init_352 rfl (by decide) ?_
  refine i_cast (q := 355) (q0 := 6) (j := 51) (f' := (tk ltL 52)) (ws' := [(q, eO 5 [.ref a1, .ref a2, .ref a3, .int 0, .ref a4, .ref a5, .int 0, .int 0, .int 0, .int 0, .long 0, .null, .null, .null, .null, .null, .null, .null]), (a1, eI (ca 8) 78 (fun _ => 0)), (a2, eI (ca 8) 78 (fun _ => 0)), (a3, eI (ca 8) 78 (fun _ => 0)), (a4, eI (ca 8) 7 (fun _ => 0)), (a5, eI (ca 8) 120 (fun _ => 0)), (a6, eI (ca 7) 70 (tk ltL 52))]) C dX5_init_354 rfl rfl (ix_nI (k := 51) (by decide) (by decide)) (tkc_s ltL 51 (by decide +kernel)) rfl ?_
  refine i_dup (q := 356) C dX5_init_355 rfl rfl ?_
  refine i_bipush (q := 358) (v := 52) C dX5_init_356 rfl (by decide) ?_
  refine i_bipush (q := 360) (v := 99) C dX5_init_358 rfl (by decide) ?_
  refine i_cast (q := 361) (q0 := 6) (j := 52) (f' := (tk ltL 53)) (ws' := [(q, eO 5 [.ref a1, .ref a2, .ref a3, .int 0, .ref a4, .ref a5, .int 0, .int 0, .int 0, .int 0, .long 0, .null, .null, .null, .null, .null, .null, .null]), (a1, eI (ca 8) 78 (fun _ => 0)), (a2, eI (ca 8) 78 (fun _ => 0)), (a3, eI (ca 8) 78 (fun _ => 0)), (a4, eI (ca 8) 7 (fun _ => 0)), (a5, eI (ca 8) 120 (fun _ => 0)), (a6, eI (ca 7) 70 (tk ltL 53))]) C dX5_init_360 rfl rfl (ix_nI (k := 52) (by decide) (by decide)) (tkc_s ltL 52 (by decide +kernel)) rfl ?_
  refine i_dup (q := 362) C dX5_init_361 rfl rfl ?_
  refine i_bipush (q := 364) (v := 53) C dX5_init_362 rfl (by decide) ?_
  refine i_bipush (q := 366) (v := 107) C dX5_init_364 rfl (by decide) ?_
  refine i_cast (q := 367) (q0 := 6) (j := 53) (f' := (tk ltL 54)) (ws' := [(q, eO 5 [.ref a1, .ref a2, .ref a3, .int 0, .ref a4, .ref a5, .int 0, .int 0, .int 0, .int 0, .long 0, .null, .null, .null, .null, .null, .null, .null]), (a1, eI (ca 8) 78 (fun _ => 0)), (a2, eI (ca 8) 78 (fun _ => 0)), (a3, eI (ca 8) 78 (fun _ => 0)), (a4, eI (ca 8) 7 (fun _ => 0)), (a5, eI (ca 8) 120 (fun _ => 0)), (a6, eI (ca 7) 70 (tk ltL 54))]) C dX5_init_366 rfl rfl (ix_nI (k := 53) (by decide) (by decide)) (tkc_s ltL 53 (by decide +kernel)) rfl ?_
  refine i_dup (q := 368) C dX5_init_367 rfl rfl ?_
  refine i_bipush (q := 370) (v := 54) C dX5_init_368 rfl (by decide) ?_
  refine i_bipush (q := 372) (v := 115) C dX5_init_370 rfl (by decide) ?_
  refine i_cast (q := 373) (q0 := 6) (j := 54) (f' := (tk ltL 55)) (ws' := [(q, eO 5 [.ref a1, .ref a2, .ref a3, .int 0, .ref a4, .ref a5, .int 0, .int 0, .int 0, .int 0, .long 0, .null, .null, .null, .null, .null, .null, .null]), (a1, eI (ca 8) 78 (fun _ => 0)), (a2, eI (ca 8) 78 (fun _ => 0)), (a3, eI (ca 8) 78 (fun _ => 0)), (a4, eI (ca 8) 7 (fun _ => 0)), (a5, eI (ca 8) 120 (fun _ => 0)), (a6, eI (ca 7) 70 (tk ltL 55))]) C dX5_init_372 rfl rfl (ix_nI (k := 54) (by decide) (by decide)) (tkc_s ltL 54 (by decide +kernel)) rfl ?_
  refine i_dup (q := 374) C dX5_init_373 rfl rfl ?_
  refine i_bipush (q := 376) (v := 55) C dX5_init_374 rfl (by decide) ?_
  refine i_bipush (q := 378) (v := 32) C dX5_init_376 rfl (by decide) ?_
  refine i_cast (q := 379) (q0 := 6) (j := 55) (f' := (tk ltL 56)) (ws' := [(q, eO 5 [.ref a1, .ref a2, .ref a3, .int 0, .ref a4, .ref a5, .int 0, .int 0, .int 0, .int 0, .long 0, .null, .null, .null, .null, .null, .null, .null]), (a1, eI (ca 8) 78 (fun _ => 0)), (a2, eI (ca 8) 78 (fun _ => 0)), (a3, eI (ca 8) 78 (fun _ => 0)), (a4, eI (ca 8) 7 (fun _ => 0)), (a5, eI (ca 8) 120 (fun _ => 0)), (a6, eI (ca 7) 70 (tk ltL 56))]) C dX5_init_378 rfl rfl (ix_nI (k := 55) (by decide) (by decide)) (tkc_s ltL 55 (by decide +kernel)) rfl ?_
  refine i_dup (q := 380) C dX5_init_379 rfl rfl ?_
  refine i_bipush (q := 382) (v := 56) C dX5_init_380 rfl (by decide) ?_
  refine i_bipush (q := 384) (v := 32) C dX5_init_382 rfl (by decide) ?_
  refine i_cast (q := 385) (q0 := 6) (j := 56) (f' := (tk ltL 57)) (ws' := [(q, eO 5 [.ref a1, .ref a2, .ref a3, .int 0, .ref a4, .ref a5, .int 0, .int 0, .int 0, .int 0, .long 0, .null, .null, .null, .null, .null, .null, .null]), (a1, eI (ca 8) 78 (fun _ => 0)), (a2, eI (ca 8) 78 (fun _ => 0)), (a3, eI (ca 8) 78 (fun _ => 0)), (a4, eI (ca 8) 7 (fun _ => 0)), (a5, eI (ca 8) 120 (fun _ => 0)), (a6, eI (ca 7) 70 (tk ltL 57))]) C dX5_init_384 rfl rfl (ix_nI (k := 56) (by decide) (by decide)) (tkc_s ltL 56 (by decide +kernel)) rfl ?_
  refine i_dup (q := 386) C dX5_init_385 rfl rfl ?_
  refine i_bipush (q := 388) (v := 57) C dX5_init_386 rfl (by decide) ?_
  refine i_bipush (q := 390) (v := 32) C dX5_init_388 rfl (by decide) ?_
  refine i_cast (q := 391) (q0 := 6) (j := 57) (f' := (tk ltL 58)) (ws' := [(q, eO 5 [.ref a1, .ref a2, .ref a3, .int 0, .ref a4, .ref a5, .int 0, .int 0, .int 0, .int 0, .long 0, .null, .null, .null, .null, .null, .null, .null]), (a1, eI (ca 8) 78 (fun _ => 0)), (a2, eI (ca 8) 78 (fun _ => 0)), (a3, eI (ca 8) 78 (fun _ => 0)), (a4, eI (ca 8) 7 (fun _ => 0)), (a5, eI (ca 8) 120 (fun _ => 0)), (a6, eI (ca 7) 70 (tk ltL 58))]) C dX5_init_390 rfl rfl (ix_nI (k := 57) (by decide) (by decide)) (tkc_s ltL 57 (by decide +kernel)) rfl ?_
  refine i_dup (q := 392) C dX5_init_391 rfl rfl ?_
  refine i_bipush (q := 394) (v := 58) C dX5_init_392 rfl (by decide) ?_
  refine i_bipush (q := 396) (v := 32) C dX5_init_394 rfl (by decide) ?_
  refine i_cast (q := 397) (q0 := 6) (j := 58) (f' := (tk ltL 59)) (ws' := [(q, eO 5 [.ref a1, .ref a2, .ref a3, .int 0, .ref a4, .ref a5, .int 0, .int 0, .int 0, .int 0, .long 0, .null, .null, .null, .null, .null, .null, .null]), (a1, eI (ca 8) 78 (fun _ => 0)), (a2, eI (ca 8) 78 (fun _ => 0)), (a3, eI (ca 8) 78 (fun _ => 0)), (a4, eI (ca 8) 7 (fun _ => 0)), (a5, eI (ca 8) 120 (fun _ => 0)), (a6, eI (ca 7) 70 (tk ltL 59))]) C dX5_init_396 rfl rfl (ix_nI (k := 58) (by decide) (by decide)) (tkc_s ltL 58 (by decide +kernel)) rfl ?_
  refine i_dup (q := 398) C dX5_init_397 rfl rfl ?_
  refine i_bipush (q := 400) (v := 59) C dX5_init_398 rfl (by decide) ?_
  refine i_bipush (q := 402) (v := 32) C dX5_init_400 rfl (by decide) ?_
  refine i_cast (q := 403) (q0 := 6) (j := 59) (f' := (tk ltL 60)) (ws' := [(q, eO 5 [.ref a1, .ref a2, .ref a3, .int 0, .ref a4, .ref a5, .int 0, .int 0, .int 0, .int 0, .long 0, .null, .null, .null, .null, .null, .null, .null]), (a1, eI (ca 8) 78 (fun _ => 0)), (a2, eI (ca 8) 78 (fun _ => 0)), (a3, eI (ca 8) 78 (fun _ => 0)), (a4, eI (ca 8) 7 (fun _ => 0)), (a5, eI (ca 8) 120 (fun _ => 0)), (a6, eI (ca 7) 70 (tk ltL 60))]) C dX5_init_402 rfl rfl (ix_nI (k := 59) (by decide) (by decide)) (tkc_s ltL 59 (by decide +kernel)) rfl ?_
  refine i_dup (q := 404) C dX5_init_403 rfl rfl ?_
  refine i_bipush (q := 406) (v := 60) C dX5_init_404 rfl (by decide) ?_
  refine i_bipush (q := 408) (v := 114) C dX5_init_406 rfl (by decide) ?_
  refine i_cast (q := 409) (q0 := 6) (j := 60) (f' := (tk ltL 61)) (ws' := [(q, eO 5 [.ref a1, .ref a2, .ref a3, .int 0, .ref a4, .ref a5, .int 0, .int 0, .int 0, .int 0, .long 0, .null, .null, .null, .null, .null, .null, .null]), (a1, eI (ca 8) 78 (fun _ => 0)), (a2, eI (ca 8) 78 (fun _ => 0)), (a3, eI (ca 8) 78 (fun _ => 0)), (a4, eI (ca 8) 7 (fun _ => 0)), (a5, eI (ca 8) 120 (fun _ => 0)), (a6, eI (ca 7) 70 (tk ltL 61))]) C dX5_init_408 rfl rfl (ix_nI (k := 60) (by decide) (by decide)) (tkc_s ltL 60 (by decide +kernel)) rfl ?_
  refine i_dup (q := 410) C dX5_init_409 rfl rfl ?_
  refine i_bipush (q := 412) (v := 61) C dX5_init_410 rfl (by decide) ?_
  refine i_bipush (q := 414) (v := 101) C dX5_init_412 rfl (by decide) ?_
  refine i_cast (q := 415) (q0 := 6) (j := 61) (f' := (tk ltL 62)) (ws' := [(q, eO 5 [.ref a1, .ref a2, .ref a3, .int 0, .ref a4, .ref a5, .int 0, .int 0, .int 0, .int 0, .long 0, .null, .null, .null, .null, .null, .null, .null]), (a1, eI (ca 8) 78 (fun _ => 0)), (a2, eI (ca 8) 78 (fun _ => 0)), (a3, eI (ca 8) 78 (fun _ => 0)), (a4, eI (ca 8) 7 (fun _ => 0)), (a5, eI (ca 8) 120 (fun _ => 0)), (a6, eI (ca 7) 70 (tk ltL 62))]) C dX5_init_414 rfl rfl (ix_nI (k := 61) (by decide) (by decide)) (tkc_s ltL 61 (by decide +kernel)) rfl ?_
  refine i_dup (q := 416) C dX5_init_415 rfl rfl ?_
  refine i_bipush (q := 418) (v := 62) C dX5_init_416 rfl (by decide) ?_
  refine i_bipush (q := 420) (v := 103) C dX5_init_418 rfl (by decide) ?_
  refine i_cast (q := 421) (q0 := 6) (j := 62) (f' := (tk ltL 63)) (ws' := [(q, eO 5 [.ref a1, .ref a2, .ref a3, .int 0, .ref a4, .ref a5, .int 0, .int 0, .int 0, .int 0, .long 0, .null, .null, .null, .null, .null, .null, .null]), (a1, eI (ca 8) 78 (fun _ => 0)), (a2, eI (ca 8) 78 (fun _ => 0)), (a3, eI (ca 8) 78 (fun _ => 0)), (a4, eI (ca 8) 7 (fun _ => 0)), (a5, eI (ca 8) 120 (fun _ => 0)), (a6, eI (ca 7) 70 (tk ltL 63))]) C dX5_init_420 rfl rfl (ix_nI (k := 62) (by decide) (by decide)) (tkc_s ltL 62 (by decide +kernel)) rfl ?_
  refine i_dup (q := 422) C dX5_init_421 rfl rfl ?_
  refine i_bipush (q := 424) (v := 63) C dX5_init_422 rfl (by decide) ?_
  refine i_bipush (q := 426) (v := 105) C dX5_init_424 rfl (by decide) ?_
  refine i_cast (q := 427) (q0 := 6) (j := 63) (f' := (tk ltL 64)) (ws' := [(q, eO 5 [.ref a1, .ref a2, .ref a3, .int 0, .ref a4, .ref a5, .int 0, .int 0, .int 0, .int 0, .long 0, .null, .null, .null, .null, .null, .null, .null]), (a1, eI (ca 8) 78 (fun _ => 0)), (a2, eI (ca 8) 78 (fun _ => 0)), (a3, eI (ca 8) 78 (fun _ => 0)), (a4, eI (ca 8) 7 (fun _ => 0)), (a5, eI (ca 8) 120 (fun _ => 0)), (a6, eI (ca 7) 70 (tk ltL 64))]) C dX5_init_426 rfl rfl (ix_nI (k := 63) (by decide) (by decide)) (tkc_s ltL 63 (by decide +kernel)) rfl ?_
  refine i_dup (q := 428) C dX5_init_427 rfl rfl ?_
  refine i_bipush (q := 430) (v := 64) C dX5_init_428 rfl (by decide) ?_
  refine i_bipush (q := 432) (v := 115) C dX5_init_430 rfl (by decide) ?_
  refine i_cast (q := 433) (q0 := 6) (j := 64) (f' := (tk ltL 65)) (ws' := [(q, eO 5 [.ref a1, .ref a2, .ref a3, .int 0, .ref a4, .ref a5, .int 0, .int 0, .int 0, .int 0, .long 0, .null, .null, .null, .null, .null, .null, .null]), (a1, eI (ca 8) 78 (fun _ => 0)), (a2, eI (ca 8) 78 (fun _ => 0)), (a3, eI (ca 8) 78 (fun _ => 0)), (a4, eI (ca 8) 7 (fun _ => 0)), (a5, eI (ca 8) 120 (fun _ => 0)), (a6, eI (ca 7) 70 (tk ltL 65))]) C dX5_init_432 rfl rfl (ix_nI (k := 64) (by decide) (by decide)) (tkc_s ltL 64 (by decide +kernel)) rfl ?_
  refine i_dup (q := 434) C dX5_init_433 rfl rfl ?_
  refine i_bipush (q := 436) (v := 65) C dX5_init_434 rfl (by decide) ?_
  refine i_bipush (q := 438) (v := 116) C dX5_init_436 rfl (by decide) ?_
  refine i_cast (q := 439) (q0 := 6) (j := 65) (f' := (tk ltL 66)) (ws' := [(q, eO 5 [.ref a1, .ref a2, .ref a3, .int 0, .ref a4, .ref a5, .int 0, .int 0, .int 0, .int 0, .long 0, .null, .null, .null, .null, .null, .null, .null]), (a1, eI (ca 8) 78 (fun _ => 0)), (a2, eI (ca 8) 78 (fun _ => 0)), (a3, eI (ca 8) 78 (fun _ => 0)), (a4, eI (ca 8) 7 (fun _ => 0)), (a5, eI (ca 8) 120 (fun _ => 0)), (a6, eI (ca 7) 70 (tk ltL 66))]) C dX5_init_438 rfl rfl (ix_nI (k := 65) (by decide) (by decide)) (tkc_s ltL 65 (by decide +kernel)) rfl ?_
  refine i_dup (q := 440) C dX5_init_439 rfl rfl ?_
  refine i_bipush (q := 442) (v := 66) C dX5_init_440 rfl (by decide) ?_
  refine i_bipush (q := 444) (v := 101) C dX5_init_442 rfl (by decide) ?_
  refine i_cast (q := 445) (q0 := 6) (j := 66) (f' := (tk ltL 67)) (ws' := [(q, eO 5 [.ref a1, .ref a2, .ref a3, .int 0, .ref a4, .ref a5, .int 0, .int 0, .int 0, .int 0, .long 0, .null, .null, .null, .null, .null, .null, .null]), (a1, eI (ca 8) 78 (fun _ => 0)), (a2, eI (ca 8) 78 (fun _ => 0)), (a3, eI (ca 8) 78 (fun _ => 0)), (a4, eI (ca 8) 7 (fun _ => 0)), (a5, eI (ca 8) 120 (fun _ => 0)), (a6, eI (ca 7) 70 (tk ltL 67))]) C dX5_init_444 rfl rfl (ix_nI (k := 66) (by decide) (by decide)) (tkc_s ltL 66 (by decide +kernel)) rfl ?_
  refine i_dup (q := 446) C dX5_init_445 rfl rfl ?_
  refine i_bipush (q := 448) (v := 67) C dX5_init_446 rfl (by decide) ?_
  refine i_bipush (q := 450) (v := 114) C dX5_init_448 rfl (by decide) ?_
  refine i_cast (q := 451) (q0 := 6) (j := 67) (f' := (tk ltL 68)) (ws' := [(q, eO 5 [.ref a1, .ref a2, .ref a3, .int 0, .ref a4, .ref a5, .int 0, .int 0, .int 0, .int 0, .long 0, .null, .null, .null, .null, .null, .null, .null]), (a1, eI (ca 8) 78 (fun _ => 0)), (a2, eI (ca 8) 78 (fun _ => 0)), (a3, eI (ca 8) 78 (fun _ => 0)), (a4, eI (ca 8) 7 (fun _ => 0)), (a5, eI (ca 8) 120 (fun _ => 0)), (a6, eI (ca 7) 70 (tk ltL 68))]) C dX5_init_450 rfl rfl (ix_nI (k := 67) (by decide) (by decide)) (tkc_s ltL 67 (by decide +kernel)) rfl ?_
  refine i_dup (q := 452) C dX5_init_451 rfl rfl ?_
  refine i_bipush (q := 454) (v := 68) C dX5_init_452 rfl (by decide) ?_
  refine i_bipush (q := 456) (v := 101) C dX5_init_454 rfl (by decide) ?_
  refine i_cast (q := 457) (q0 := 6) (j := 68) (f' := (tk ltL 69)) (ws' := [(q, eO 5 [.ref a1, .ref a2, .ref a3, .int 0, .ref a4, .ref a5, .int 0, .int 0, .int 0, .int 0, .long 0, .null, .null, .null, .null, .null, .null, .null]), (a1, eI (ca 8) 78 (fun _ => 0)), (a2, eI (ca 8) 78 (fun _ => 0)), (a3, eI (ca 8) 78 (fun _ => 0)), (a4, eI (ca 8) 7 (fun _ => 0)), (a5, eI (ca 8) 120 (fun _ => 0)), (a6, eI (ca 7) 70 (tk ltL 69))]) C dX5_init_456 rfl rfl (ix_nI (k := 68) (by decide) (by decide)) (tkc_s ltL 68 (by decide +kernel)) rfl ?_
  refine i_dup (q := 458) C dX5_init_457 rfl rfl ?_
  refine i_bipush (q := 460) (v := 69) C dX5_init_458 rfl (by decide) ?_
  refine i_bipush (q := 462) (v := 100) C dX5_init_460 rfl (by decide) ?_
  refine i_cast (q := 463) (q0 := 6) (j := 69) (f' := (tk ltL 70)) (ws' := [(q, eO 5 [.ref a1, .ref a2, .ref a3, .int 0, .ref a4, .ref a5, .int 0, .int 0, .int 0, .int 0, .long 0, .null, .null, .null, .null, .null, .null, .null]), (a1, eI (ca 8) 78 (fun _ => 0)), (a2, eI (ca 8) 78 (fun _ => 0)), (a3, eI (ca 8) 78 (fun _ => 0)), (a4, eI (ca 8) 7 (fun _ => 0)), (a5, eI (ca 8) 120 (fun _ => 0)), (a6, eI (ca 7) 70 (tk ltL 70))]) C dX5_init_462 rfl rfl (ix_nI (k := 69) (by decide) (by decide)) (tkc_s ltL 69 (by decide +kernel)) rfl ?_
  refine i_putF (q := 466) (q0 := 0) (ws' := [(q, eO 5 [.ref a1, .ref a2, .ref a3, .int 0, .ref a4, .ref a5, .int 0, .int 0, .int 0, .int 0, .long 0, .ref a6, .null, .null, .null, .null, .null, .null]), (a1, eI (ca 8) 78 (fun _ => 0)), (a2, eI (ca 8) 78 (fun _ => 0)), (a3, eI (ca 8) 78 (fun _ => 0)), (a4, eI (ca 8) 7 (fun _ => 0)), (a5, eI (ca 8) 120 (fun _ => 0)), (a6, eI (ca 7) 70 (tk ltL 70))]) C hin dX5_init_463 rfl fl_X5_25 rfl rfl rfl rfl rfl (Nat.le_of_ble_eq_true rfl) rfl ?_
  refine i_aload_n (q := 467) (i := 0) C dX5_init_466 rfl rfl ?_
  refine i_bipush (q := 469) (v := 40) C dX5_init_467 rfl (by decide) ?_
  refine i_newC (q := 471) (N := 40) C dX5_init_469 rfl wa_char (by decide) (by decide) (by decide) (Nat.le_of_ble_eq_true rfl) (Nat.le_of_ble_eq_true rfl) (fun a7 => ?_)
  refine i_ws (ws' := [(q, eO 5 [.ref a1, .ref a2, .ref a3, .int 0, .ref a4, .ref a5, .int 0, .int 0, .int 0, .int 0, .long 0, .ref a6, .null, .null, .null, .null, .null, .null]), (a1, eI (ca 8) 78 (fun _ => 0)), (a2, eI (ca 8) 78 (fun _ => 0)), (a3, eI (ca 8) 78 (fun _ => 0)), (a4, eI (ca 8) 7 (fun _ => 0)), (a5, eI (ca 8) 120 (fun _ => 0)), (a6, eI (ca 7) 70 (tk ltL 70)), (a7, eI (ca 7) 40 (fun _ => 0))]) rfl ?_
  refine i_widen (k := 7) (n := 471) (by decide) (by decide) ?_
  refine i_dup (q := 472) C dX5_init_471 rfl rfl ?_
  refine i_iconst (q := 473) (v := 0) C dX5_init_472 rfl (by decide) ?_
  refine i_bipush (q := 475) (v := 111) C dX5_init_473 rfl (by decide) ?_
  refine i_cast (q := 476) (q0 := 7) (j := 0) (f' := (tk moL 1)) (ws' := [(q, eO 5 [.ref a1, .ref a2, .ref a3, .int 0, .ref a4, .ref a5, .int 0, .int 0, .int 0, .int 0, .long 0, .ref a6, .null, .null, .null, .null, .null, .null]), (a1, eI (ca 8) 78 (fun _ => 0)), (a2, eI (ca 8) 78 (fun _ => 0)), (a3, eI (ca 8) 78 (fun _ => 0)), (a4, eI (ca 8) 7 (fun _ => 0)), (a5, eI (ca 8) 120 (fun _ => 0)), (a6, eI (ca 7) 70 (tk ltL 70)), (a7, eI (ca 7) 40 (tk moL 1))]) C dX5_init_475 rfl rfl (ix_nI (k := 0) (by decide) (by decide)) (tkc_0 moL (by decide +kernel)) rfl ?_
  refine i_dup (q := 477) C dX5_init_476 rfl rfl ?_
  refine i_iconst (q := 478) (v := 1) C dX5_init_477 rfl (by decide) ?_
  refine i_bipush (q := 480) (v := 110) C dX5_init_478 rfl (by decide) ?_
  refine i_cast (q := 481) (q0 := 7) (j := 1) (f' := (tk moL 2)) (ws' := [(q, eO 5 [.ref a1, .ref a2, .ref a3, .int 0, .ref a4, .ref a5, .int 0, .int 0, .int 0, .int 0, .long 0, .ref a6, .null, .null, .null, .null, .null, .null]), (a1, eI (ca 8) 78 (fun _ => 0)), (a2, eI (ca 8) 78 (fun _ => 0)), (a3, eI (ca 8) 78 (fun _ => 0)), (a4, eI (ca 8) 7 (fun _ => 0)), (a5, eI (ca 8) 120 (fun _ => 0)), (a6, eI (ca 7) 70 (tk ltL 70)), (a7, eI (ca 7) 40 (tk moL 2))]) C dX5_init_480 rfl rfl (ix_nI (k := 1) (by decide) (by decide)) (tkc_s moL 1 (by decide +kernel)) rfl ?_
  refine i_dup (q := 482) C dX5_init_481 rfl rfl ?_
  refine i_iconst (q := 483) (v := 2) C dX5_init_482 rfl (by decide) ?_
  refine i_bipush (q := 485) (v := 32) C dX5_init_483 rfl (by decide) ?_
  refine i_cast (q := 486) (q0 := 7) (j := 2) (f' := (tk moL 3)) (ws' := [(q, eO 5 [.ref a1, .ref a2, .ref a3, .int 0, .ref a4, .ref a5, .int 0, .int 0, .int 0, .int 0, .long 0, .ref a6, .null, .null, .null, .null, .null, .null]), (a1, eI (ca 8) 78 (fun _ => 0)), (a2, eI (ca 8) 78 (fun _ => 0)), (a3, eI (ca 8) 78 (fun _ => 0)), (a4, eI (ca 8) 7 (fun _ => 0)), (a5, eI (ca 8) 120 (fun _ => 0)), (a6, eI (ca 7) 70 (tk ltL 70)), (a7, eI (ca 7) 40 (tk moL 3))]) C dX5_init_485 rfl rfl (ix_nI (k := 2) (by decide) (by decide)) (tkc_s moL 2 (by decide +kernel)) rfl ?_
  refine i_dup (q := 487) C dX5_init_486 rfl rfl ?_
  refine i_iconst (q := 488) (v := 3) C dX5_init_487 rfl (by decide) ?_
  refine i_bipush (q := 490) (v := 32) C dX5_init_488 rfl (by decide) ?_
  refine i_cast (q := 491) (q0 := 7) (j := 3) (f' := (tk moL 4)) (ws' := [(q, eO 5 [.ref a1, .ref a2, .ref a3, .int 0, .ref a4, .ref a5, .int 0, .int 0, .int 0, .int 0, .long 0, .ref a6, .null, .null, .null, .null, .null, .null]), (a1, eI (ca 8) 78 (fun _ => 0)), (a2, eI (ca 8) 78 (fun _ => 0)), (a3, eI (ca 8) 78 (fun _ => 0)), (a4, eI (ca 8) 7 (fun _ => 0)), (a5, eI (ca 8) 120 (fun _ => 0)), (a6, eI (ca 7) 70 (tk ltL 70)), (a7, eI (ca 7) 40 (tk moL 4))]) C dX5_init_490 rfl rfl (ix_nI (k := 3) (by decide) (by decide)) (tkc_s moL 3 (by decide +kernel)) rfl ?_
  refine i_dup (q := 492) C dX5_init_491 rfl rfl ?_
  refine i_iconst (q := 493) (v := 4) C dX5_init_492 rfl (by decide) ?_
  refine i_bipush (q := 495) (v := 32) C dX5_init_493 rfl (by decide) ?_
  refine i_cast (q := 496) (q0 := 7) (j := 4) (f' := (tk moL 5)) (ws' := [(q, eO 5 [.ref a1, .ref a2, .ref a3, .int 0, .ref a4, .ref a5, .int 0, .int 0, .int 0, .int 0, .long 0, .ref a6, .null, .null, .null, .null, .null, .null]), (a1, eI (ca 8) 78 (fun _ => 0)), (a2, eI (ca 8) 78 (fun _ => 0)), (a3, eI (ca 8) 78 (fun _ => 0)), (a4, eI (ca 8) 7 (fun _ => 0)), (a5, eI (ca 8) 120 (fun _ => 0)), (a6, eI (ca 7) 70 (tk ltL 70)), (a7, eI (ca 7) 40 (tk moL 5))]) C dX5_init_495 rfl rfl (ix_nI (k := 4) (by decide) (by decide)) (tkc_s moL 4 (by decide +kernel)) rfl ?_
  refine i_dup (q := 497) C dX5_init_496 rfl rfl ?_
  refine i_iconst (q := 498) (v := 5) C dX5_init_497 rfl (by decide) ?_
  refine i_bipush (q := 500) (v := 32) C dX5_init_498 rfl (by decide) ?_
  refine i_cast (q := 501) (q0 := 7) (j := 5) (f' := (tk moL 6)) (ws' := [(q, eO 5 [.ref a1, .ref a2, .ref a3, .int 0, .ref a4, .ref a5, .int 0, .int 0, .int 0, .int 0, .long 0, .ref a6, .null, .null, .null, .null, .null, .null]), (a1, eI (ca 8) 78 (fun _ => 0)), (a2, eI (ca 8) 78 (fun _ => 0)), (a3, eI (ca 8) 78 (fun _ => 0)), (a4, eI (ca 8) 7 (fun _ => 0)), (a5, eI (ca 8) 120 (fun _ => 0)), (a6, eI (ca 7) 70 (tk ltL 70)), (a7, eI (ca 7) 40 (tk moL 6))]) C dX5_init_500 rfl rfl (ix_nI (k := 5) (by decide) (by decide)) (tkc_s moL 5 (by decide +kernel)) rfl ?_
  refine i_dup (q := 502) C dX5_init_501 rfl rfl ?_
  refine i_bipush (q := 504) (v := 6) C dX5_init_502 rfl (by decide) ?_
  refine i_bipush (q := 506) (v := 32) C dX5_init_504 rfl (by decide) ?_
  refine i_cast (q := 507) (q0 := 7) (j := 6) (f' := (tk moL 7)) (ws' := [(q, eO 5 [.ref a1, .ref a2, .ref a3, .int 0, .ref a4, .ref a5, .int 0, .int 0, .int 0, .int 0, .long 0, .ref a6, .null, .null, .null, .null, .null, .null]), (a1, eI (ca 8) 78 (fun _ => 0)), (a2, eI (ca 8) 78 (fun _ => 0)), (a3, eI (ca 8) 78 (fun _ => 0)), (a4, eI (ca 8) 7 (fun _ => 0)), (a5, eI (ca 8) 120 (fun _ => 0)), (a6, eI (ca 7) 70 (tk ltL 70)), (a7, eI (ca 7) 40 (tk moL 7))]) C dX5_init_506 rfl rfl (ix_nI (k := 6) (by decide) (by decide)) (tkc_s moL 6 (by decide +kernel)) rfl ?_
  refine i_dup (q := 508) C dX5_init_507 rfl rfl ?_
  refine i_bipush (q := 510) (v := 7) C dX5_init_508 rfl (by decide) ?_
  refine i_bipush (q := 512) (v := 32) C dX5_init_510 rfl (by decide) ?_
  refine i_cast (q := 513) (q0 := 7) (j := 7) (f' := (tk moL 8)) (ws' := [(q, eO 5 [.ref a1, .ref a2, .ref a3, .int 0, .ref a4, .ref a5, .int 0, .int 0, .int 0, .int 0, .long 0, .ref a6, .null, .null, .null, .null, .null, .null]), (a1, eI (ca 8) 78 (fun _ => 0)), (a2, eI (ca 8) 78 (fun _ => 0)), (a3, eI (ca 8) 78 (fun _ => 0)), (a4, eI (ca 8) 7 (fun _ => 0)), (a5, eI (ca 8) 120 (fun _ => 0)), (a6, eI (ca 7) 70 (tk ltL 70)), (a7, eI (ca 7) 40 (tk moL 8))]) C dX5_init_512 rfl rfl (ix_nI (k := 7) (by decide) (by decide)) (tkc_s moL 7 (by decide +kernel)) rfl ?_
  refine i_dup (q := 514) C dX5_init_513 rfl rfl ?_
  refine i_bipush (q := 516) (v := 8) C dX5_init_514 rfl (by decide) ?_
  refine i_bipush (q := 518) (v := 32) C dX5_init_516 rfl (by decide) ?_
  refine i_cast (q := 519) (q0 := 7) (j := 8) (f' := (tk moL 9)) (ws' := [(q, eO 5 [.ref a1, .ref a2, .ref a3, .int 0, .ref a4, .ref a5, .int 0, .int 0, .int 0, .int 0, .long 0, .ref a6, .null, .null, .null, .null, .null, .null]), (a1, eI (ca 8) 78 (fun _ => 0)), (a2, eI (ca 8) 78 (fun _ => 0)), (a3, eI (ca 8) 78 (fun _ => 0)), (a4, eI (ca 8) 7 (fun _ => 0)), (a5, eI (ca 8) 120 (fun _ => 0)), (a6, eI (ca 7) 70 (tk ltL 70)), (a7, eI (ca 7) 40 (tk moL 9))]) C dX5_init_518 rfl rfl (ix_nI (k := 8) (by decide) (by decide)) (tkc_s moL 8 (by decide +kernel)) rfl ?_
  refine i_dup (q := 520) C dX5_init_519 rfl rfl ?_
  refine i_bipush (q := 522) (v := 9) C dX5_init_520 rfl (by decide) ?_
  refine i_bipush (q := 524) (v := 32) C dX5_init_522 rfl (by decide) ?_
  refine i_cast (q := 525) (q0 := 7) (j := 9) (f' := (tk moL 10)) (ws' := [(q, eO 5 [.ref a1, .ref a2, .ref a3, .int 0, .ref a4, .ref a5, .int 0, .int 0, .int 0, .int 0, .long 0, .ref a6, .null, .null, .null, .null, .null, .null]), (a1, eI (ca 8) 78 (fun _ => 0)), (a2, eI (ca 8) 78 (fun _ => 0)), (a3, eI (ca 8) 78 (fun _ => 0)), (a4, eI (ca 8) 7 (fun _ => 0)), (a5, eI (ca 8) 120 (fun _ => 0)), (a6, eI (ca 7) 70 (tk ltL 70)), (a7, eI (ca 7) 40 (tk moL 10))]) C dX5_init_524 rfl rfl (ix_nI (k := 9) (by decide) (by decide)) (tkc_s moL 9 (by decide +kernel)) rfl ?_
  refine i_dup (q := 526) C dX5_init_525 rfl rfl ?_
  refine i_bipush (q := 528) (v := 10) C dX5_init_526 rfl (by decide) ?_
  refine i_bipush (q := 530) (v := 119) C dX5_init_528 rfl (by decide) ?_
  refine i_cast (q := 531) (q0 := 7) (j := 10) (f' := (tk moL 11)) (ws' := [(q, eO 5 [.ref a1, .ref a2, .ref a3, .int 0, .ref a4, .ref a5, .int 0, .int 0, .int 0, .int 0, .long 0, .ref a6, .null, .null, .null, .null, .null, .null]), (a1, eI (ca 8) 78 (fun _ => 0)), (a2, eI (ca 8) 78 (fun _ => 0)), (a3, eI (ca 8) 78 (fun _ => 0)), (a4, eI (ca 8) 7 (fun _ => 0)), (a5, eI (ca 8) 120 (fun _ => 0)), (a6, eI (ca 7) 70 (tk ltL 70)), (a7, eI (ca 7) 40 (tk moL 11))]) C dX5_init_530 rfl rfl (ix_nI (k := 10) (by decide) (by decide)) (tkc_s moL 10 (by decide +kernel)) rfl ?_
  refine i_dup (q := 532) C dX5_init_531 rfl rfl ?_
  refine i_bipush (q := 534) (v := 11) C dX5_init_532 rfl (by decide) ?_
  refine i_bipush (q := 536) (v := 101) C dX5_init_534 rfl (by decide) ?_
  refine i_cast (q := 537) (q0 := 7) (j := 11) (f' := (tk moL 12)) (ws' := [(q, eO 5 [.ref a1, .ref a2, .ref a3, .int 0, .ref a4, .ref a5, .int 0, .int 0, .int 0, .int 0, .long 0, .ref a6, .null, .null, .null, .null, .null, .null]), (a1, eI (ca 8) 78 (fun _ => 0)), (a2, eI (ca 8) 78 (fun _ => 0)), (a3, eI (ca 8) 78 (fun _ => 0)), (a4, eI (ca 8) 7 (fun _ => 0)), (a5, eI (ca 8) 120 (fun _ => 0)), (a6, eI (ca 7) 70 (tk ltL 70)), (a7, eI (ca 7) 40 (tk moL 12))]) C dX5_init_536 rfl rfl (ix_nI (k := 11) (by decide) (by decide)) (tkc_s moL 11 (by decide +kernel)) rfl ?_
  refine i_dup (q := 538) C dX5_init_537 rfl rfl ?_
  refine i_bipush (q := 540) (v := 12) C dX5_init_538 rfl (by decide) ?_
  refine i_bipush (q := 542) (v := 105) C dX5_init_540 rfl (by decide) ?_
  refine i_cast (q := 543) (q0 := 7) (j := 12) (f' := (tk moL 13)) (ws' := [(q, eO 5 [.ref a1, .ref a2, .ref a3, .int 0, .ref a4, .ref a5, .int 0, .int 0, .int 0, .int 0, .long 0, .ref a6, .null, .null, .null, .null, .null, .null]), (a1, eI (ca 8) 78 (fun _ => 0)), (a2, eI (ca 8) 78 (fun _ => 0)), (a3, eI (ca 8) 78 (fun _ => 0)), (a4, eI (ca 8) 7 (fun _ => 0)), (a5, eI (ca 8) 120 (fun _ => 0)), (a6, eI (ca 7) 70 (tk ltL 70)), (a7, eI (ca 7) 40 (tk moL 13))]) C dX5_init_542 rfl rfl (ix_nI (k := 12) (by decide) (by decide)) (tkc_s moL 12 (by decide +kernel)) rfl ?_
  refine i_dup (q := 544) C dX5_init_543 rfl rfl ?_
  refine i_bipush (q := 546) (v := 13) C dX5_init_544 rfl (by decide) ?_
  refine i_bipush (q := 548) (v := 103) C dX5_init_546 rfl (by decide) ?_
  refine i_cast (q := 549) (q0 := 7) (j := 13) (f' := (tk moL 14)) (ws' := [(q, eO 5 [.ref a1, .ref a2, .ref a3, .int 0, .ref a4, .ref a5, .int 0, .int 0, .int 0, .int 0, .long 0, .ref a6, .null, .null, .null, .null, .null, .null]), (a1, eI (ca 8) 78 (fun _ => 0)), (a2, eI (ca 8) 78 (fun _ => 0)), (a3, eI (ca 8) 78 (fun _ => 0)), (a4, eI (ca 8) 7 (fun _ => 0)), (a5, eI (ca 8) 120 (fun _ => 0)), (a6, eI (ca 7) 70 (tk ltL 70)), (a7, eI (ca 7) 40 (tk moL 14))]) C dX5_init_548 rfl rfl (ix_nI (k := 13) (by decide) (by decide)) (tkc_s moL 13 (by decide +kernel)) rfl ?_
  refine i_dup (q := 550) C dX5_init_549 rfl rfl ?_
  refine i_bipush (q := 552) (v := 14) C dX5_init_550 rfl (by decide) ?_
  refine i_bipush (q := 554) (v := 104) C dX5_init_552 rfl (by decide) ?_
  refine i_cast (q := 555) (q0 := 7) (j := 14) (f' := (tk moL 15)) (ws' := [(q, eO 5 [.ref a1, .ref a2, .ref a3, .int 0, .ref a4, .ref a5, .int 0, .int 0, .int 0, .int 0, .long 0, .ref a6, .null, .null, .null, .null, .null, .null]), (a1, eI (ca 8) 78 (fun _ => 0)), (a2, eI (ca 8) 78 (fun _ => 0)), (a3, eI (ca 8) 78 (fun _ => 0)), (a4, eI (ca 8) 7 (fun _ => 0)), (a5, eI (ca 8) 120 (fun _ => 0)), (a6, eI (ca 7) 70 (tk ltL 70)), (a7, eI (ca 7) 40 (tk moL 15))]) C dX5_init_554 rfl rfl (ix_nI (k := 14) (by decide) (by decide)) (tkc_s moL 14 (by decide +kernel)) rfl ?_
  refine i_dup (q := 556) C dX5_init_555 rfl rfl ?_
  refine i_bipush (q := 558) (v := 15) C dX5_init_556 rfl (by decide) ?_
  refine i_bipush (q := 560) (v := 115) C dX5_init_558 rfl (by decide) ?_
  refine i_cast (q := 561) (q0 := 7) (j := 15) (f' := (tk moL 16)) (ws' := [(q, eO 5 [.ref a1, .ref a2, .ref a3, .int 0, .ref a4, .ref a5, .int 0, .int 0, .int 0, .int 0, .long 0, .ref a6, .null, .null, .null, .null, .null, .null]), (a1, eI (ca 8) 78 (fun _ => 0)), (a2, eI (ca 8) 78 (fun _ => 0)), (a3, eI (ca 8) 78 (fun _ => 0)), (a4, eI (ca 8) 7 (fun _ => 0)), (a5, eI (ca 8) 120 (fun _ => 0)), (a6, eI (ca 7) 70 (tk ltL 70)), (a7, eI (ca 7) 40 (tk moL 16))]) C dX5_init_560 rfl rfl (ix_nI (k := 15) (by decide) (by decide)) (tkc_s moL 15 (by decide +kernel)) rfl ?_
  refine i_dup (q := 562) C dX5_init_561 rfl rfl ?_
  refine i_bipush (q := 564) (v := 16) C dX5_init_562 rfl (by decide) ?_
  refine i_bipush (q := 566) (v := 32) C dX5_init_564 rfl (by decide) ?_
  refine i_cast (q := 567) (q0 := 7) (j := 16) (f' := (tk moL 17)) (ws' := [(q, eO 5 [.ref a1, .ref a2, .ref a3, .int 0, .ref a4, .ref a5, .int 0, .int 0, .int 0, .int 0, .long 0, .ref a6, .null, .null, .null, .null, .null, .null]), (a1, eI (ca 8) 78 (fun _ => 0)), (a2, eI (ca 8) 78 (fun _ => 0)), (a3, eI (ca 8) 78 (fun _ => 0)), (a4, eI (ca 8) 7 (fun _ => 0)), (a5, eI (ca 8) 120 (fun _ => 0)), (a6, eI (ca 7) 70 (tk ltL 70)), (a7, eI (ca 7) 40 (tk moL 17))]) C dX5_init_566 rfl rfl (ix_nI (k := 16) (by decide) (by decide)) (tkc_s moL 16 (by decide +kernel)) rfl ?_
  refine i_dup (q := 568) C dX5_init_567 rfl rfl ?_
  refine i_bipush (q := 570) (v := 17) C dX5_init_568 rfl (by decide) ?_
  refine i_bipush (q := 572) (v := 32) C dX5_init_570 rfl (by decide) ?_
  refine i_cast (q := 573) (q0 := 7) (j := 17) (f' := (tk moL 18)) (ws' := [(q, eO 5 [.ref a1, .ref a2, .ref a3, .int 0, .ref a4, .ref a5, .int 0, .int 0, .int 0, .int 0, .long 0, .ref a6, .null, .null, .null, .null, .null, .null]), (a1, eI (ca 8) 78 (fun _ => 0)), (a2, eI (ca 8) 78 (fun _ => 0)), (a3, eI (ca 8) 78 (fun _ => 0)), (a4, eI (ca 8) 7 (fun _ => 0)), (a5, eI (ca 8) 120 (fun _ => 0)), (a6, eI (ca 7) 70 (tk ltL 70)), (a7, eI (ca 7) 40 (tk moL 18))]) C dX5_init_572 rfl rfl (ix_nI (k := 17) (by decide) (by decide)) (tkc_s moL 17 (by decide +kernel)) rfl ?_
  refine i_dup (q := 574) C dX5_init_573 rfl rfl ?_
  refine i_bipush (q := 576) (v := 18) C dX5_init_574 rfl (by decide) ?_
  refine i_bipush (q := 578) (v := 32) C dX5_init_576 rfl (by decide) ?_
  refine i_cast (q := 579) (q0 := 7) (j := 18) (f' := (tk moL 19)) (ws' := [(q, eO 5 [.ref a1, .ref a2, .ref a3, .int 0, .ref a4, .ref a5, .int 0, .int 0, .int 0, .int 0, .long 0, .ref a6, .null, .null, .null, .null, .null, .null]), (a1, eI (ca 8) 78 (fun _ => 0)), (a2, eI (ca 8) 78 (fun _ => 0)), (a3, eI (ca 8) 78 (fun _ => 0)), (a4, eI (ca 8) 7 (fun _ => 0)), (a5, eI (ca 8) 120 (fun _ => 0)), (a6, eI (ca 7) 70 (tk ltL 70)), (a7, eI (ca 7) 40 (tk moL 19))]) C dX5_init_578 rfl rfl (ix_nI (k := 18) (by decide) (by decide)) (tkc_s moL 18 (by decide +kernel)) rfl ?_
  refine i_dup (q := 580) C dX5_init_579 rfl rfl ?_
  refine i_bipush (q := 582) (v := 19) C dX5_init_580 rfl (by decide) ?_
  refine i_bipush (q := 584) (v := 32) C dX5_init_582 rfl (by decide) ?_
  refine i_cast (q := 585) (q0 := 7) (j := 19) (f' := (tk moL 20)) (ws' := [(q, eO 5 [.ref a1, .ref a2, .ref a3, .int 0, .ref a4, .ref a5, .int 0, .int 0, .int 0, .int 0, .long 0, .ref a6, .null, .null, .null, .null, .null, .null]), (a1, eI (ca 8) 78 (fun _ => 0)), (a2, eI (ca 8) 78 (fun _ => 0)), (a3, eI (ca 8) 78 (fun _ => 0)), (a4, eI (ca 8) 7 (fun _ => 0)), (a5, eI (ca 8) 120 (fun _ => 0)), (a6, eI (ca 7) 70 (tk ltL 70)), (a7, eI (ca 7) 40 (tk moL 20))]) C dX5_init_584 rfl rfl (ix_nI (k := 19) (by decide) (by decide)) (tkc_s moL 19 (by decide +kernel)) rfl ?_
  refine i_dup (q := 586) C dX5_init_585 rfl rfl ?_
  refine i_bipush (q := 588) (v := 20) C dX5_init_586 rfl (by decide) ?_
  refine i_bipush (q := 590) (v := 119) C dX5_init_588 rfl (by decide) ?_
  refine i_cast (q := 591) (q0 := 7) (j := 20) (f' := (tk moL 21)) (ws' := [(q, eO 5 [.ref a1, .ref a2, .ref a3, .int 0, .ref a4, .ref a5, .int 0, .int 0, .int 0, .int 0, .long 0, .ref a6, .null, .null, .null, .null, .null, .null]), (a1, eI (ca 8) 78 (fun _ => 0)), (a2, eI (ca 8) 78 (fun _ => 0)), (a3, eI (ca 8) 78 (fun _ => 0)), (a4, eI (ca 8) 7 (fun _ => 0)), (a5, eI (ca 8) 120 (fun _ => 0)), (a6, eI (ca 7) 70 (tk ltL 70)), (a7, eI (ca 7) 40 (tk moL 21))]) C dX5_init_590 rfl rfl (ix_nI (k := 20) (by decide) (by decide)) (tkc_s moL 20 (by decide +kernel)) rfl ?_
  refine i_dup (q := 592) C dX5_init_591 rfl rfl ?_
  refine i_bipush (q := 594) (v := 21) C dX5_init_592 rfl (by decide) ?_
  refine i_bipush (q := 596) (v := 97) C dX5_init_594 rfl (by decide) ?_
  refine i_cast (q := 597) (q0 := 7) (j := 21) (f' := (tk moL 22)) (ws' := [(q, eO 5 [.ref a1, .ref a2, .ref a3, .int 0, .ref a4, .ref a5, .int 0, .int 0, .int 0, .int 0, .long 0, .ref a6, .null, .null, .null, .null, .null, .null]), (a1, eI (ca 8) 78 (fun _ => 0)), (a2, eI (ca 8) 78 (fun _ => 0)), (a3, eI (ca 8) 78 (fun _ => 0)), (a4, eI (ca 8) 7 (fun _ => 0)), (a5, eI (ca 8) 120 (fun _ => 0)), (a6, eI (ca 7) 70 (tk ltL 70)), (a7, eI (ca 7) 40 (tk moL 22))]) C dX5_init_596 rfl rfl (ix_nI (k := 21) (by decide) (by decide)) (tkc_s moL 21 (by decide +kernel)) rfl ?_
  refine i_dup (q := 598) C dX5_init_597 rfl rfl ?_
  refine i_bipush (q := 600) (v := 22) C dX5_init_598 rfl (by decide) ?_
  refine i_bipush (q := 602) (v := 105) C dX5_init_600 rfl (by decide) ?_
  refine i_cast (q := 603) (q0 := 7) (j := 22) (f' := (tk moL 23)) (ws' := [(q, eO 5 [.ref a1, .ref a2, .ref a3, .int 0, .ref a4, .ref a5, .int 0, .int 0, .int 0, .int 0, .long 0, .ref a6, .null, .null, .null, .null, .null, .null]), (a1, eI (ca 8) 78 (fun _ => 0)), (a2, eI (ca 8) 78 (fun _ => 0)), (a3, eI (ca 8) 78 (fun _ => 0)), (a4, eI (ca 8) 7 (fun _ => 0)), (a5, eI (ca 8) 120 (fun _ => 0)), (a6, eI (ca 7) 70 (tk ltL 70)), (a7, eI (ca 7) 40 (tk moL 23))]) C dX5_init_602 rfl rfl (ix_nI (k := 22) (by decide) (by decide)) (tkc_s moL 22 (by decide +kernel)) rfl ?_
  refine i_dup (q := 604) C dX5_init_603 rfl rfl ?_
  refine i_bipush (q := 606) (v := 23) C dX5_init_604 rfl (by decide) ?_
  refine i_bipush (q := 608) (v := 116) C dX5_init_606 rfl (by decide) ?_
  refine i_cast (q := 609) (q0 := 7) (j := 23) (f' := (tk moL 24)) (ws' := [(q, eO 5 [.ref a1, .ref a2, .ref a3, .int 0, .ref a4, .ref a5, .int 0, .int 0, .int 0, .int 0, .long 0, .ref a6, .null, .null, .null, .null, .null, .null]), (a1, eI (ca 8) 78 (fun _ => 0)), (a2, eI (ca 8) 78 (fun _ => 0)), (a3, eI (ca 8) 78 (fun _ => 0)), (a4, eI (ca 8) 7 (fun _ => 0)), (a5, eI (ca 8) 120 (fun _ => 0)), (a6, eI (ca 7) 70 (tk ltL 70)), (a7, eI (ca 7) 40 (tk moL 24))]) C dX5_init_608 rfl rfl (ix_nI (k := 23) (by decide) (by decide)) (tkc_s moL 23 (by decide +kernel)) rfl ?_
  refine i_dup (q := 610) C dX5_init_609 rfl rfl ?_
  refine i_bipush (q := 612) (v := 24) C dX5_init_610 rfl (by decide) ?_
  refine i_bipush (q := 614) (v := 115) C dX5_init_612 rfl (by decide) ?_
  refine i_cast (q := 615) (q0 := 7) (j := 24) (f' := (tk moL 25)) (ws' := [(q, eO 5 [.ref a1, .ref a2, .ref a3, .int 0, .ref a4, .ref a5, .int 0, .int 0, .int 0, .int 0, .long 0, .ref a6, .null, .null, .null, .null, .null, .null]), (a1, eI (ca 8) 78 (fun _ => 0)), (a2, eI (ca 8) 78 (fun _ => 0)), (a3, eI (ca 8) 78 (fun _ => 0)), (a4, eI (ca 8) 7 (fun _ => 0)), (a5, eI (ca 8) 120 (fun _ => 0)), (a6, eI (ca 7) 70 (tk ltL 70)), (a7, eI (ca 7) 40 (tk moL 25))]) C dX5_init_614 rfl rfl (ix_nI (k := 24) (by decide) (by decide)) (tkc_s moL 24 (by decide +kernel)) rfl ?_
  refine i_dup (q := 616) C dX5_init_615 rfl rfl ?_
  refine i_bipush (q := 618) (v := 25) C dX5_init_616 rfl (by decide) ?_
  refine i_bipush (q := 620) (v := 32) C dX5_init_618 rfl (by decide) ?_
  refine i_cast (q := 621) (q0 := 7) (j := 25) (f' := (tk moL 26)) (ws' := [(q, eO 5 [.ref a1, .ref a2, .ref a3, .int 0, .ref a4, .ref a5, .int 0, .int 0, .int 0, .int 0, .long 0, .ref a6, .null, .null, .null, .null, .null, .null]), (a1, eI (ca 8) 78 (fun _ => 0)), (a2, eI (ca 8) 78 (fun _ => 0)), (a3, eI (ca 8) 78 (fun _ => 0)), (a4, eI (ca 8) 7 (fun _ => 0)), (a5, eI (ca 8) 120 (fun _ => 0)), (a6, eI (ca 7) 70 (tk ltL 70)), (a7, eI (ca 7) 40 (tk moL 26))]) C dX5_init_620 rfl rfl (ix_nI (k := 25) (by decide) (by decide)) (tkc_s moL 25 (by decide +kernel)) rfl ?_
  refine i_dup (q := 622) C dX5_init_621 rfl rfl ?_
  refine i_bipush (q := 624) (v := 26) C dX5_init_622 rfl (by decide) ?_
  refine i_bipush (q := 626) (v := 32) C dX5_init_624 rfl (by decide) ?_
  refine i_cast (q := 627) (q0 := 7) (j := 26) (f' := (tk moL 27)) (ws' := [(q, eO 5 [.ref a1, .ref a2, .ref a3, .int 0, .ref a4, .ref a5, .int 0, .int 0, .int 0, .int 0, .long 0, .ref a6, .null, .null, .null, .null, .null, .null]), (a1, eI (ca 8) 78 (fun _ => 0)), (a2, eI (ca 8) 78 (fun _ => 0)), (a3, eI (ca 8) 78 (fun _ => 0)), (a4, eI (ca 8) 7 (fun _ => 0)), (a5, eI (ca 8) 120 (fun _ => 0)), (a6, eI (ca 7) 70 (tk ltL 70)), (a7, eI (ca 7) 40 (tk moL 27))]) C dX5_init_626 rfl rfl (ix_nI (k := 26) (by decide) (by decide)) (tkc_s moL 26 (by decide +kernel)) rfl ?_
  refine i_dup (q := 628) C dX5_init_627 rfl rfl ?_
  refine i_bipush (q := 630) (v := 27) C dX5_init_628 rfl (by decide) ?_
  refine i_bipush (q := 632) (v := 32) C dX5_init_630 rfl (by decide) ?_
  refine i_cast (q := 633) (q0 := 7) (j := 27) (f' := (tk moL 28)) (ws' := [(q, eO 5 [.ref a1, .ref a2, .ref a3, .int 0, .ref a4, .ref a5, .int 0, .int 0, .int 0, .int 0, .long 0, .ref a6, .null, .null, .null, .null, .null, .null]), (a1, eI (ca 8) 78 (fun _ => 0)), (a2, eI (ca 8) 78 (fun _ => 0)), (a3, eI (ca 8) 78 (fun _ => 0)), (a4, eI (ca 8) 7 (fun _ => 0)), (a5, eI (ca 8) 120 (fun _ => 0)), (a6, eI (ca 7) 70 (tk ltL 70)), (a7, eI (ca 7) 40 (tk moL 28))]) C dX5_init_632 rfl rfl (ix_nI (k := 27) (by decide) (by decide)) (tkc_s moL 27 (by decide +kernel)) rfl ?_
  refine i_dup (q := 634) C dX5_init_633 rfl rfl ?_
  refine i_bipush (q := 636) (v := 28) C dX5_init_634 rfl (by decide) ?_
  refine i_bipush (q := 638) (v := 32) C dX5_init_636 rfl (by decide) ?_
  refine i_cast (q := 639) (q0 := 7) (j := 28) (f' := (tk moL 29)) (ws' := [(q, eO 5 [.ref a1, .ref a2, .ref a3, .int 0, .ref a4, .ref a5, .int 0, .int 0, .int 0, .int 0, .long 0, .ref a6, .null, .null, .null, .null, .null, .null]), (a1, eI (ca 8) 78 (fun _ => 0)), (a2, eI (ca 8) 78 (fun _ => 0)), (a3, eI (ca 8) 78 (fun _ => 0)), (a4, eI (ca 8) 7 (fun _ => 0)), (a5, eI (ca 8) 120 (fun _ => 0)), (a6, eI (ca 7) 70 (tk ltL 70)), (a7, eI (ca 7) 40 (tk moL 29))]) C dX5_init_638 rfl rfl (ix_nI (k := 28) (by decide) (by decide)) (tkc_s moL 28 (by decide +kernel)) rfl ?_
  refine i_dup (q := 640) C dX5_init_639 rfl rfl ?_
  refine i_bipush (q := 642) (v := 29) C dX5_init_640 rfl (by decide) ?_
  refine i_bipush (q := 644) (v := 32) C dX5_init_642 rfl (by decide) ?_
  refine i_cast (q := 645) (q0 := 7) (j := 29) (f' := (tk moL 30)) (ws' := [(q, eO 5 [.ref a1, .ref a2, .ref a3, .int 0, .ref a4, .ref a5, .int 0, .int 0, .int 0, .int 0, .long 0, .ref a6, .null, .null, .null, .null, .null, .null]), (a1, eI (ca 8) 78 (fun _ => 0)), (a2, eI (ca 8) 78 (fun _ => 0)), (a3, eI (ca 8) 78 (fun _ => 0)), (a4, eI (ca 8) 7 (fun _ => 0)), (a5, eI (ca 8) 120 (fun _ => 0)), (a6, eI (ca 7) 70 (tk ltL 70)), (a7, eI (ca 7) 40 (tk moL 30))]) C dX5_init_644 rfl rfl (ix_nI (k := 29) (by decide) (by decide)) (tkc_s moL 29 (by decide +kernel)) rfl ?_
  refine i_dup (q := 646) C dX5_init_645 rfl rfl ?_
  refine i_bipush (q := 648) (v := 30) C dX5_init_646 rfl (by decide) ?_
  refine i_bipush (q := 650) (v := 104) C dX5_init_648 rfl (by decide) ?_
  refine i_cast (q := 651) (q0 := 7) (j := 30) (f' := (tk moL 31)) (ws' := [(q, eO 5 [.ref a1, .ref a2, .ref a3, .int 0, .ref a4, .ref a5, .int 0, .int 0, .int 0, .int 0, .long 0, .ref a6, .null, .null, .null, .null, .null, .null]), (a1, eI (ca 8) 78 (fun _ => 0)), (a2, eI (ca 8) 78 (fun _ => 0)), (a3, eI (ca 8) 78 (fun _ => 0)), (a4, eI (ca 8) 7 (fun _ => 0)), (a5, eI (ca 8) 120 (fun _ => 0)), (a6, eI (ca 7) 70 (tk ltL 70)), (a7, eI (ca 7) 40 (tk moL 31))]) C dX5_init_650 rfl rfl (ix_nI (k := 30) (by decide) (by decide)) (tkc_s moL 30 (by decide +kernel)) rfl ?_
  refine i_dup (q := 652) C dX5_init_651 rfl rfl ?_
  refine i_bipush (q := 654) (v := 31) C dX5_init_652 rfl (by decide) ?_
  refine i_bipush (q := 656) (v := 101) C dX5_init_654 rfl (by decide) ?_
  refine i_cast (q := 657) (q0 := 7) (j := 31) (f' := (tk moL 32)) (ws' := [(q, eO 5 [.ref a1, .ref a2, .ref a3, .int 0, .ref a4, .ref a5, .int 0, .int 0, .int 0, .int 0, .long 0, .ref a6, .null, .null, .null, .null, .null, .null]), (a1, eI (ca 8) 78 (fun _ => 0)), (a2, eI (ca 8) 78 (fun _ => 0)), (a3, eI (ca 8) 78 (fun _ => 0)), (a4, eI (ca 8) 7 (fun _ => 0)), (a5, eI (ca 8) 120 (fun _ => 0)), (a6, eI (ca 7) 70 (tk ltL 70)), (a7, eI (ca 7) 40 (tk moL 32))]) C dX5_init_656 rfl rfl (ix_nI (k := 31) (by decide) (by decide)) (tkc_s moL 31 (by decide +kernel)) rfl ?_
  refine i_dup (q := 658) C dX5_init_657 rfl rfl ?_
  refine i_bipush (q := 660) (v := 32) C dX5_init_658 rfl (by decide) ?_
  refine i_bipush (q := 662) (v := 108) C dX5_init_660 rfl (by decide) ?_
  refine i_cast (q := 663) (q0 := 7) (j := 32) (f' := (tk moL 33)) (ws' := [(q, eO 5 [.ref a1, .ref a2, .ref a3, .int 0, .ref a4, .ref a5, .int 0, .int 0, .int 0, .int 0, .long 0, .ref a6, .null, .null, .null, .null, .null, .null]), (a1, eI (ca 8) 78 (fun _ => 0)), (a2, eI (ca 8) 78 (fun _ => 0)), (a3, eI (ca 8) 78 (fun _ => 0)), (a4, eI (ca 8) 7 (fun _ => 0)), (a5, eI (ca 8) 120 (fun _ => 0)), (a6, eI (ca 7) 70 (tk ltL 70)), (a7, eI (ca 7) 40 (tk moL 33))]) C dX5_init_662 rfl rfl (ix_nI (k := 32) (by decide) (by decide)) (tkc_s moL 32 (by decide +kernel)) rfl ?_
  refine i_dup (q := 664) C dX5_init_663 rfl rfl ?_
  refine i_bipush (q := 666) (v := 33) C dX5_init_664 rfl (by decide) ?_
  refine i_bipush (q := 668) (v := 100) C dX5_init_666 rfl (by decide) ?_
  refine i_cast (q := 669) (q0 := 7) (j := 33) (f' := (tk moL 34)) (ws' := [(q, eO 5 [.ref a1, .ref a2, .ref a3, .int 0, .ref a4, .ref a5, .int 0, .int 0, .int 0, .int 0, .long 0, .ref a6, .null, .null, .null, .null, .null, .null]), (a1, eI (ca 8) 78 (fun _ => 0)), (a2, eI (ca 8) 78 (fun _ => 0)), (a3, eI (ca 8) 78 (fun _ => 0)), (a4, eI (ca 8) 7 (fun _ => 0)), (a5, eI (ca 8) 120 (fun _ => 0)), (a6, eI (ca 7) 70 (tk ltL 70)), (a7, eI (ca 7) 40 (tk moL 34))]) C dX5_init_668 rfl rfl (ix_nI (k := 33) (by decide) (by decide)) (tkc_s moL 33 (by decide +kernel)) rfl ?_
  refine i_dup (q := 670) C dX5_init_669 rfl rfl ?_
  refine i_bipush (q := 672) (v := 34) C dX5_init_670 rfl (by decide) ?_
  refine i_bipush (q := 674) (v := 32) C dX5_init_672 rfl (by decide) ?_
  refine i_cast (q := 675) (q0 := 7) (j := 34) (f' := (tk moL 35)) (ws' := [(q, eO 5 [.ref a1, .ref a2, .ref a3, .int 0, .ref a4, .ref a5, .int 0, .int 0, .int 0, .int 0, .long 0, .ref a6, .null, .null, .null, .null, .null, .null]), (a1, eI (ca 8) 78 (fun _ => 0)), (a2, eI (ca 8) 78 (fun _ => 0)), (a3, eI (ca 8) 78 (fun _ => 0)), (a4, eI (ca 8) 7 (fun _ => 0)), (a5, eI (ca 8) 120 (fun _ => 0)), (a6, eI (ca 7) 70 (tk ltL 70)), (a7, eI (ca 7) 40 (tk moL 35))]) C dX5_init_674 rfl rfl (ix_nI (k := 34) (by decide) (by decide)) (tkc_s moL 34 (by decide +kernel)) rfl ?_
  refine i_dup (q := 676) C dX5_init_675 rfl rfl ?_
  refine i_bipush (q := 678) (v := 35) C dX5_init_676 rfl (by decide) ?_
  refine i_bipush (q := 680) (v := 32) C dX5_init_678 rfl (by decide) ?_
  refine i_cast (q := 681) (q0 := 7) (j := 35) (f' := (tk moL 36)) (ws' := [(q, eO 5 [.ref a1, .ref a2, .ref a3, .int 0, .ref a4, .ref a5, .int 0, .int 0, .int 0, .int 0, .long 0, .ref a6, .null, .null, .null, .null, .null, .null]), (a1, eI (ca 8) 78 (fun _ => 0)), (a2, eI (ca 8) 78 (fun _ => 0)), (a3, eI (ca 8) 78 (fun _ => 0)), (a4, eI (ca 8) 7 (fun _ => 0)), (a5, eI (ca 8) 120 (fun _ => 0)), (a6, eI (ca 7) 70 (tk ltL 70)), (a7, eI (ca 7) 40 (tk moL 36))]) C dX5_init_680 rfl rfl (ix_nI (k := 35) (by decide) (by decide)) (tkc_s moL 35 (by decide +kernel)) rfl ?_
  refine i_dup (q := 682) C dX5_init_681 rfl rfl ?_
  refine i_bipush (q := 684) (v := 36) C dX5_init_682 rfl (by decide) ?_
  refine i_bipush (q := 686) (v := 32) C dX5_init_684 rfl (by decide) ?_
  refine i_cast (q := 687) (q0 := 7) (j := 36) (f' := (tk moL 37)) (ws' := [(q, eO 5 [.ref a1, .ref a2, .ref a3, .int 0, .ref a4, .ref a5, .int 0, .int 0, .int 0, .int 0, .long 0, .ref a6, .null, .null, .null, .null, .null, .null]), (a1, eI (ca 8) 78 (fun _ => 0)), (a2, eI (ca 8) 78 (fun _ => 0)), (a3, eI (ca 8) 78 (fun _ => 0)), (a4, eI (ca 8) 7 (fun _ => 0)), (a5, eI (ca 8) 120 (fun _ => 0)), (a6, eI (ca 7) 70 (tk ltL 70)), (a7, eI (ca 7) 40 (tk moL 37))]) C dX5_init_686 rfl rfl (ix_nI (k := 36) (by decide) (by decide)) (tkc_s moL 36 (by decide +kernel)) rfl ?_
  refine i_dup (q := 688) C dX5_init_687 rfl rfl ?_
  refine i_bipush (q := 690) (v := 37) C dX5_init_688 rfl (by decide) ?_
  refine i_bipush (q := 692) (v := 32) C dX5_init_690 rfl (by decide) ?_
  refine i_cast (q := 693) (q0 := 7) (j := 37) (f' := (tk moL 38)) (ws' := [(q, eO 5 [.ref a1, .ref a2, .ref a3, .int 0, .ref a4, .ref a5, .int 0, .int 0, .int 0, .int 0, .long 0, .ref a6, .null, .null, .null, .null, .null, .null]), (a1, eI (ca 8) 78 (fun _ => 0)), (a2, eI (ca 8) 78 (fun _ => 0)), (a3, eI (ca 8) 78 (fun _ => 0)), (a4, eI (ca 8) 7 (fun _ => 0)), (a5, eI (ca 8) 120 (fun _ => 0)), (a6, eI (ca 7) 70 (tk ltL 70)), (a7, eI (ca 7) 40 (tk moL 38))]) C dX5_init_692 rfl rfl (ix_nI (k := 37) (by decide) (by decide)) (tkc_s moL 37 (by decide +kernel)) rfl ?_
  refine i_dup (q := 694) C dX5_init_693 rfl rfl ?_
  refine i_bipush (q := 696) (v := 38) C dX5_init_694 rfl (by decide) ?_
  refine i_bipush (q := 698) (v := 32) C dX5_init_696 rfl (by decide) ?_
  refine i_cast (q := 699) (q0 := 7) (j := 38) (f' := (tk moL 39)) (ws' := [(q, eO 5 [.ref a1, .ref a2, .ref a3, .int 0, .ref a4, .ref a5, .int 0, .int 0, .int 0, .int 0, .long 0, .ref a6, .null, .null, .null, .null, .null, .null]), (a1, eI (ca 8) 78 (fun _ => 0)), (a2, eI (ca 8) 78 (fun _ => 0)), (a3, eI (ca 8) 78 (fun _ => 0)), (a4, eI (ca 8) 7 (fun _ => 0)), (a5, eI (ca 8) 120 (fun _ => 0)), (a6, eI (ca 7) 70 (tk ltL 70)), (a7, eI (ca 7) 40 (tk moL 39))]) C dX5_init_698 rfl rfl (ix_nI (k := 38) (by decide) (by decide)) (tkc_s moL 38 (by decide +kernel)) rfl ?_
  refine i_dup (q := 700) C dX5_init_699 rfl rfl ?_
  refine i_bipush (q := 702) (v := 39) C dX5_init_700 rfl (by decide) ?_
  refine i_bipush (q := 704) (v := 32) C dX5_init_702 rfl (by decide) ?_
  refine i_cast (q := 705) (q0 := 7) (j := 39) (f' := (tk moL 40)) (ws' := [(q, eO 5 [.ref a1, .ref a2, .ref a3, .int 0, .ref a4, .ref a5, .int 0, .int 0, .int 0, .int 0, .long 0, .ref a6, .null, .null, .null, .null, .null, .null]), (a1, eI (ca 8) 78 (fun _ => 0)), (a2, eI (ca 8) 78 (fun _ => 0)), (a3, eI (ca 8) 78 (fun _ => 0)), (a4, eI (ca 8) 7 (fun _ => 0)), (a5, eI (ca 8) 120 (fun _ => 0)), (a6, eI (ca 7) 70 (tk ltL 70)), (a7, eI (ca 7) 40 (tk moL 40))]) C dX5_init_704 rfl rfl (ix_nI (k := 39) (by decide) (by decide)) (tkc_s moL 39 (by decide +kernel)) rfl ?_
  refine i_putF (q := 708) (q0 := 0) (ws' := [(q, eO 5 [.ref a1, .ref a2, .ref a3, .int 0, .ref a4, .ref a5, .int 0, .int 0, .int 0, .int 0, .long 0, .ref a6, .ref a7, .null, .null, .null, .null, .null]), (a1, eI (ca 8) 78 (fun _ => 0)), (a2, eI (ca 8) 78 (fun _ => 0)), (a3, eI (ca 8) 78 (fun _ => 0)), (a4, eI (ca 8) 7 (fun _ => 0)), (a5, eI (ca 8) 120 (fun _ => 0)), (a6, eI (ca 7) 70 (tk ltL 70)), (a7, eI (ca 7) 40 (tk moL 40))]) C hin dX5_init_705 rfl fl_X5_29 rfl rfl rfl rfl rfl (Nat.le_of_ble_eq_true rfl) rfl ?_
  refine i_aload_n (q := 709) (i := 0) C dX5_init_708 rfl rfl ?_
  refine i_bipush (q := 711) (v := 20) C dX5_init_709 rfl (by decide) ?_
  refine i_newC (q := 713) (N := 20) C dX5_init_711 rfl wa_char (by decide) (by decide) (by decide) (Nat.le_of_ble_eq_true rfl) (Nat.le_of_ble_eq_true rfl) (fun a8 => ?_)
  refine i_ws (ws' := [(q, eO 5 [.ref a1, .ref a2, .ref a3, .int 0, .ref a4, .ref a5, .int 0, .int 0, .int 0, .int 0, .long 0, .ref a6, .ref a7, .null, .null, .null, .null, .null]), (a1, eI (ca 8) 78 (fun _ => 0)), (a2, eI (ca 8) 78 (fun _ => 0)), (a3, eI (ca 8) 78 (fun _ => 0)), (a4, eI (ca 8) 7 (fun _ => 0)), (a5, eI (ca 8) 120 (fun _ => 0)), (a6, eI (ca 7) 70 (tk ltL 70)), (a7, eI (ca 7) 40 (tk moL 40)), (a8, eI (ca 7) 20 (fun _ => 0))]) rfl ?_
  refine i_widen (k := 8) (n := 491) (by decide) (by decide) ?_
  refine i_dup (q := 714) C dX5_init_713 rfl rfl ?_
  refine i_iconst (q := 715) (v := 0) C dX5_init_714 rfl (by decide) ?_
  refine i_bipush (q := 717) (v := 116) C dX5_init_715 rfl (by decide) ?_
  refine i_cast (q := 718) (q0 := 8) (j := 0) (f' := (tk otL 1)) (ws' := [(q, eO 5 [.ref a1, .ref a2, .ref a3, .int 0, .ref a4, .ref a5, .int 0, .int 0, .int 0, .int 0, .long 0, .ref a6, .ref a7, .null, .null, .null, .null, .null]), (a1, eI (ca 8) 78 (fun _ => 0)), (a2, eI (ca 8) 78 (fun _ => 0)), (a3, eI (ca 8) 78 (fun _ => 0)), (a4, eI (ca 8) 7 (fun _ => 0)), (a5, eI (ca 8) 120 (fun _ => 0)), (a6, eI (ca 7) 70 (tk ltL 70)), (a7, eI (ca 7) 40 (tk moL 40)), (a8, eI (ca 7) 20 (tk otL 1))]) C dX5_init_717 rfl rfl (ix_nI (k := 0) (by decide) (by decide)) (tkc_0 otL (by decide +kernel)) rfl ?_
  refine i_dup (q := 719) C dX5_init_718 rfl rfl ?_
  refine i_iconst (q := 720) (v := 1) C dX5_init_719 rfl (by decide) ?_
  refine i_bipush (q := 722) (v := 105) C dX5_init_720 rfl (by decide) ?_
  refine i_cast (q := 723) (q0 := 8) (j := 1) (f' := (tk otL 2)) (ws' := [(q, eO 5 [.ref a1, .ref a2, .ref a3, .int 0, .ref a4, .ref a5, .int 0, .int 0, .int 0, .int 0, .long 0, .ref a6, .ref a7, .null, .null, .null, .null, .null]), (a1, eI (ca 8) 78 (fun _ => 0)), (a2, eI (ca 8) 78 (fun _ => 0)), (a3, eI (ca 8) 78 (fun _ => 0)), (a4, eI (ca 8) 7 (fun _ => 0)), (a5, eI (ca 8) 120 (fun _ => 0)), (a6, eI (ca 7) 70 (tk ltL 70)), (a7, eI (ca 7) 40 (tk moL 40)), (a8, eI (ca 7) 20 (tk otL 2))]) C dX5_init_722 rfl rfl (ix_nI (k := 1) (by decide) (by decide)) (tkc_s otL 1 (by decide +kernel)) rfl ?_
  refine i_dup (q := 724) C dX5_init_723 rfl rfl ?_
  refine i_iconst (q := 725) (v := 2) C dX5_init_724 rfl (by decide) ?_
  refine i_bipush (q := 727) (v := 100) C dX5_init_725 rfl (by decide) ?_
  refine i_cast (q := 728) (q0 := 8) (j := 2) (f' := (tk otL 3)) (ws' := [(q, eO 5 [.ref a1, .ref a2, .ref a3, .int 0, .ref a4, .ref a5, .int 0, .int 0, .int 0, .int 0, .long 0, .ref a6, .ref a7, .null, .null, .null, .null, .null]), (a1, eI (ca 8) 78 (fun _ => 0)), (a2, eI (ca 8) 78 (fun _ => 0)), (a3, eI (ca 8) 78 (fun _ => 0)), (a4, eI (ca 8) 7 (fun _ => 0)), (a5, eI (ca 8) 120 (fun _ => 0)), (a6, eI (ca 7) 70 (tk ltL 70)), (a7, eI (ca 7) 40 (tk moL 40)), (a8, eI (ca 7) 20 (tk otL 3))]) C dX5_init_727 rfl rfl (ix_nI (k := 2) (by decide) (by decide)) (tkc_s otL 2 (by decide +kernel)) rfl ?_
  refine i_dup (q := 729) C dX5_init_728 rfl rfl ?_
  refine i_iconst (q := 730) (v := 3) C dX5_init_729 rfl (by decide) ?_
  refine i_bipush (q := 732) (v := 101) C dX5_init_730 rfl (by decide) ?_
  refine i_cast (q := 733) (q0 := 8) (j := 3) (f' := (tk otL 4)) (ws' := [(q, eO 5 [.ref a1, .ref a2, .ref a3, .int 0, .ref a4, .ref a5, .int 0, .int 0, .int 0, .int 0, .long 0, .ref a6, .ref a7, .null, .null, .null, .null, .null]), (a1, eI (ca 8) 78 (fun _ => 0)), (a2, eI (ca 8) 78 (fun _ => 0)), (a3, eI (ca 8) 78 (fun _ => 0)), (a4, eI (ca 8) 7 (fun _ => 0)), (a5, eI (ca 8) 120 (fun _ => 0)), (a6, eI (ca 7) 70 (tk ltL 70)), (a7, eI (ca 7) 40 (tk moL 40)), (a8, eI (ca 7) 20 (tk otL 4))]) C dX5_init_732 rfl rfl (ix_nI (k := 3) (by decide) (by decide)) (tkc_s otL 3 (by decide +kernel)) rfl ?_
  refine i_dup (q := 734) C dX5_init_733 rfl rfl ?_
  refine i_iconst (q := 735) (v := 4) C dX5_init_734 rfl (by decide) ?_
  refine i_bipush (q := 737) (v := 32) C dX5_init_735 rfl (by decide) ?_
  refine i_cast (q := 738) (q0 := 8) (j := 4) (f' := (tk otL 5)) (ws' := [(q, eO 5 [.ref a1, .ref a2, .ref a3, .int 0, .ref a4, .ref a5, .int 0, .int 0, .int 0, .int 0, .long 0, .ref a6, .ref a7, .null, .null, .null, .null, .null]), (a1, eI (ca 8) 78 (fun _ => 0)), (a2, eI (ca 8) 78 (fun _ => 0)), (a3, eI (ca 8) 78 (fun _ => 0)), (a4, eI (ca 8) 7 (fun _ => 0)), (a5, eI (ca 8) 120 (fun _ => 0)), (a6, eI (ca 7) 70 (tk ltL 70)), (a7, eI (ca 7) 40 (tk moL 40)), (a8, eI (ca 7) 20 (tk otL 5))]) C dX5_init_737 rfl rfl (ix_nI (k := 4) (by decide) (by decide)) (tkc_s otL 4 (by decide +kernel)) rfl ?_
  refine i_dup (q := 739) C dX5_init_738 rfl rfl ?_
  refine i_iconst (q := 740) (v := 5) C dX5_init_739 rfl (by decide) ?_
  refine i_bipush (q := 742) (v := 32) C dX5_init_740 rfl (by decide) ?_
  refine i_cast (q := 743) (q0 := 8) (j := 5) (f' := (tk otL 6)) (ws' := [(q, eO 5 [.ref a1, .ref a2, .ref a3, .int 0, .ref a4, .ref a5, .int 0, .int 0, .int 0, .int 0, .long 0, .ref a6, .ref a7, .null, .null, .null, .null, .null]), (a1, eI (ca 8) 78 (fun _ => 0)), (a2, eI (ca 8) 78 (fun _ => 0)), (a3, eI (ca 8) 78 (fun _ => 0)), (a4, eI (ca 8) 7 (fun _ => 0)), (a5, eI (ca 8) 120 (fun _ => 0)), (a6, eI (ca 7) 70 (tk ltL 70)), (a7, eI (ca 7) 40 (tk moL 40)), (a8, eI (ca 7) 20 (tk otL 6))]) C dX5_init_742 rfl rfl (ix_nI (k := 5) (by decide) (by decide)) (tkc_s otL 5 (by decide +kernel)) rfl ?_
  refine i_dup (q := 744) C dX5_init_743 rfl rfl ?_
  refine i_bipush (q := 746) (v := 6) C dX5_init_744 rfl (by decide) ?_
  refine i_bipush (q := 748) (v := 32) C dX5_init_746 rfl (by decide) ?_
  refine i_cast (q := 749) (q0 := 8) (j := 6) (f' := (tk otL 7)) (ws' := [(q, eO 5 [.ref a1, .ref a2, .ref a3, .int 0, .ref a4, .ref a5, .int 0, .int 0, .int 0, .int 0, .long 0, .ref a6, .ref a7, .null, .null, .null, .null, .null]), (a1, eI (ca 8) 78 (fun _ => 0)), (a2, eI (ca 8) 78 (fun _ => 0)), (a3, eI (ca 8) 78 (fun _ => 0)), (a4, eI (ca 8) 7 (fun _ => 0)), (a5, eI (ca 8) 120 (fun _ => 0)), (a6, eI (ca 7) 70 (tk ltL 70)), (a7, eI (ca 7) 40 (tk moL 40)), (a8, eI (ca 7) 20 (tk otL 7))]) C dX5_init_748 rfl rfl (ix_nI (k := 6) (by decide) (by decide)) (tkc_s otL 6 (by decide +kernel)) rfl ?_
  refine i_dup (q := 750) C dX5_init_749 rfl rfl ?_
  refine i_bipush (q := 752) (v := 7) C dX5_init_750 rfl (by decide) ?_
  refine i_bipush (q := 754) (v := 32) C dX5_init_752 rfl (by decide) ?_
  refine i_cast (q := 755) (q0 := 8) (j := 7) (f' := (tk otL 8)) (ws' := [(q, eO 5 [.ref a1, .ref a2, .ref a3, .int 0, .ref a4, .ref a5, .int 0, .int 0, .int 0, .int 0, .long 0, .ref a6, .ref a7, .null, .null, .null, .null, .null]), (a1, eI (ca 8) 78 (fun _ => 0)), (a2, eI (ca 8) 78 (fun _ => 0)), (a3, eI (ca 8) 78 (fun _ => 0)), (a4, eI (ca 8) 7 (fun _ => 0)), (a5, eI (ca 8) 120 (fun _ => 0)), (a6, eI (ca 7) 70 (tk ltL 70)), (a7, eI (ca 7) 40 (tk moL 40)), (a8, eI (ca 7) 20 (tk otL 8))]) C dX5_init_754 rfl rfl (ix_nI (k := 7) (by decide) (by decide)) (tkc_s otL 7 (by decide +kernel)) rfl ?_
  refine i_dup (q := 756) C dX5_init_755 rfl rfl ?_
  refine i_bipush (q := 758) (v := 8) C dX5_init_756 rfl (by decide) ?_
  refine i_bipush (q := 760) (v := 32) C dX5_init_758 rfl (by decide) ?_
  refine i_cast (q := 761) (q0 := 8) (j := 8) (f' := (tk otL 9)) (ws' := [(q, eO 5 [.ref a1, .ref a2, .ref a3, .int 0, .ref a4, .ref a5, .int 0, .int 0, .int 0, .int 0, .long 0, .ref a6, .ref a7, .null, .null, .null, .null, .null]), (a1, eI (ca 8) 78 (fun _ => 0)), (a2, eI (ca 8) 78 (fun _ => 0)), (a3, eI (ca 8) 78 (fun _ => 0)), (a4, eI (ca 8) 7 (fun _ => 0)), (a5, eI (ca 8) 120 (fun _ => 0)), (a6, eI (ca 7) 70 (tk ltL 70)), (a7, eI (ca 7) 40 (tk moL 40)), (a8, eI (ca 7) 20 (tk otL 9))]) C dX5_init_760 rfl rfl (ix_nI (k := 8) (by decide) (by decide)) (tkc_s otL 8 (by decide +kernel)) rfl ?_
  refine i_dup (q := 762) C dX5_init_761 rfl rfl ?_
  refine i_bipush (q := 764) (v := 9) C dX5_init_762 rfl (by decide) ?_
  refine i_bipush (q := 766) (v := 32) C dX5_init_764 rfl (by decide) ?_
  refine i_cast (q := 767) (q0 := 8) (j := 9) (f' := (tk otL 10)) (ws' := [(q, eO 5 [.ref a1, .ref a2, .ref a3, .int 0, .ref a4, .ref a5, .int 0, .int 0, .int 0, .int 0, .long 0, .ref a6, .ref a7, .null, .null, .null, .null, .null]), (a1, eI (ca 8) 78 (fun _ => 0)), (a2, eI (ca 8) 78 (fun _ => 0)), (a3, eI (ca 8) 78 (fun _ => 0)), (a4, eI (ca 8) 7 (fun _ => 0)), (a5, eI (ca 8) 120 (fun _ => 0)), (a6, eI (ca 7) 70 (tk ltL 70)), (a7, eI (ca 7) 40 (tk moL 40)), (a8, eI (ca 7) 20 (tk otL 10))]) C dX5_init_766 rfl rfl (ix_nI (k := 9) (by decide) (by decide)) (tkc_s otL 9 (by decide +kernel)) rfl ?_
  refine i_dup (q := 768) C dX5_init_767 rfl rfl ?_
  refine i_bipush (q := 770) (v := 10) C dX5_init_768 rfl (by decide) ?_
  refine i_bipush (q := 772) (v := 115) C dX5_init_770 rfl (by decide) ?_
  refine i_cast (q := 773) (q0 := 8) (j := 10) (f' := (tk otL 11)) (ws' := [(q, eO 5 [.ref a1, .ref a2, .ref a3, .int 0, .ref a4, .ref a5, .int 0, .int 0, .int 0, .int 0, .long 0, .ref a6, .ref a7, .null, .null, .null, .null, .null]), (a1, eI (ca 8) 78 (fun _ => 0)), (a2, eI (ca 8) 78 (fun _ => 0)), (a3, eI (ca 8) 78 (fun _ => 0)), (a4, eI (ca 8) 7 (fun _ => 0)), (a5, eI (ca 8) 120 (fun _ => 0)), (a6, eI (ca 7) 70 (tk ltL 70)), (a7, eI (ca 7) 40 (tk moL 40)), (a8, eI (ca 7) 20 (tk otL 11))]) C dX5_init_772 rfl rfl (ix_nI (k := 10) (by decide) (by decide)) (tkc_s otL 10 (by decide +kernel)) rfl ?_
  refine i_dup (q := 774) C dX5_init_773 rfl rfl ?_
  refine i_bipush (q := 776) (v := 11) C dX5_init_774 rfl (by decide) ?_
  refine i_bipush (q := 778) (v := 116) C dX5_init_776 rfl (by decide) ?_
  refine i_cast (q := 779) (q0 := 8) (j := 11) (f' := (tk otL 12)) (ws' := [(q, eO 5 [.ref a1, .ref a2, .ref a3, .int 0, .ref a4, .ref a5, .int 0, .int 0, .int 0, .int 0, .long 0, .ref a6, .ref a7, .null, .null, .null, .null, .null]), (a1, eI (ca 8) 78 (fun _ => 0)), (a2, eI (ca 8) 78 (fun _ => 0)), (a3, eI (ca 8) 78 (fun _ => 0)), (a4, eI (ca 8) 7 (fun _ => 0)), (a5, eI (ca 8) 120 (fun _ => 0)), (a6, eI (ca 7) 70 (tk ltL 70)), (a7, eI (ca 7) 40 (tk moL 40)), (a8, eI (ca 7) 20 (tk otL 12))]) C dX5_init_778 rfl rfl (ix_nI (k := 11) (by decide) (by decide)) (tkc_s otL 11 (by decide +kernel)) rfl ?_
  refine i_dup (q := 780) C dX5_init_779 rfl rfl ?_
  refine i_bipush (q := 782) (v := 12) C dX5_init_780 rfl (by decide) ?_
  refine i_bipush (q := 784) (v := 111) C dX5_init_782 rfl (by decide) ?_
  refine i_cast (q := 785) (q0 := 8) (j := 12) (f' := (tk otL 13)) (ws' := [(q, eO 5 [.ref a1, .ref a2, .ref a3, .int 0, .ref a4, .ref a5, .int 0, .int 0, .int 0, .int 0, .long 0, .ref a6, .ref a7, .null, .null, .null, .null, .null]), (a1, eI (ca 8) 78 (fun _ => 0)), (a2, eI (ca 8) 78 (fun _ => 0)), (a3, eI (ca 8) 78 (fun _ => 0)), (a4, eI (ca 8) 7 (fun _ => 0)), (a5, eI (ca 8) 120 (fun _ => 0)), (a6, eI (ca 7) 70 (tk ltL 70)), (a7, eI (ca 7) 40 (tk moL 40)), (a8, eI (ca 7) 20 (tk otL 13))]) C dX5_init_784 rfl rfl (ix_nI (k := 12) (by decide) (by decide)) (tkc_s otL 12 (by decide +kernel)) rfl ?_
  refine i_dup (q := 786) C dX5_init_785 rfl rfl ?_
  refine i_bipush (q := 788) (v := 13) C dX5_init_786 rfl (by decide) ?_
  refine i_bipush (q := 790) (v := 114) C dX5_init_788 rfl (by decide) ?_
  refine i_cast (q := 791) (q0 := 8) (j := 13) (f' := (tk otL 14)) (ws' := [(q, eO 5 [.ref a1, .ref a2, .ref a3, .int 0, .ref a4, .ref a5, .int 0, .int 0, .int 0, .int 0, .long 0, .ref a6, .ref a7, .null, .null, .null, .null, .null]), (a1, eI (ca 8) 78 (fun _ => 0)), (a2, eI (ca 8) 78 (fun _ => 0)), (a3, eI (ca 8) 78 (fun _ => 0)), (a4, eI (ca 8) 7 (fun _ => 0)), (a5, eI (ca 8) 120 (fun _ => 0)), (a6, eI (ca 7) 70 (tk ltL 70)), (a7, eI (ca 7) 40 (tk moL 40)), (a8, eI (ca 7) 20 (tk otL 14))]) C dX5_init_790 rfl rfl (ix_nI (k := 13) (by decide) (by decide)) (tkc_s otL 13 (by decide +kernel)) rfl ?_
  refine i_dup (q := 792) C dX5_init_791 rfl rfl ?_
  refine i_bipush (q := 794) (v := 14) C dX5_init_792 rfl (by decide) ?_
  refine i_bipush (q := 796) (v := 109) C dX5_init_794 rfl (by decide) ?_
  refine i_cast (q := 797) (q0 := 8) (j := 14) (f' := (tk otL 15)) (ws' := [(q, eO 5 [.ref a1, .ref a2, .ref a3, .int 0, .ref a4, .ref a5, .int 0, .int 0, .int 0, .int 0, .long 0, .ref a6, .ref a7, .null, .null, .null, .null, .null]), (a1, eI (ca 8) 78 (fun _ => 0)), (a2, eI (ca 8) 78 (fun _ => 0)), (a3, eI (ca 8) 78 (fun _ => 0)), (a4, eI (ca 8) 7 (fun _ => 0)), (a5, eI (ca 8) 120 (fun _ => 0)), (a6, eI (ca 7) 70 (tk ltL 70)), (a7, eI (ca 7) 40 (tk moL 40)), (a8, eI (ca 7) 20 (tk otL 15))]) C dX5_init_796 rfl rfl (ix_nI (k := 14) (by decide) (by decide)) (tkc_s otL 14 (by decide +kernel)) rfl ?_
  refine i_dup (q := 798) C dX5_init_797 rfl rfl ?_
  refine i_bipush (q := 800) (v := 15) C dX5_init_798 rfl (by decide) ?_
  refine i_bipush (q := 802) (v := 32) C dX5_init_800 rfl (by decide) ?_
  refine i_cast (q := 803) (q0 := 8) (j := 15) (f' := (tk otL 16)) (ws' := [(q, eO 5 [.ref a1, .ref a2, .ref a3, .int 0, .ref a4, .ref a5, .int 0, .int 0, .int 0, .int 0, .long 0, .ref a6, .ref a7, .null, .null, .null, .null, .null]), (a1, eI (ca 8) 78 (fun _ => 0)), (a2, eI (ca 8) 78 (fun _ => 0)), (a3, eI (ca 8) 78 (fun _ => 0)), (a4, eI (ca 8) 7 (fun _ => 0)), (a5, eI (ca 8) 120 (fun _ => 0)), (a6, eI (ca 7) 70 (tk ltL 70)), (a7, eI (ca 7) 40 (tk moL 40)), (a8, eI (ca 7) 20 (tk otL 16))]) C dX5_init_802 rfl rfl (ix_nI (k := 15) (by decide) (by decide)) (tkc_s otL 15 (by decide +kernel)) rfl ?_
  refine i_dup (q := 804) C dX5_init_803 rfl rfl ?_
  refine i_bipush (q := 806) (v := 16) C dX5_init_804 rfl (by decide) ?_
  refine i_bipush (q := 808) (v := 32) C dX5_init_806 rfl (by decide) ?_
  refine i_cast (q := 809) (q0 := 8) (j := 16) (f' := (tk otL 17)) (ws' := [(q, eO 5 [.ref a1, .ref a2, .ref a3, .int 0, .ref a4, .ref a5, .int 0, .int 0, .int 0, .int 0, .long 0, .ref a6, .ref a7, .null, .null, .null, .null, .null]), (a1, eI (ca 8) 78 (fun _ => 0)), (a2, eI (ca 8) 78 (fun _ => 0)), (a3, eI (ca 8) 78 (fun _ => 0)), (a4, eI (ca 8) 7 (fun _ => 0)), (a5, eI (ca 8) 120 (fun _ => 0)), (a6, eI (ca 7) 70 (tk ltL 70)), (a7, eI (ca 7) 40 (tk moL 40)), (a8, eI (ca 7) 20 (tk otL 17))]) C dX5_init_808 rfl rfl (ix_nI (k := 16) (by decide) (by decide)) (tkc_s otL 16 (by decide +kernel)) rfl ?_
  refine i_dup (q := 810) C dX5_init_809 rfl rfl ?_
  refine i_bipush (q := 812) (v := 17) C dX5_init_810 rfl (by decide) ?_
  refine i_bipush (q := 814) (v := 32) C dX5_init_812 rfl (by decide) ?_
  refine i_cast (q := 815) (q0 := 8) (j := 17) (f' := (tk otL 18)) (ws' := [(q, eO 5 [.ref a1, .ref a2, .ref a3, .int 0, .ref a4, .ref a5, .int 0, .int 0, .int 0, .int 0, .long 0, .ref a6, .ref a7, .null, .null, .null, .null, .null]), (a1, eI (ca 8) 78 (fun _ => 0)), (a2, eI (ca 8) 78 (fun _ => 0)), (a3, eI (ca 8) 78 (fun _ => 0)), (a4, eI (ca 8) 7 (fun _ => 0)), (a5, eI (ca 8) 120 (fun _ => 0)), (a6, eI (ca 7) 70 (tk ltL 70)), (a7, eI (ca 7) 40 (tk moL 40)), (a8, eI (ca 7) 20 (tk otL 18))]) C dX5_init_814 rfl rfl (ix_nI (k := 17) (by decide) (by decide)) (tkc_s otL 17 (by decide +kernel)) rfl ?_
  refine i_dup (q := 816) C dX5_init_815 rfl rfl ?_
  refine i_bipush (q := 818) (v := 18) C dX5_init_816 rfl (by decide) ?_
  refine i_bipush (q := 820) (v := 32) C dX5_init_818 rfl (by decide) ?_
  refine i_cast (q := 821) (q0 := 8) (j := 18) (f' := (tk otL 19)) (ws' := [(q, eO 5 [.ref a1, .ref a2, .ref a3, .int 0, .ref a4, .ref a5, .int 0, .int 0, .int 0, .int 0, .long 0, .ref a6, .ref a7, .null, .null, .null, .null, .null]), (a1, eI (ca 8) 78 (fun _ => 0)), (a2, eI (ca 8) 78 (fun _ => 0)), (a3, eI (ca 8) 78 (fun _ => 0)), (a4, eI (ca 8) 7 (fun _ => 0)), (a5, eI (ca 8) 120 (fun _ => 0)), (a6, eI (ca 7) 70 (tk ltL 70)), (a7, eI (ca 7) 40 (tk moL 40)), (a8, eI (ca 7) 20 (tk otL 19))]) C dX5_init_820 rfl rfl (ix_nI (k := 18) (by decide) (by decide)) (tkc_s otL 18 (by decide +kernel)) rfl ?_
  refine i_dup (q := 822) C dX5_init_821 rfl rfl ?_
  refine i_bipush (q := 824) (v := 19) C dX5_init_822 rfl (by decide) ?_
  refine i_bipush (q := 826) (v := 32) C dX5_init_824 rfl (by decide) ?_
  refine i_cast (q := 827) (q0 := 8) (j := 19) (f' := (tk otL 20)) (ws' := [(q, eO 5 [.ref a1, .ref a2, .ref a3, .int 0, .ref a4, .ref a5, .int 0, .int 0, .int 0, .int 0, .long 0, .ref a6, .ref a7, .null, .null, .null, .null, .null]), (a1, eI (ca 8) 78 (fun _ => 0)), (a2, eI (ca 8) 78 (fun _ => 0)), (a3, eI (ca 8) 78 (fun _ => 0)), (a4, eI (ca 8) 7 (fun _ => 0)), (a5, eI (ca 8) 120 (fun _ => 0)), (a6, eI (ca 7) 70 (tk ltL 70)), (a7, eI (ca 7) 40 (tk moL 40)), (a8, eI (ca 7) 20 (tk otL 20))]) C dX5_init_826 rfl rfl (ix_nI (k := 19) (by decide) (by decide)) (tkc_s otL 19 (by decide +kernel)) rfl ?_
  refine i_putF (q := 830) (q0 := 0) (ws' := [(q, eO 5 [.ref a1, .ref a2, .ref a3, .int 0, .ref a4, .ref a5, .int 0, .int 0, .int 0, .int 0, .long 0, .ref a6, .ref a7, .ref a8, .null, .null, .null, .null]), (a1, eI (ca 8) 78 (fun _ => 0)), (a2, eI (ca 8) 78 (fun _ => 0)), (a3, eI (ca 8) 78 (fun _ => 0)), (a4, eI (ca 8) 7 (fun _ => 0)), (a5, eI (ca 8) 120 (fun _ => 0)), (a6, eI (ca 7) 70 (tk ltL 70)), (a7, eI (ca 7) 40 (tk moL 40)), (a8, eI (ca 7) 20 (tk otL 20))]) C hin dX5_init_827 rfl fl_X5_32 rfl rfl rfl rfl rfl (Nat.le_of_ble_eq_true rfl) rfl ?_
  refine i_aload_n (q := 831) (i := 0) C dX5_init_830 rfl rfl ?_
  refine i_iconst (q := 832) (v := 4) C dX5_init_831 rfl (by decide) ?_
  refine i_newI (q := 834) (N := 4) C dX5_init_832 rfl wa_int (by decide) (by decide) (by decide) (Nat.le_of_ble_eq_true rfl) (Nat.le_of_ble_eq_true rfl) (fun a9 => ?_)
  refine i_ws (ws' := [(q, eO 5 [.ref a1, .ref a2, .ref a3, .int 0, .ref a4, .ref a5, .int 0, .int 0, .int 0, .int 0, .long 0, .ref a6, .ref a7, .ref a8, .null, .null, .null, .null]), (a1, eI (ca 8) 78 (fun _ => 0)), (a2, eI (ca 8) 78 (fun _ => 0)), (a3, eI (ca 8) 78 (fun _ => 0)), (a4, eI (ca 8) 7 (fun _ => 0)), (a5, eI (ca 8) 120 (fun _ => 0)), (a6, eI (ca 7) 70 (tk ltL 70)), (a7, eI (ca 7) 40 (tk moL 40)), (a8, eI (ca 7) 20 (tk otL 20)), (a9, eI (ca 8) 4 (fun _ => 0))]) rfl ?_
  refine i_widen (k := 9) (n := 495) (by decide) (by decide) ?_
  refine i_putF (q := 837) (q0 := 0) (ws' := [(q, eO 5 [.ref a1, .ref a2, .ref a3, .int 0, .ref a4, .ref a5, .int 0, .int 0, .int 0, .int 0, .long 0, .ref a6, .ref a7, .ref a8, .ref a9, .null, .null, .null]), (a1, eI (ca 8) 78 (fun _ => 0)), (a2, eI (ca 8) 78 (fun _ => 0)), (a3, eI (ca 8) 78 (fun _ => 0)), (a4, eI (ca 8) 7 (fun _ => 0)), (a5, eI (ca 8) 120 (fun _ => 0)), (a6, eI (ca 7) 70 (tk ltL 70)), (a7, eI (ca 7) 40 (tk moL 40)), (a8, eI (ca 7) 20 (tk otL 20)), (a9, eI (ca 8) 4 (fun _ => 0))]) C hin dX5_init_834 rfl fl_X5_35 rfl rfl rfl rfl rfl (Nat.le_of_ble_eq_true rfl) rfl ?_
  refine i_aload_n (q := 838) (i := 0) C dX5_init_837 rfl rfl ?_
  refine i_iconst (q := 839) (v := 4) C dX5_init_838 rfl (by decide) ?_
  refine i_newI (q := 841) (N := 4) C dX5_init_839 rfl wa_int (by decide) (by decide) (by decide) (Nat.le_of_ble_eq_true rfl) (Nat.le_of_ble_eq_true rfl) (fun a10 => ?_)
  refine i_ws (ws' := [(q, eO 5 [.ref a1, .ref a2, .ref a3, .int 0, .ref a4, .ref a5, .int 0, .int 0, .int 0, .int 0, .long 0, .ref a6, .ref a7, .ref a8, .ref a9, .null, .null, .null]), (a1, eI (ca 8) 78 (fun _ => 0)), (a2, eI (ca 8) 78 (fun _ => 0)), (a3, eI (ca 8) 78 (fun _ => 0)), (a4, eI (ca 8) 7 (fun _ => 0)), (a5, eI (ca 8) 120 (fun _ => 0)), (a6, eI (ca 7) 70 (tk ltL 70)), (a7, eI (ca 7) 40 (tk moL 40)), (a8, eI (ca 7) 20 (tk otL 20)), (a9, eI (ca 8) 4 (fun _ => 0)), (a10, eI (ca 8) 4 (fun _ => 0))]) rfl ?_
  refine i_widen (k := 10) (n := 499) (by decide) (by decide) ?_
  refine i_putF (q := 844) (q0 := 0) (ws' := [(q, eO 5 [.ref a1, .ref a2, .ref a3, .int 0, .ref a4, .ref a5, .int 0, .int 0, .int 0, .int 0, .long 0, .ref a6, .ref a7, .ref a8, .ref a9, .ref a10, .null, .null]), (a1, eI (ca 8) 78 (fun _ => 0)), (a2, eI (ca 8) 78 (fun _ => 0)), (a3, eI (ca 8) 78 (fun _ => 0)), (a4, eI (ca 8) 7 (fun _ => 0)), (a5, eI (ca 8) 120 (fun _ => 0)), (a6, eI (ca 7) 70 (tk ltL 70)), (a7, eI (ca 7) 40 (tk moL 40)), (a8, eI (ca 7) 20 (tk otL 20)), (a9, eI (ca 8) 4 (fun _ => 0)), (a10, eI (ca 8) 4 (fun _ => 0))]) C hin dX5_init_841 rfl fl_X5_38 rfl rfl rfl rfl rfl (Nat.le_of_ble_eq_true rfl) rfl ?_
  refine i_aload_n (q := 845) (i := 0) C dX5_init_844 rfl rfl ?_
  refine i_sipush (q := 848) (v := 160) C dX5_init_845 rfl (by decide) ?_
  refine i_newI (q := 850) (N := 160) C dX5_init_848 rfl wa_int (by decide) (by decide) (by decide) (Nat.le_of_ble_eq_true rfl) (Nat.le_of_ble_eq_true rfl) (fun a11 => ?_)
  refine i_ws (ws' := [(q, eO 5 [.ref a1, .ref a2, .ref a3, .int 0, .ref a4, .ref a5, .int 0, .int 0, .int 0, .int 0, .long 0, .ref a6, .ref a7, .ref a8, .ref a9, .ref a10, .null, .null]), (a1, eI (ca 8) 78 (fun _ => 0)), (a2, eI (ca 8) 78 (fun _ => 0)), (a3, eI (ca 8) 78 (fun _ => 0)), (a4, eI (ca 8) 7 (fun _ => 0)), (a5, eI (ca 8) 120 (fun _ => 0)), (a6, eI (ca 7) 70 (tk ltL 70)), (a7, eI (ca 7) 40 (tk moL 40)), (a8, eI (ca 7) 20 (tk otL 20)), (a9, eI (ca 8) 4 (fun _ => 0)), (a10, eI (ca 8) 4 (fun _ => 0)), (a11, eI (ca 8) 160 (fun _ => 0))]) rfl ?_
  refine i_widen (k := 11) (n := 659) (by decide) (by decide) ?_
  refine i_putF (q := 853) (q0 := 0) (ws' := [(q, eO 5 [.ref a1, .ref a2, .ref a3, .int 0, .ref a4, .ref a5, .int 0, .int 0, .int 0, .int 0, .long 0, .ref a6, .ref a7, .ref a8, .ref a9, .ref a10, .ref a11, .null]), (a1, eI (ca 8) 78 (fun _ => 0)), (a2, eI (ca 8) 78 (fun _ => 0)), (a3, eI (ca 8) 78 (fun _ => 0)), (a4, eI (ca 8) 7 (fun _ => 0)), (a5, eI (ca 8) 120 (fun _ => 0)), (a6, eI (ca 7) 70 (tk ltL 70)), (a7, eI (ca 7) 40 (tk moL 40)), (a8, eI (ca 7) 20 (tk otL 20)), (a9, eI (ca 8) 4 (fun _ => 0)), (a10, eI (ca 8) 4 (fun _ => 0)), (a11, eI (ca 8) 160 (fun _ => 0))]) C hin dX5_init_850 rfl fl_X5_41 rfl rfl rfl rfl rfl (Nat.le_of_ble_eq_true rfl) rfl ?_
  refine i_aload_n (q := 854) (i := 0) C dX5_init_853 rfl rfl ?_
  refine i_bipush (q := 856) (v := 40) C dX5_init_854 rfl (by decide) ?_
  refine i_newI (q := 858) (N := 40) C dX5_init_856 rfl wa_int (by decide) (by decide) (by decide) (Nat.le_of_ble_eq_true rfl) (Nat.le_of_ble_eq_true rfl) (fun a12 => ?_)
  refine i_ws (ws' := [(q, eO 5 [.ref a1, .ref a2, .ref a3, .int 0, .ref a4, .ref a5, .int 0, .int 0, .int 0, .int 0, .long 0, .ref a6, .ref a7, .ref a8, .ref a9, .ref a10, .ref a11, .null]), (a1, eI (ca 8) 78 (fun _ => 0)), (a2, eI (ca 8) 78 (fun _ => 0)), (a3, eI (ca 8) 78 (fun _ => 0)), (a4, eI (ca 8) 7 (fun _ => 0)), (a5, eI (ca 8) 120 (fun _ => 0)), (a6, eI (ca 7) 70 (tk ltL 70)), (a7, eI (ca 7) 40 (tk moL 40)), (a8, eI (ca 7) 20 (tk otL 20)), (a9, eI (ca 8) 4 (fun _ => 0)), (a10, eI (ca 8) 4 (fun _ => 0)), (a11, eI (ca 8) 160 (fun _ => 0)), (a12, eI (ca 8) 40 (fun _ => 0))]) rfl ?_
  refine i_widen (k := 12) (n := 699) (by decide) (by decide) ?_
  refine i_putF (q := 861) (q0 := 0) (ws' := [(q, eO 5 [.ref a1, .ref a2, .ref a3, .int 0, .ref a4, .ref a5, .int 0, .int 0, .int 0, .int 0, .long 0, .ref a6, .ref a7, .ref a8, .ref a9, .ref a10, .ref a11, .ref a12]), (a1, eI (ca 8) 78 (fun _ => 0)), (a2, eI (ca 8) 78 (fun _ => 0)), (a3, eI (ca 8) 78 (fun _ => 0)), (a4, eI (ca 8) 7 (fun _ => 0)), (a5, eI (ca 8) 120 (fun _ => 0)), (a6, eI (ca 7) 70 (tk ltL 70)), (a7, eI (ca 7) 40 (tk moL 40)), (a8, eI (ca 7) 20 (tk otL 20)), (a9, eI (ca 8) 4 (fun _ => 0)), (a10, eI (ca 8) 4 (fun _ => 0)), (a11, eI (ca 8) 160 (fun _ => 0)), (a12, eI (ca 8) 40 (fun _ => 0))]) C hin dX5_init_858 rfl fl_X5_44 rfl rfl rfl rfl rfl (Nat.le_of_ble_eq_true rfl) rfl ?_
  refine i_aload_n (q := 862) (i := 0) C dX5_init_861 rfl rfl ?_
  refine i_get (q := 865) (q0 := 0) C dX5_init_862 rfl fl_X5_9 rfl rfl ?_
  refine i_iconst (q := 866) (v := 2) C dX5_init_865 rfl (by decide) ?_
  refine i_iconst (q := 867) (v := 1) C dX5_init_866 rfl (by decide) ?_
  refine i_iast (q := 868) (q0 := 1) (j := 2) (f' := (stN 0)) (ws' := [(q, eO 5 [.ref a1, .ref a2, .ref a3, .int 0, .ref a4, .ref a5, .int 0, .int 0, .int 0, .int 0, .long 0, .ref a6, .ref a7, .ref a8, .ref a9, .ref a10, .ref a11, .ref a12]), (a1, eI (ca 8) 78 (stN 0)), (a2, eI (ca 8) 78 (fun _ => 0)), (a3, eI (ca 8) 78 (fun _ => 0)), (a4, eI (ca 8) 7 (fun _ => 0)), (a5, eI (ca 8) 120 (fun _ => 0)), (a6, eI (ca 7) 70 (tk ltL 70)), (a7, eI (ca 7) 40 (tk moL 40)), (a8, eI (ca 7) 20 (tk otL 20)), (a9, eI (ca 8) 4 (fun _ => 0)), (a10, eI (ca 8) 4 (fun _ => 0)), (a11, eI (ca 8) 160 (fun _ => 0)), (a12, eI (ca 8) 40 (fun _ => 0))]) C dX5_init_867 rfl rfl (ix_nI (k := 2) (by decide) (by decide)) st_0 rfl ?_
  refine i_iconst (q := 869) (v := 0) C dX5_init_868 rfl (by decide) ?_
  refine i_istore_n (q := 870) (lv' := [(1, .int 0), (0, .ref q)]) C dX5_init_869 rfl (by decide) rfl ?_
  refine i_iload_n (q := 871) (i := 0) C dX5_init_870 rfl rfl ?_
  refine i_bipush (q := 873) (v := 10) C dX5_init_871 rfl (by decide) ?_
  refine i_icmp_ge (q := 876) (t := 892) C dX5_init_873 rfl (by decide) (fun h => absurd h (by decide)) (fun _ => ?_)
  refine i_aload_n (q := 877) (i := 1) C dX5_init_876 rfl rfl ?_
  refine i_get (q := 880) (q0 := 0) C dX5_init_877 rfl fl_X5_9 rfl rfl ?_
  refine i_bipush (q := 882) (v := 68) C dX5_init_880 rfl (by decide) ?_
  refine i_iload_n (q := 883) (i := 0) C dX5_init_882 rfl rfl ?_
  refine i_iadd (q := 884) (v := 68) C dX5_init_883 rfl (by decide) ?_
  refine i_iconst (q := 885) (v := (-1)) C dX5_init_884 rfl (by decide) ?_
  refine i_iast (q := 886) (q0 := 1) (j := 68) (f' := (stN 1)) (ws' := [(q, eO 5 [.ref a1, .ref a2, .ref a3, .int 0, .ref a4, .ref a5, .int 0, .int 0, .int 0, .int 0, .long 0, .ref a6, .ref a7, .ref a8, .ref a9, .ref a10, .ref a11, .ref a12]), (a1, eI (ca 8) 78 (stN 1)), (a2, eI (ca 8) 78 (fun _ => 0)), (a3, eI (ca 8) 78 (fun _ => 0)), (a4, eI (ca 8) 7 (fun _ => 0)), (a5, eI (ca 8) 120 (fun _ => 0)), (a6, eI (ca 7) 70 (tk ltL 70)), (a7, eI (ca 7) 40 (tk moL 40)), (a8, eI (ca 7) 20 (tk otL 20)), (a9, eI (ca 8) 4 (fun _ => 0)), (a10, eI (ca 8) 4 (fun _ => 0)), (a11, eI (ca 8) 160 (fun _ => 0)), (a12, eI (ca 8) 40 (fun _ => 0))]) C dX5_init_885 rfl rfl (ix_nI (k := 68) (by decide) (by decide)) (st_s 0) rfl ?_
  refine i_iinc (q := 889) (i := 0) (v := 1) (lv' := [(1, .int 1), (0, .ref q)]) C dX5_init_886 rfl rfl (by decide) (by decide) rfl ?_
  refine i_goto (t := 870) C dX5_init_889 (by decide) ?_
  refine i_iload_n (q := 871) (i := 0) C dX5_init_870 rfl rfl ?_
  refine i_bipush (q := 873) (v := 10) C dX5_init_871 rfl (by decide) ?_
  refine i_icmp_ge (q := 876) (t := 892) C dX5_init_873 rfl (by decide) (fun h => absurd h (by decide)) (fun _ => ?_)
  refine i_aload_n (q := 877) (i := 1) C dX5_init_876 rfl rfl ?_
  refine i_get (q := 880) (q0 := 0) C dX5_init_877 rfl fl_X5_9 rfl rfl ?_
  refine i_bipush (q := 882) (v := 68) C dX5_init_880 rfl (by decide) ?_
  refine i_iload_n (q := 883) (i := 0) C dX5_init_882 rfl rfl ?_
  refine i_iadd (q := 884) (v := 69) C dX5_init_883 rfl (by decide) ?_
  refine i_iconst (q := 885) (v := (-1)) C dX5_init_884 rfl (by decide) ?_
  refine i_iast (q := 886) (q0 := 1) (j := 69) (f' := (stN 2)) (ws' := [(q, eO 5 [.ref a1, .ref a2, .ref a3, .int 0, .ref a4, .ref a5, .int 0, .int 0, .int 0, .int 0, .long 0, .ref a6, .ref a7, .ref a8, .ref a9, .ref a10, .ref a11, .ref a12]), (a1, eI (ca 8) 78 (stN 2)), (a2, eI (ca 8) 78 (fun _ => 0)), (a3, eI (ca 8) 78 (fun _ => 0)), (a4, eI (ca 8) 7 (fun _ => 0)), (a5, eI (ca 8) 120 (fun _ => 0)), (a6, eI (ca 7) 70 (tk ltL 70)), (a7, eI (ca 7) 40 (tk moL 40)), (a8, eI (ca 7) 20 (tk otL 20)), (a9, eI (ca 8) 4 (fun _ => 0)), (a10, eI (ca 8) 4 (fun _ => 0)), (a11, eI (ca 8) 160 (fun _ => 0)), (a12, eI (ca 8) 40 (fun _ => 0))]) C dX5_init_885 rfl rfl (ix_nI (k := 69) (by decide) (by decide)) (st_s 1) rfl ?_
  refine i_iinc (q := 889) (i := 0) (v := 2) (lv' := [(1, .int 2), (0, .ref q)]) C dX5_init_886 rfl rfl (by decide) (by decide) rfl ?_
  refine i_goto (t := 870) C dX5_init_889 (by decide) ?_
  refine i_iload_n (q := 871) (i := 0) C dX5_init_870 rfl rfl ?_
  refine i_bipush (q := 873) (v := 10) C dX5_init_871 rfl (by decide) ?_
  refine i_icmp_ge (q := 876) (t := 892) C dX5_init_873 rfl (by decide) (fun h => absurd h (by decide)) (fun _ => ?_)
  refine i_aload_n (q := 877) (i := 1) C dX5_init_876 rfl rfl ?_
  refine i_get (q := 880) (q0 := 0) C dX5_init_877 rfl fl_X5_9 rfl rfl ?_
  refine i_bipush (q := 882) (v := 68) C dX5_init_880 rfl (by decide) ?_
  refine i_iload_n (q := 883) (i := 0) C dX5_init_882 rfl rfl ?_
  refine i_iadd (q := 884) (v := 70) C dX5_init_883 rfl (by decide) ?_
  refine i_iconst (q := 885) (v := (-1)) C dX5_init_884 rfl (by decide) ?_
  refine i_iast (q := 886) (q0 := 1) (j := 70) (f' := (stN 3)) (ws' := [(q, eO 5 [.ref a1, .ref a2, .ref a3, .int 0, .ref a4, .ref a5, .int 0, .int 0, .int 0, .int 0, .long 0, .ref a6, .ref a7, .ref a8, .ref a9, .ref a10, .ref a11, .ref a12]), (a1, eI (ca 8) 78 (stN 3)), (a2, eI (ca 8) 78 (fun _ => 0)), (a3, eI (ca 8) 78 (fun _ => 0)), (a4, eI (ca 8) 7 (fun _ => 0)), (a5, eI (ca 8) 120 (fun _ => 0)), (a6, eI (ca 7) 70 (tk ltL 70)), (a7, eI (ca 7) 40 (tk moL 40)), (a8, eI (ca 7) 20 (tk otL 20)), (a9, eI (ca 8) 4 (fun _ => 0)), (a10, eI (ca 8) 4 (fun _ => 0)), (a11, eI (ca 8) 160 (fun _ => 0)), (a12, eI (ca 8) 40 (fun _ => 0))]) C dX5_init_885 rfl rfl (ix_nI (k := 70) (by decide) (by decide)) (st_s 2) rfl ?_
  refine i_iinc (q := 889) (i := 0) (v := 3) (lv' := [(1, .int 3), (0, .ref q)]) C dX5_init_886 rfl rfl (by decide) (by decide) rfl ?_
  refine i_goto (t := 870) C dX5_init_889 (by decide) ?_
  refine i_iload_n (q := 871) (i := 0) C dX5_init_870 rfl rfl ?_
  refine i_bipush (q := 873) (v := 10) C dX5_init_871 rfl (by decide) ?_
  refine i_icmp_ge (q := 876) (t := 892) C dX5_init_873 rfl (by decide) (fun h => absurd h (by decide)) (fun _ => ?_)
  refine i_aload_n (q := 877) (i := 1) C dX5_init_876 rfl rfl ?_
  refine i_get (q := 880) (q0 := 0) C dX5_init_877 rfl fl_X5_9 rfl rfl ?_
  refine i_bipush (q := 882) (v := 68) C dX5_init_880 rfl (by decide) ?_
  refine i_iload_n (q := 883) (i := 0) C dX5_init_882 rfl rfl ?_
  refine i_iadd (q := 884) (v := 71) C dX5_init_883 rfl (by decide) ?_
  refine i_iconst (q := 885) (v := (-1)) C dX5_init_884 rfl (by decide) ?_
  refine i_iast (q := 886) (q0 := 1) (j := 71) (f' := (stN 4)) (ws' := [(q, eO 5 [.ref a1, .ref a2, .ref a3, .int 0, .ref a4, .ref a5, .int 0, .int 0, .int 0, .int 0, .long 0, .ref a6, .ref a7, .ref a8, .ref a9, .ref a10, .ref a11, .ref a12]), (a1, eI (ca 8) 78 (stN 4)), (a2, eI (ca 8) 78 (fun _ => 0)), (a3, eI (ca 8) 78 (fun _ => 0)), (a4, eI (ca 8) 7 (fun _ => 0)), (a5, eI (ca 8) 120 (fun _ => 0)), (a6, eI (ca 7) 70 (tk ltL 70)), (a7, eI (ca 7) 40 (tk moL 40)), (a8, eI (ca 7) 20 (tk otL 20)), (a9, eI (ca 8) 4 (fun _ => 0)), (a10, eI (ca 8) 4 (fun _ => 0)), (a11, eI (ca 8) 160 (fun _ => 0)), (a12, eI (ca 8) 40 (fun _ => 0))]) C dX5_init_885 rfl rfl (ix_nI (k := 71) (by decide) (by decide)) (st_s 3) rfl ?_
  refine i_iinc (q := 889) (i := 0) (v := 4) (lv' := [(1, .int 4), (0, .ref q)]) C dX5_init_886 rfl rfl (by decide) (by decide) rfl ?_
  refine i_goto (t := 870) C dX5_init_889 (by decide) ?_
  refine i_iload_n (q := 871) (i := 0) C dX5_init_870 rfl rfl ?_
  refine i_bipush (q := 873) (v := 10) C dX5_init_871 rfl (by decide) ?_
  refine i_icmp_ge (q := 876) (t := 892) C dX5_init_873 rfl (by decide) (fun h => absurd h (by decide)) (fun _ => ?_)
  refine i_aload_n (q := 877) (i := 1) C dX5_init_876 rfl rfl ?_
  refine i_get (q := 880) (q0 := 0) C dX5_init_877 rfl fl_X5_9 rfl rfl ?_
  refine i_bipush (q := 882) (v := 68) C dX5_init_880 rfl (by decide) ?_
  refine i_iload_n (q := 883) (i := 0) C dX5_init_882 rfl rfl ?_
  refine i_iadd (q := 884) (v := 72) C dX5_init_883 rfl (by decide) ?_
  refine i_iconst (q := 885) (v := (-1)) C dX5_init_884 rfl (by decide) ?_
  refine i_iast (q := 886) (q0 := 1) (j := 72) (f' := (stN 5)) (ws' := [(q, eO 5 [.ref a1, .ref a2, .ref a3, .int 0, .ref a4, .ref a5, .int 0, .int 0, .int 0, .int 0, .long 0, .ref a6, .ref a7, .ref a8, .ref a9, .ref a10, .ref a11, .ref a12]), (a1, eI (ca 8) 78 (stN 5)), (a2, eI (ca 8) 78 (fun _ => 0)), (a3, eI (ca 8) 78 (fun _ => 0)), (a4, eI (ca 8) 7 (fun _ => 0)), (a5, eI (ca 8) 120 (fun _ => 0)), (a6, eI (ca 7) 70 (tk ltL 70)), (a7, eI (ca 7) 40 (tk moL 40)), (a8, eI (ca 7) 20 (tk otL 20)), (a9, eI (ca 8) 4 (fun _ => 0)), (a10, eI (ca 8) 4 (fun _ => 0)), (a11, eI (ca 8) 160 (fun _ => 0)), (a12, eI (ca 8) 40 (fun _ => 0))]) C dX5_init_885 rfl rfl (ix_nI (k := 72) (by decide) (by decide)) (st_s 4) rfl ?_
  refine i_iinc (q := 889) (i := 0) (v := 5) (lv' := [(1, .int 5), (0, .ref q)]) C dX5_init_886 rfl rfl (by decide) (by decide) rfl ?_
  refine i_goto (t := 870) C dX5_init_889 (by decide) ?_
  refine i_iload_n (q := 871) (i := 0) C dX5_init_870 rfl rfl ?_
  refine i_bipush (q := 873) (v := 10) C dX5_init_871 rfl (by decide) ?_
  refine i_icmp_ge (q := 876) (t := 892) C dX5_init_873 rfl (by decide) (fun h => absurd h (by decide)) (fun _ => ?_)
  refine i_aload_n (q := 877) (i := 1) C dX5_init_876 rfl rfl ?_
  refine i_get (q := 880) (q0 := 0) C dX5_init_877 rfl fl_X5_9 rfl rfl ?_
  refine i_bipush (q := 882) (v := 68) C dX5_init_880 rfl (by decide) ?_
  refine i_iload_n (q := 883) (i := 0) C dX5_init_882 rfl rfl ?_
  refine i_iadd (q := 884) (v := 73) C dX5_init_883 rfl (by decide) ?_
  refine i_iconst (q := 885) (v := (-1)) C dX5_init_884 rfl (by decide) ?_
  refine i_iast (q := 886) (q0 := 1) (j := 73) (f' := (stN 6)) (ws' := [(q, eO 5 [.ref a1, .ref a2, .ref a3, .int 0, .ref a4, .ref a5, .int 0, .int 0, .int 0, .int 0, .long 0, .ref a6, .ref a7, .ref a8, .ref a9, .ref a10, .ref a11, .ref a12]), (a1, eI (ca 8) 78 (stN 6)), (a2, eI (ca 8) 78 (fun _ => 0)), (a3, eI (ca 8) 78 (fun _ => 0)), (a4, eI (ca 8) 7 (fun _ => 0)), (a5, eI (ca 8) 120 (fun _ => 0)), (a6, eI (ca 7) 70 (tk ltL 70)), (a7, eI (ca 7) 40 (tk moL 40)), (a8, eI (ca 7) 20 (tk otL 20)), (a9, eI (ca 8) 4 (fun _ => 0)), (a10, eI (ca 8) 4 (fun _ => 0)), (a11, eI (ca 8) 160 (fun _ => 0)), (a12, eI (ca 8) 40 (fun _ => 0))]) C dX5_init_885 rfl rfl (ix_nI (k := 73) (by decide) (by decide)) (st_s 5) rfl ?_
  refine i_iinc (q := 889) (i := 0) (v := 6) (lv' := [(1, .int 6), (0, .ref q)]) C dX5_init_886 rfl rfl (by decide) (by decide) rfl ?_
  refine i_goto (t := 870) C dX5_init_889 (by decide) ?_
  refine i_iload_n (q := 871) (i := 0) C dX5_init_870 rfl rfl ?_
  refine i_bipush (q := 873) (v := 10) C dX5_init_871 rfl (by decide) ?_
  refine i_icmp_ge (q := 876) (t := 892) C dX5_init_873 rfl (by decide) (fun h => absurd h (by decide)) (fun _ => ?_)
  refine i_aload_n (q := 877) (i := 1) C dX5_init_876 rfl rfl ?_
  refine i_get (q := 880) (q0 := 0) C dX5_init_877 rfl fl_X5_9 rfl rfl ?_
  refine i_bipush (q := 882) (v := 68) C dX5_init_880 rfl (by decide) ?_
  refine i_iload_n (q := 883) (i := 0) C dX5_init_882 rfl rfl ?_
  refine i_iadd (q := 884) (v := 74) C dX5_init_883 rfl (by decide) ?_
  refine i_iconst (q := 885) (v := (-1)) C dX5_init_884 rfl (by decide) ?_
  refine i_iast (q := 886) (q0 := 1) (j := 74) (f' := (stN 7)) (ws' := [(q, eO 5 [.ref a1, .ref a2, .ref a3, .int 0, .ref a4, .ref a5, .int 0, .int 0, .int 0, .int 0, .long 0, .ref a6, .ref a7, .ref a8, .ref a9, .ref a10, .ref a11, .ref a12]), (a1, eI (ca 8) 78 (stN 7)), (a2, eI (ca 8) 78 (fun _ => 0)), (a3, eI (ca 8) 78 (fun _ => 0)), (a4, eI (ca 8) 7 (fun _ => 0)), (a5, eI (ca 8) 120 (fun _ => 0)), (a6, eI (ca 7) 70 (tk ltL 70)), (a7, eI (ca 7) 40 (tk moL 40)), (a8, eI (ca 7) 20 (tk otL 20)), (a9, eI (ca 8) 4 (fun _ => 0)), (a10, eI (ca 8) 4 (fun _ => 0)), (a11, eI (ca 8) 160 (fun _ => 0)), (a12, eI (ca 8) 40 (fun _ => 0))]) C dX5_init_885 rfl rfl (ix_nI (k := 74) (by decide) (by decide)) (st_s 6) rfl ?_
  refine i_iinc (q := 889) (i := 0) (v := 7) (lv' := [(1, .int 7), (0, .ref q)]) C dX5_init_886 rfl rfl (by decide) (by decide) rfl ?_
  refine i_goto (t := 870) C dX5_init_889 (by decide) ?_
  refine i_iload_n (q := 871) (i := 0) C dX5_init_870 rfl rfl ?_
  refine i_bipush (q := 873) (v := 10) C dX5_init_871 rfl (by decide) ?_
  refine i_icmp_ge (q := 876) (t := 892) C dX5_init_873 rfl (by decide) (fun h => absurd h (by decide)) (fun _ => ?_)
  refine i_aload_n (q := 877) (i := 1) C dX5_init_876 rfl rfl ?_
  refine i_get (q := 880) (q0 := 0) C dX5_init_877 rfl fl_X5_9 rfl rfl ?_
  refine i_bipush (q := 882) (v := 68) C dX5_init_880 rfl (by decide) ?_
  refine i_iload_n (q := 883) (i := 0) C dX5_init_882 rfl rfl ?_
  refine i_iadd (q := 884) (v := 75) C dX5_init_883 rfl (by decide) ?_
  refine i_iconst (q := 885) (v := (-1)) C dX5_init_884 rfl (by decide) ?_
  refine i_iast (q := 886) (q0 := 1) (j := 75) (f' := (stN 8)) (ws' := [(q, eO 5 [.ref a1, .ref a2, .ref a3, .int 0, .ref a4, .ref a5, .int 0, .int 0, .int 0, .int 0, .long 0, .ref a6, .ref a7, .ref a8, .ref a9, .ref a10, .ref a11, .ref a12]), (a1, eI (ca 8) 78 (stN 8)), (a2, eI (ca 8) 78 (fun _ => 0)), (a3, eI (ca 8) 78 (fun _ => 0)), (a4, eI (ca 8) 7 (fun _ => 0)), (a5, eI (ca 8) 120 (fun _ => 0)), (a6, eI (ca 7) 70 (tk ltL 70)), (a7, eI (ca 7) 40 (tk moL 40)), (a8, eI (ca 7) 20 (tk otL 20)), (a9, eI (ca 8) 4 (fun _ => 0)), (a10, eI (ca 8) 4 (fun _ => 0)), (a11, eI (ca 8) 160 (fun _ => 0)), (a12, eI (ca 8) 40 (fun _ => 0))]) C dX5_init_885 rfl rfl (ix_nI (k := 75) (by decide) (by decide)) (st_s 7) rfl ?_
  refine i_iinc (q := 889) (i := 0) (v := 8) (lv' := [(1, .int 8), (0, .ref q)]) C dX5_init_886 rfl rfl (by decide) (by decide) rfl ?_
  refine i_goto (t := 870) C dX5_init_889 (by decide) ?_
  refine i_iload_n (q := 871) (i := 0) C dX5_init_870 rfl rfl ?_
  refine i_bipush (q := 873) (v := 10) C dX5_init_871 rfl (by decide) ?_
  refine i_icmp_ge (q := 876) (t := 892) C dX5_init_873 rfl (by decide) (fun h => absurd h (by decide)) (fun _ => ?_)
  refine i_aload_n (q := 877) (i := 1) C dX5_init_876 rfl rfl ?_
  refine i_get (q := 880) (q0 := 0) C dX5_init_877 rfl fl_X5_9 rfl rfl ?_
  refine i_bipush (q := 882) (v := 68) C dX5_init_880 rfl (by decide) ?_
  refine i_iload_n (q := 883) (i := 0) C dX5_init_882 rfl rfl ?_
  refine i_iadd (q := 884) (v := 76) C dX5_init_883 rfl (by decide) ?_
  refine i_iconst (q := 885) (v := (-1)) C dX5_init_884 rfl (by decide) ?_
  refine i_iast (q := 886) (q0 := 1) (j := 76) (f' := (stN 9)) (ws' := [(q, eO 5 [.ref a1, .ref a2, .ref a3, .int 0, .ref a4, .ref a5, .int 0, .int 0, .int 0, .int 0, .long 0, .ref a6, .ref a7, .ref a8, .ref a9, .ref a10, .ref a11, .ref a12]), (a1, eI (ca 8) 78 (stN 9)), (a2, eI (ca 8) 78 (fun _ => 0)), (a3, eI (ca 8) 78 (fun _ => 0)), (a4, eI (ca 8) 7 (fun _ => 0)), (a5, eI (ca 8) 120 (fun _ => 0)), (a6, eI (ca 7) 70 (tk ltL 70)), (a7, eI (ca 7) 40 (tk moL 40)), (a8, eI (ca 7) 20 (tk otL 20)), (a9, eI (ca 8) 4 (fun _ => 0)), (a10, eI (ca 8) 4 (fun _ => 0)), (a11, eI (ca 8) 160 (fun _ => 0)), (a12, eI (ca 8) 40 (fun _ => 0))]) C dX5_init_885 rfl rfl (ix_nI (k := 76) (by decide) (by decide)) (st_s 8) rfl ?_
  refine i_iinc (q := 889) (i := 0) (v := 9) (lv' := [(1, .int 9), (0, .ref q)]) C dX5_init_886 rfl rfl (by decide) (by decide) rfl ?_
  refine i_goto (t := 870) C dX5_init_889 (by decide) ?_
  refine i_iload_n (q := 871) (i := 0) C dX5_init_870 rfl rfl ?_
  refine i_bipush (q := 873) (v := 10) C dX5_init_871 rfl (by decide) ?_
  refine i_icmp_ge (q := 876) (t := 892) C dX5_init_873 rfl (by decide) (fun h => absurd h (by decide)) (fun _ => ?_)
  refine i_aload_n (q := 877) (i := 1) C dX5_init_876 rfl rfl ?_
  refine i_get (q := 880) (q0 := 0) C dX5_init_877 rfl fl_X5_9 rfl rfl ?_
  refine i_bipush (q := 882) (v := 68) C dX5_init_880 rfl (by decide) ?_
  refine i_iload_n (q := 883) (i := 0) C dX5_init_882 rfl rfl ?_
  refine i_iadd (q := 884) (v := 77) C dX5_init_883 rfl (by decide) ?_
  refine i_iconst (q := 885) (v := (-1)) C dX5_init_884 rfl (by decide) ?_
  refine i_iast (q := 886) (q0 := 1) (j := 77) (f' := (stN 10)) (ws' := [(q, eO 5 [.ref a1, .ref a2, .ref a3, .int 0, .ref a4, .ref a5, .int 0, .int 0, .int 0, .int 0, .long 0, .ref a6, .ref a7, .ref a8, .ref a9, .ref a10, .ref a11, .ref a12]), (a1, eI (ca 8) 78 (stN 10)), (a2, eI (ca 8) 78 (fun _ => 0)), (a3, eI (ca 8) 78 (fun _ => 0)), (a4, eI (ca 8) 7 (fun _ => 0)), (a5, eI (ca 8) 120 (fun _ => 0)), (a6, eI (ca 7) 70 (tk ltL 70)), (a7, eI (ca 7) 40 (tk moL 40)), (a8, eI (ca 7) 20 (tk otL 20)), (a9, eI (ca 8) 4 (fun _ => 0)), (a10, eI (ca 8) 4 (fun _ => 0)), (a11, eI (ca 8) 160 (fun _ => 0)), (a12, eI (ca 8) 40 (fun _ => 0))]) C dX5_init_885 rfl rfl (ix_nI (k := 77) (by decide) (by decide)) (st_s 9) rfl ?_
  refine i_iinc (q := 889) (i := 0) (v := 10) (lv' := [(1, .int 10), (0, .ref q)]) C dX5_init_886 rfl rfl (by decide) (by decide) rfl ?_
  refine i_goto (t := 870) C dX5_init_889 (by decide) ?_
  refine i_iload_n (q := 871) (i := 0) C dX5_init_870 rfl rfl ?_
  refine i_bipush (q := 873) (v := 10) C dX5_init_871 rfl (by decide) ?_
  refine i_icmp_ge (q := 876) (t := 892) C dX5_init_873 rfl (by decide) (fun _ => ?_) (fun h => absurd (by decide) h)
  exact i_return C hrt hlk dX5_init_892 ⟨fun i => [a1, a2, a3, a4, a5, a6, a7, a8, a9, a10, a11, a12].getD i 0, rfl⟩
