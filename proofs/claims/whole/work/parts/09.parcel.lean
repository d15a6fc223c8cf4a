/-! what a kind makes of a parcel -/
def sg (kd ln w tn d t : Int32) : Bool :=
  if kd = 1 then !decide (t < ln) && !decide (w < 5)
  else if kd = 2 then !decide (t < ln + w / 20)
  else if kd = 3 then !decide (t < ln + w / 20)
  else if kd = 4 then !decide (t < ln + w / 20) && !decide (tn < 7)
  else if kd = 5 then !decide (t ≤ 0)
  else if kd = 6 then (!decide (t < ln) && !decide (w < 5)) && decide (d - d / 2 * 2 = 0)
  else !decide (t < ln)
def mvC (kd : Int32) : Int32 := if kd = 1 then 1 else if kd = 2 then 1 else if kd = 3 then 1 else if kd = 4 then 0 else if kd = 5 then 5 else if kd = 6 then 1 else 2
def las (kd : Int32) : Int32 := if kd = 1 then 36 else if kd = 2 then 24 else if kd = 3 then 24 else if kd = 4 then 9999 else if kd = 5 then 15 else if kd = 6 then 66 else 12
def pys (kd w : Int32) : Int32 := if kd = 1 then 0 else if kd = 2 then 2 * (w / 10) else if kd = 3 then 2 * (w / 10) + 10 else if kd = 4 then 3 * (2 * (w / 10) + 10) else if kd = 5 then 1 else if kd = 6 then 5 else w / 10
def dly (kd : Int32) : Int32 := if kd = 3 then 1 else if kd = 4 then 2 else 0
def ovr (kd : Int32) : Int32 := if kd = 1 then 0 else if kd = 2 then 0 else if kd = 3 then 2 else if kd = 4 then 3 else if kd = 5 then 0 else if kd = 6 then 1 else -1
def lst (what : Int32) : Int32 := if what = 2 then 1 else 0
def mst (what : Int32) : Int32 := if what = 0 then 6 else if what = 1 then 20 else if what = 2 then 99 else if what = 3 then 9999 else if what = 4 then 2 else if what = 5 then 1 else 9999
def tch (ln t : Int32) : Bool := !decide (t < ln - 3) && !decide (t ≤ 0)
def wal (a b : Int32) : Bool := decide (bI (!decide (a < 5)) = bI (!decide (b < 5))) && decide (a / 20 = b / 20)
def tld (s : Nat → Int32) (k : Nat) (what : Int32) : Int32 := if what = 0 then s (12 + 7 * k + 0) else if what = 1 then s (12 + 7 * k + 1) else if what = 2 then s (12 + 7 * k + 2) else if what = 3 then s (12 + 7 * k + 3) else if what = 4 then s (12 + 7 * k + 4) else if what = 5 then s (12 + 7 * k + 5) else if what = 6 then s (12 + 7 * k + 6) else if what = 7 then mvC (s (12 + 7 * k + 0)) else if what = 8 then las (s (12 + 7 * k + 0)) else if what = 9 then pys (s (12 + 7 * k + 0)) (s (12 + 7 * k + 2)) else dly (s (12 + 7 * k + 0))
def ptF (s : Nat → Int32) (k : Nat) (what v : Int32) : Nat → Int32 := if what = 0 then upd s (12 + 7 * k + 0) v else if what = 1 then upd s (12 + 7 * k + 1) v else if what = 2 then upd s (12 + 7 * k + 2) v else if what = 3 then upd s (12 + 7 * k + 3) v else if what = 4 then upd s (12 + 7 * k + 4) v else if what = 5 then upd s (12 + 7 * k + 5) v else if what = 6 then upd s (12 + 7 * k + 6) v else s
/-- a parcel is turned over -/
def trn (s : Nat → Int32) (k : Nat) : Nat → Int32 := upd (upd s (12 + 7 * k + 6) (minI (s (12 + 7 * k + 6) + 1) 9999)) (12 + 7 * k + 1) (minI (s (12 + 7 * k + 1) + mvC (s (12 + 7 * k + 0))) 20)
/-- it waits a day -/
def wat (s : Nat → Int32) (k : Nat) : Nat → Int32 :=
  if las (s (12 + 7 * k + 0)) < minI (s (12 + 7 * k + 3) + 1) 9999 then upd (upd s (12 + 7 * k + 3) (minI (s (12 + 7 * k + 3) + 1) 9999)) (12 + 7 * k + 4) 2 else upd s (12 + 7 * k + 3) (minI (s (12 + 7 * k + 3) + 1) 9999)
def newF (s : Nat → Int32) (k : Nat) (kd : Int32) : Nat → Int32 := upd (upd (upd (upd (upd (upd (upd s (12 + 7 * k + 0) kd) (12 + 7 * k + 1) 0) (12 + 7 * k + 2) 10) (12 + 7 * k + 3) 0) (12 + 7 * k + 4) 0) (12 + 7 * k + 5) 0) (12 + 7 * k + 6) 0
/-- parcel k becomes as parcel j of another row -/
def bcP (s u : Nat → Int32) (k j : Nat) : Nat → Int32 := upd (upd (upd (upd (upd (upd (upd s (12 + 7 * k + 0) (u (12 + 7 * j + 0))) (12 + 7 * k + 1) (u (12 + 7 * j + 1))) (12 + 7 * k + 2) (u (12 + 7 * j + 2))) (12 + 7 * k + 3) (u (12 + 7 * j + 3))) (12 + 7 * k + 4) (u (12 + 7 * j + 4))) (12 + 7 * k + 5) (u (12 + 7 * j + 5))) (12 + 7 * k + 6) (u (12 + 7 * j + 6))
def anc : Nat → Int32 → Int32 → Bool
  | 0, _, _ => false
  | n + 1, x, so => if x = -1 then false else if x = so then true else anc n (ovr x) so
theorem dX1_least_0 : decode cX1_least 0 = .ok (.iload_n 0, 1) := by decide +kernel
theorem dX1_least_1 : decode cX1_least 1 = .ok (.iconst 2, 1) := by decide +kernel
theorem dX1_least_2 : decode cX1_least 2 = .ok (.if_icmp .ne 7, 3) := by decide +kernel
theorem dX1_least_5 : decode cX1_least 5 = .ok (.iconst 1, 1) := by decide +kernel
theorem dX1_least_6 : decode cX1_least 6 = .ok (.goto 4, 3) := by decide +kernel
theorem dX1_least_9 : decode cX1_least 9 = .ok (.iconst 0, 1) := by decide +kernel
theorem dX1_least_10 : decode cX1_least 10 = .ok (.ireturn, 1) := by decide +kernel
set_option maxRecDepth 20000 in
set_option maxHeartbeats 4000000 in
theorem c_X1_least {K : Cx} {x : Int32} {m : TM} : CT yX1_least cX1_least 1 (some .int) 0 0 K [.int x] (m) (some (.int (lst x))) (m) := by
  refine ct_ofd (n := 0) (by decide +kernel) rfl rfl ?_
  show XX RX1 cX1_least 1 (some .int) 0 0 K 0 [some (.int x)] [] (m) (fun r1 m1 => r1 = (some (.int (lst x))) ∧ m1 = m)
  refine x_iload_n (q := 1) dX1_least_0 rfl rfl ?_
  refine x_iconst (q := 2) (v := 2) dX1_least_1 rfl (by decide) ?_
  refine x_icmp_ne (q := 5) (t := 9) dX1_least_2 rfl (by decide) (fun h2 => ?_) (fun h2 => ?_)
  · refine x_iconst (q := 10) (v := 0) dX1_least_9 rfl (by decide) ?_
    refine x_ireturn dX1_least_10 rfl rfl ?_
    exact ⟨by simp [lst, bI, *], rfl⟩
  refine x_iconst (q := 6) (v := 1) dX1_least_5 rfl (by decide) ?_
  refine x_goto (q := 10) dX1_least_6 (by decide) ?_
  refine x_ireturn dX1_least_10 rfl rfl ?_
  exact ⟨by simp [lst, bI, *], rfl⟩
theorem dX1_most_0 : decode cX1_most 0 = .ok (.iload_n 0, 1) := by decide +kernel
theorem dX1_most_1 : decode cX1_most 1 = .ok (.tableswitch 56 0 5 #[39, 42, 45, 48, 52, 54], 39) := by decide +kernel
theorem dX1_most_40 : decode cX1_most 40 = .ok (.bipush 6, 2) := by decide +kernel
theorem dX1_most_42 : decode cX1_most 42 = .ok (.ireturn, 1) := by decide +kernel
theorem dX1_most_43 : decode cX1_most 43 = .ok (.bipush 20, 2) := by decide +kernel
theorem dX1_most_45 : decode cX1_most 45 = .ok (.ireturn, 1) := by decide +kernel
theorem dX1_most_46 : decode cX1_most 46 = .ok (.bipush 99, 2) := by decide +kernel
theorem dX1_most_48 : decode cX1_most 48 = .ok (.ireturn, 1) := by decide +kernel
theorem dX1_most_49 : decode cX1_most 49 = .ok (.sipush 9999, 3) := by decide +kernel
theorem dX1_most_52 : decode cX1_most 52 = .ok (.ireturn, 1) := by decide +kernel
theorem dX1_most_53 : decode cX1_most 53 = .ok (.iconst 2, 1) := by decide +kernel
theorem dX1_most_54 : decode cX1_most 54 = .ok (.ireturn, 1) := by decide +kernel
theorem dX1_most_55 : decode cX1_most 55 = .ok (.iconst 1, 1) := by decide +kernel
theorem dX1_most_56 : decode cX1_most 56 = .ok (.ireturn, 1) := by decide +kernel
theorem dX1_most_57 : decode cX1_most 57 = .ok (.sipush 9999, 3) := by decide +kernel
theorem dX1_most_60 : decode cX1_most 60 = .ok (.ireturn, 1) := by decide +kernel
set_option maxRecDepth 20000 in
set_option maxHeartbeats 4000000 in
theorem c_X1_most {K : Cx} {x : Int32} {m : TM} : CT yX1_most cX1_most 1 (some .int) 0 0 K [.int x] (m) (some (.int (mst x))) (m) := by
  refine ct_ofd (n := 0) (by decide +kernel) rfl rfl ?_
  show XX RX1 cX1_most 1 (some .int) 0 0 K 0 [some (.int x)] [] (m) (fun r1 m1 => r1 = (some (.int (mst x))) ∧ m1 = m)
  refine x_iload_n (q := 1) dX1_most_0 rfl rfl ?_
  by_cases h1_0 : x = 0
  · refine x_tswC (q := 40) (k := 0) dX1_most_1 h1_0 (by decide) (by decide) rfl (by decide) ?_
    refine x_bipush (q := 42) (v := 6) dX1_most_40 rfl (by decide) ?_
    refine x_ireturn dX1_most_42 rfl rfl ?_
    exact ⟨by simp [mst, bI, *], rfl⟩
  by_cases h1_1 : x = 1
  · refine x_tswC (q := 43) (k := 1) dX1_most_1 h1_1 (by decide) (by decide) rfl (by decide) ?_
    refine x_bipush (q := 45) (v := 20) dX1_most_43 rfl (by decide) ?_
    refine x_ireturn dX1_most_45 rfl rfl ?_
    exact ⟨by simp [mst, bI, *], rfl⟩
  by_cases h1_2 : x = 2
  · refine x_tswC (q := 46) (k := 2) dX1_most_1 h1_2 (by decide) (by decide) rfl (by decide) ?_
    refine x_bipush (q := 48) (v := 99) dX1_most_46 rfl (by decide) ?_
    refine x_ireturn dX1_most_48 rfl rfl ?_
    exact ⟨by simp [mst, bI, *], rfl⟩
  by_cases h1_3 : x = 3
  · refine x_tswC (q := 49) (k := 3) dX1_most_1 h1_3 (by decide) (by decide) rfl (by decide) ?_
    refine x_sipush (q := 52) (v := 9999) dX1_most_49 rfl (by decide) ?_
    refine x_ireturn dX1_most_52 rfl rfl ?_
    exact ⟨by simp [mst, bI, *], rfl⟩
  by_cases h1_4 : x = 4
  · refine x_tswC (q := 53) (k := 4) dX1_most_1 h1_4 (by decide) (by decide) rfl (by decide) ?_
    refine x_iconst (q := 54) (v := 2) dX1_most_53 rfl (by decide) ?_
    refine x_ireturn dX1_most_54 rfl rfl ?_
    exact ⟨by simp [mst, bI, *], rfl⟩
  by_cases h1_5 : x = 5
  · refine x_tswC (q := 55) (k := 5) dX1_most_1 h1_5 (by decide) (by decide) rfl (by decide) ?_
    refine x_iconst (q := 56) (v := 1) dX1_most_55 rfl (by decide) ?_
    refine x_ireturn dX1_most_56 rfl rfl ?_
    exact ⟨by simp [mst, bI, *], rfl⟩
  refine x_tswD (q := 57) dX1_most_1 (by have n0 := lv_neT h1_0 (a := 0) (by decide); have n1 := lv_neT h1_1 (a := 1) (by decide); have n2 := lv_neT h1_2 (a := 2) (by decide); have n3 := lv_neT h1_3 (a := 3) (by decide); have n4 := lv_neT h1_4 (a := 4) (by decide); have n5 := lv_neT h1_5 (a := 5) (by decide); omega) (by decide) ?_
  refine x_sipush (q := 60) (v := 9999) dX1_most_57 rfl (by decide) ?_
  refine x_ireturn dX1_most_60 rfl rfl ?_
  exact ⟨by simp [mst, bI, *], rfl⟩
theorem dX1_over_0 : decode cX1_over 0 = .ok (.iload_n 0, 1) := by decide +kernel
theorem dX1_over_1 : decode cX1_over 1 = .ok (.tableswitch 51 1 6 #[39, 41, 43, 45, 47, 49], 39) := by decide +kernel
theorem dX1_over_40 : decode cX1_over 40 = .ok (.iconst 0, 1) := by decide +kernel
theorem dX1_over_41 : decode cX1_over 41 = .ok (.ireturn, 1) := by decide +kernel
theorem dX1_over_42 : decode cX1_over 42 = .ok (.iconst 0, 1) := by decide +kernel
theorem dX1_over_43 : decode cX1_over 43 = .ok (.ireturn, 1) := by decide +kernel
theorem dX1_over_44 : decode cX1_over 44 = .ok (.iconst 2, 1) := by decide +kernel
theorem dX1_over_45 : decode cX1_over 45 = .ok (.ireturn, 1) := by decide +kernel
theorem dX1_over_46 : decode cX1_over 46 = .ok (.iconst 3, 1) := by decide +kernel
theorem dX1_over_47 : decode cX1_over 47 = .ok (.ireturn, 1) := by decide +kernel
theorem dX1_over_48 : decode cX1_over 48 = .ok (.iconst 0, 1) := by decide +kernel
theorem dX1_over_49 : decode cX1_over 49 = .ok (.ireturn, 1) := by decide +kernel
theorem dX1_over_50 : decode cX1_over 50 = .ok (.iconst 1, 1) := by decide +kernel
theorem dX1_over_51 : decode cX1_over 51 = .ok (.ireturn, 1) := by decide +kernel
theorem dX1_over_52 : decode cX1_over 52 = .ok (.iconst (-1), 1) := by decide +kernel
theorem dX1_over_53 : decode cX1_over 53 = .ok (.ireturn, 1) := by decide +kernel
set_option maxRecDepth 20000 in
set_option maxHeartbeats 4000000 in
theorem c_X1_over {K : Cx} {x : Int32} {m : TM} : CT yX1_over cX1_over 1 (some .int) 0 0 K [.int x] (m) (some (.int (ovr x))) (m) := by
  refine ct_ofd (n := 0) (by decide +kernel) rfl rfl ?_
  show XX RX1 cX1_over 1 (some .int) 0 0 K 0 [some (.int x)] [] (m) (fun r1 m1 => r1 = (some (.int (ovr x))) ∧ m1 = m)
  refine x_iload_n (q := 1) dX1_over_0 rfl rfl ?_
  by_cases h1_1 : x = 1
  · refine x_tswC (q := 40) (k := 1) dX1_over_1 h1_1 (by decide) (by decide) rfl (by decide) ?_
    refine x_iconst (q := 41) (v := 0) dX1_over_40 rfl (by decide) ?_
    refine x_ireturn dX1_over_41 rfl rfl ?_
    exact ⟨by simp [ovr, bI, *], rfl⟩
  by_cases h1_2 : x = 2
  · refine x_tswC (q := 42) (k := 2) dX1_over_1 h1_2 (by decide) (by decide) rfl (by decide) ?_
    refine x_iconst (q := 43) (v := 0) dX1_over_42 rfl (by decide) ?_
    refine x_ireturn dX1_over_43 rfl rfl ?_
    exact ⟨by simp [ovr, bI, *], rfl⟩
  by_cases h1_3 : x = 3
  · refine x_tswC (q := 44) (k := 3) dX1_over_1 h1_3 (by decide) (by decide) rfl (by decide) ?_
    refine x_iconst (q := 45) (v := 2) dX1_over_44 rfl (by decide) ?_
    refine x_ireturn dX1_over_45 rfl rfl ?_
    exact ⟨by simp [ovr, bI, *], rfl⟩
  by_cases h1_4 : x = 4
  · refine x_tswC (q := 46) (k := 4) dX1_over_1 h1_4 (by decide) (by decide) rfl (by decide) ?_
    refine x_iconst (q := 47) (v := 3) dX1_over_46 rfl (by decide) ?_
    refine x_ireturn dX1_over_47 rfl rfl ?_
    exact ⟨by simp [ovr, bI, *], rfl⟩
  by_cases h1_5 : x = 5
  · refine x_tswC (q := 48) (k := 5) dX1_over_1 h1_5 (by decide) (by decide) rfl (by decide) ?_
    refine x_iconst (q := 49) (v := 0) dX1_over_48 rfl (by decide) ?_
    refine x_ireturn dX1_over_49 rfl rfl ?_
    exact ⟨by simp [ovr, bI, *], rfl⟩
  by_cases h1_6 : x = 6
  · refine x_tswC (q := 50) (k := 6) dX1_over_1 h1_6 (by decide) (by decide) rfl (by decide) ?_
    refine x_iconst (q := 51) (v := 1) dX1_over_50 rfl (by decide) ?_
    refine x_ireturn dX1_over_51 rfl rfl ?_
    exact ⟨by simp [ovr, bI, *], rfl⟩
  refine x_tswD (q := 52) dX1_over_1 (by have n1 := lv_neT h1_1 (a := 1) (by decide); have n2 := lv_neT h1_2 (a := 2) (by decide); have n3 := lv_neT h1_3 (a := 3) (by decide); have n4 := lv_neT h1_4 (a := 4) (by decide); have n5 := lv_neT h1_5 (a := 5) (by decide); have n6 := lv_neT h1_6 (a := 6) (by decide); omega) (by decide) ?_
  refine x_iconst (q := 53) (v := (-1)) dX1_over_52 rfl (by decide) ?_
  refine x_ireturn dX1_over_53 rfl rfl ?_
  exact ⟨by simp [ovr, bI, *], rfl⟩
theorem dX1_moves_0 : decode cX1_moves 0 = .ok (.iload_n 0, 1) := by decide +kernel
theorem dX1_moves_1 : decode cX1_moves 1 = .ok (.tableswitch 51 1 6 #[39, 43, 45, 47, 49, 41], 39) := by decide +kernel
theorem dX1_moves_40 : decode cX1_moves 40 = .ok (.iconst 1, 1) := by decide +kernel
theorem dX1_moves_41 : decode cX1_moves 41 = .ok (.ireturn, 1) := by decide +kernel
theorem dX1_moves_42 : decode cX1_moves 42 = .ok (.iconst 1, 1) := by decide +kernel
theorem dX1_moves_43 : decode cX1_moves 43 = .ok (.ireturn, 1) := by decide +kernel
theorem dX1_moves_44 : decode cX1_moves 44 = .ok (.iconst 1, 1) := by decide +kernel
theorem dX1_moves_45 : decode cX1_moves 45 = .ok (.ireturn, 1) := by decide +kernel
theorem dX1_moves_46 : decode cX1_moves 46 = .ok (.iconst 1, 1) := by decide +kernel
theorem dX1_moves_47 : decode cX1_moves 47 = .ok (.ireturn, 1) := by decide +kernel
theorem dX1_moves_48 : decode cX1_moves 48 = .ok (.iconst 0, 1) := by decide +kernel
theorem dX1_moves_49 : decode cX1_moves 49 = .ok (.ireturn, 1) := by decide +kernel
theorem dX1_moves_50 : decode cX1_moves 50 = .ok (.iconst 5, 1) := by decide +kernel
theorem dX1_moves_51 : decode cX1_moves 51 = .ok (.ireturn, 1) := by decide +kernel
theorem dX1_moves_52 : decode cX1_moves 52 = .ok (.iconst 2, 1) := by decide +kernel
theorem dX1_moves_53 : decode cX1_moves 53 = .ok (.ireturn, 1) := by decide +kernel
set_option maxRecDepth 20000 in
set_option maxHeartbeats 4000000 in
theorem c_X1_moves {K : Cx} {x : Int32} {m : TM} : CT yX1_moves cX1_moves 1 (some .int) 0 0 K [.int x] (m) (some (.int (mvC x))) (m) := by
  refine ct_ofd (n := 0) (by decide +kernel) rfl rfl ?_
  show XX RX1 cX1_moves 1 (some .int) 0 0 K 0 [some (.int x)] [] (m) (fun r1 m1 => r1 = (some (.int (mvC x))) ∧ m1 = m)
  refine x_iload_n (q := 1) dX1_moves_0 rfl rfl ?_
  by_cases h1_1 : x = 1
  · refine x_tswC (q := 40) (k := 1) dX1_moves_1 h1_1 (by decide) (by decide) rfl (by decide) ?_
    refine x_iconst (q := 41) (v := 1) dX1_moves_40 rfl (by decide) ?_
    refine x_ireturn dX1_moves_41 rfl rfl ?_
    exact ⟨by simp [mvC, bI, *], rfl⟩
  by_cases h1_2 : x = 2
  · refine x_tswC (q := 44) (k := 2) dX1_moves_1 h1_2 (by decide) (by decide) rfl (by decide) ?_
    refine x_iconst (q := 45) (v := 1) dX1_moves_44 rfl (by decide) ?_
    refine x_ireturn dX1_moves_45 rfl rfl ?_
    exact ⟨by simp [mvC, bI, *], rfl⟩
  by_cases h1_3 : x = 3
  · refine x_tswC (q := 46) (k := 3) dX1_moves_1 h1_3 (by decide) (by decide) rfl (by decide) ?_
    refine x_iconst (q := 47) (v := 1) dX1_moves_46 rfl (by decide) ?_
    refine x_ireturn dX1_moves_47 rfl rfl ?_
    exact ⟨by simp [mvC, bI, *], rfl⟩
  by_cases h1_4 : x = 4
  · refine x_tswC (q := 48) (k := 4) dX1_moves_1 h1_4 (by decide) (by decide) rfl (by decide) ?_
    refine x_iconst (q := 49) (v := 0) dX1_moves_48 rfl (by decide) ?_
    refine x_ireturn dX1_moves_49 rfl rfl ?_
    exact ⟨by simp [mvC, bI, *], rfl⟩
  by_cases h1_5 : x = 5
  · refine x_tswC (q := 50) (k := 5) dX1_moves_1 h1_5 (by decide) (by decide) rfl (by decide) ?_
    refine x_iconst (q := 51) (v := 5) dX1_moves_50 rfl (by decide) ?_
    refine x_ireturn dX1_moves_51 rfl rfl ?_
    exact ⟨by simp [mvC, bI, *], rfl⟩
  by_cases h1_6 : x = 6
  · refine x_tswC (q := 42) (k := 6) dX1_moves_1 h1_6 (by decide) (by decide) rfl (by decide) ?_
    refine x_iconst (q := 43) (v := 1) dX1_moves_42 rfl (by decide) ?_
    refine x_ireturn dX1_moves_43 rfl rfl ?_
    exact ⟨by simp [mvC, bI, *], rfl⟩
  refine x_tswD (q := 52) dX1_moves_1 (by have n1 := lv_neT h1_1 (a := 1) (by decide); have n2 := lv_neT h1_2 (a := 2) (by decide); have n3 := lv_neT h1_3 (a := 3) (by decide); have n4 := lv_neT h1_4 (a := 4) (by decide); have n5 := lv_neT h1_5 (a := 5) (by decide); have n6 := lv_neT h1_6 (a := 6) (by decide); omega) (by decide) ?_
  refine x_iconst (q := 53) (v := 2) dX1_moves_52 rfl (by decide) ?_
  refine x_ireturn dX1_moves_53 rfl rfl ?_
  exact ⟨by simp [mvC, bI, *], rfl⟩
theorem dX1_lasts_0 : decode cX1_lasts 0 = .ok (.iload_n 0, 1) := by decide +kernel
theorem dX1_lasts_1 : decode cX1_lasts 1 = .ok (.tableswitch 58 1 6 #[39, 45, 48, 51, 55, 42], 39) := by decide +kernel
theorem dX1_lasts_40 : decode cX1_lasts 40 = .ok (.bipush 36, 2) := by decide +kernel
theorem dX1_lasts_42 : decode cX1_lasts 42 = .ok (.ireturn, 1) := by decide +kernel
theorem dX1_lasts_43 : decode cX1_lasts 43 = .ok (.bipush 66, 2) := by decide +kernel
theorem dX1_lasts_45 : decode cX1_lasts 45 = .ok (.ireturn, 1) := by decide +kernel
theorem dX1_lasts_46 : decode cX1_lasts 46 = .ok (.bipush 24, 2) := by decide +kernel
theorem dX1_lasts_48 : decode cX1_lasts 48 = .ok (.ireturn, 1) := by decide +kernel
theorem dX1_lasts_49 : decode cX1_lasts 49 = .ok (.bipush 24, 2) := by decide +kernel
theorem dX1_lasts_51 : decode cX1_lasts 51 = .ok (.ireturn, 1) := by decide +kernel
theorem dX1_lasts_52 : decode cX1_lasts 52 = .ok (.sipush 9999, 3) := by decide +kernel
theorem dX1_lasts_55 : decode cX1_lasts 55 = .ok (.ireturn, 1) := by decide +kernel
theorem dX1_lasts_56 : decode cX1_lasts 56 = .ok (.bipush 15, 2) := by decide +kernel
theorem dX1_lasts_58 : decode cX1_lasts 58 = .ok (.ireturn, 1) := by decide +kernel
theorem dX1_lasts_59 : decode cX1_lasts 59 = .ok (.bipush 12, 2) := by decide +kernel
theorem dX1_lasts_61 : decode cX1_lasts 61 = .ok (.ireturn, 1) := by decide +kernel
set_option maxRecDepth 20000 in
set_option maxHeartbeats 4000000 in
theorem c_X1_lasts {K : Cx} {x : Int32} {m : TM} : CT yX1_lasts cX1_lasts 1 (some .int) 0 0 K [.int x] (m) (some (.int (las x))) (m) := by
  refine ct_ofd (n := 0) (by decide +kernel) rfl rfl ?_
  show XX RX1 cX1_lasts 1 (some .int) 0 0 K 0 [some (.int x)] [] (m) (fun r1 m1 => r1 = (some (.int (las x))) ∧ m1 = m)
  refine x_iload_n (q := 1) dX1_lasts_0 rfl rfl ?_
  by_cases h1_1 : x = 1
  · refine x_tswC (q := 40) (k := 1) dX1_lasts_1 h1_1 (by decide) (by decide) rfl (by decide) ?_
    refine x_bipush (q := 42) (v := 36) dX1_lasts_40 rfl (by decide) ?_
    refine x_ireturn dX1_lasts_42 rfl rfl ?_
    exact ⟨by simp [las, bI, *], rfl⟩
  by_cases h1_2 : x = 2
  · refine x_tswC (q := 46) (k := 2) dX1_lasts_1 h1_2 (by decide) (by decide) rfl (by decide) ?_
    refine x_bipush (q := 48) (v := 24) dX1_lasts_46 rfl (by decide) ?_
    refine x_ireturn dX1_lasts_48 rfl rfl ?_
    exact ⟨by simp [las, bI, *], rfl⟩
  by_cases h1_3 : x = 3
  · refine x_tswC (q := 49) (k := 3) dX1_lasts_1 h1_3 (by decide) (by decide) rfl (by decide) ?_
    refine x_bipush (q := 51) (v := 24) dX1_lasts_49 rfl (by decide) ?_
    refine x_ireturn dX1_lasts_51 rfl rfl ?_
    exact ⟨by simp [las, bI, *], rfl⟩
  by_cases h1_4 : x = 4
  · refine x_tswC (q := 52) (k := 4) dX1_lasts_1 h1_4 (by decide) (by decide) rfl (by decide) ?_
    refine x_sipush (q := 55) (v := 9999) dX1_lasts_52 rfl (by decide) ?_
    refine x_ireturn dX1_lasts_55 rfl rfl ?_
    exact ⟨by simp [las, bI, *], rfl⟩
  by_cases h1_5 : x = 5
  · refine x_tswC (q := 56) (k := 5) dX1_lasts_1 h1_5 (by decide) (by decide) rfl (by decide) ?_
    refine x_bipush (q := 58) (v := 15) dX1_lasts_56 rfl (by decide) ?_
    refine x_ireturn dX1_lasts_58 rfl rfl ?_
    exact ⟨by simp [las, bI, *], rfl⟩
  by_cases h1_6 : x = 6
  · refine x_tswC (q := 43) (k := 6) dX1_lasts_1 h1_6 (by decide) (by decide) rfl (by decide) ?_
    refine x_bipush (q := 45) (v := 66) dX1_lasts_43 rfl (by decide) ?_
    refine x_ireturn dX1_lasts_45 rfl rfl ?_
    exact ⟨by simp [las, bI, *], rfl⟩
  refine x_tswD (q := 59) dX1_lasts_1 (by have n1 := lv_neT h1_1 (a := 1) (by decide); have n2 := lv_neT h1_2 (a := 2) (by decide); have n3 := lv_neT h1_3 (a := 3) (by decide); have n4 := lv_neT h1_4 (a := 4) (by decide); have n5 := lv_neT h1_5 (a := 5) (by decide); have n6 := lv_neT h1_6 (a := 6) (by decide); omega) (by decide) ?_
  refine x_bipush (q := 61) (v := 12) dX1_lasts_59 rfl (by decide) ?_
  refine x_ireturn dX1_lasts_61 rfl rfl ?_
  exact ⟨by simp [las, bI, *], rfl⟩
theorem dX1_delays_0 : decode cX1_delays 0 = .ok (.iload_n 0, 1) := by decide +kernel
theorem dX1_delays_1 : decode cX1_delays 1 = .ok (.lookupswitch 31 #[(3, 27), (4, 29)], 27) := by decide +kernel
theorem dX1_delays_28 : decode cX1_delays 28 = .ok (.iconst 1, 1) := by decide +kernel
theorem dX1_delays_29 : decode cX1_delays 29 = .ok (.ireturn, 1) := by decide +kernel
theorem dX1_delays_30 : decode cX1_delays 30 = .ok (.iconst 2, 1) := by decide +kernel
theorem dX1_delays_31 : decode cX1_delays 31 = .ok (.ireturn, 1) := by decide +kernel
theorem dX1_delays_32 : decode cX1_delays 32 = .ok (.iconst 0, 1) := by decide +kernel
theorem dX1_delays_33 : decode cX1_delays 33 = .ok (.ireturn, 1) := by decide +kernel
set_option maxRecDepth 20000 in
set_option maxHeartbeats 4000000 in
theorem c_X1_delays {K : Cx} {x : Int32} {m : TM} : CT yX1_delays cX1_delays 1 (some .int) 0 0 K [.int x] (m) (some (.int (dly x))) (m) := by
  refine ct_ofd (n := 0) (by decide +kernel) rfl rfl ?_
  show XX RX1 cX1_delays 1 (some .int) 0 0 K 0 [some (.int x)] [] (m) (fun r1 m1 => r1 = (some (.int (dly x))) ∧ m1 = m)
  refine x_iload_n (q := 1) dX1_delays_0 rfl rfl ?_
  by_cases h1_3 : x = 3
  · refine x_lsw (q := 28) (off := 27) dX1_delays_1 (by decide) (by rw [h1_3]; decide) (by decide) ?_
    refine x_iconst (q := 29) (v := 1) dX1_delays_28 rfl (by decide) ?_
    refine x_ireturn dX1_delays_29 rfl rfl ?_
    exact ⟨by simp [dly, bI, *], rfl⟩
  by_cases h1_4 : x = 4
  · refine x_lsw (q := 30) (off := 29) dX1_delays_1 (by decide) (by rw [h1_4]; decide) (by decide) ?_
    refine x_iconst (q := 31) (v := 2) dX1_delays_30 rfl (by decide) ?_
    refine x_ireturn dX1_delays_31 rfl rfl ?_
    exact ⟨by simp [dly, bI, *], rfl⟩
  refine x_lsw (q := 32) (off := 31) dX1_delays_1 (by decide) (by rw [show (#[(3, 27), (4, 29)] : Array (Int × Int)).toList = [(3, 27), (4, 29)] from rfl, lv_osw h1_3 (by decide), lv_osw h1_4 (by decide)]; rfl) (by decide) ?_
  refine x_iconst (q := 33) (v := 0) dX1_delays_32 rfl (by decide) ?_
  refine x_ireturn dX1_delays_33 rfl rfl ?_
  exact ⟨by simp [dly, bI, *], rfl⟩
theorem dX1_pays_0 : decode cX1_pays 0 = .ok (.iload_n 1, 1) := by decide +kernel
theorem dX1_pays_1 : decode cX1_pays 1 = .ok (.bipush 10, 2) := by decide +kernel
theorem dX1_pays_3 : decode cX1_pays 3 = .ok (.idiv, 1) := by decide +kernel
theorem dX1_pays_4 : decode cX1_pays 4 = .ok (.istore_n 2, 1) := by decide +kernel
theorem dX1_pays_5 : decode cX1_pays 5 = .ok (.iload_n 0, 1) := by decide +kernel
theorem dX1_pays_6 : decode cX1_pays 6 = .ok (.tableswitch 64 1 6 #[38, 42, 46, 53, 62, 40], 38) := by decide +kernel
theorem dX1_pays_44 : decode cX1_pays 44 = .ok (.iconst 0, 1) := by decide +kernel
theorem dX1_pays_45 : decode cX1_pays 45 = .ok (.ireturn, 1) := by decide +kernel
theorem dX1_pays_46 : decode cX1_pays 46 = .ok (.iconst 5, 1) := by decide +kernel
theorem dX1_pays_47 : decode cX1_pays 47 = .ok (.ireturn, 1) := by decide +kernel
theorem dX1_pays_48 : decode cX1_pays 48 = .ok (.iconst 2, 1) := by decide +kernel
theorem dX1_pays_49 : decode cX1_pays 49 = .ok (.iload_n 2, 1) := by decide +kernel
theorem dX1_pays_50 : decode cX1_pays 50 = .ok (.imul, 1) := by decide +kernel
theorem dX1_pays_51 : decode cX1_pays 51 = .ok (.ireturn, 1) := by decide +kernel
theorem dX1_pays_52 : decode cX1_pays 52 = .ok (.iconst 2, 1) := by decide +kernel
theorem dX1_pays_53 : decode cX1_pays 53 = .ok (.iload_n 2, 1) := by decide +kernel
theorem dX1_pays_54 : decode cX1_pays 54 = .ok (.imul, 1) := by decide +kernel
theorem dX1_pays_55 : decode cX1_pays 55 = .ok (.bipush 10, 2) := by decide +kernel
theorem dX1_pays_57 : decode cX1_pays 57 = .ok (.iadd, 1) := by decide +kernel
theorem dX1_pays_58 : decode cX1_pays 58 = .ok (.ireturn, 1) := by decide +kernel
theorem dX1_pays_59 : decode cX1_pays 59 = .ok (.iconst 3, 1) := by decide +kernel
theorem dX1_pays_60 : decode cX1_pays 60 = .ok (.iconst 2, 1) := by decide +kernel
theorem dX1_pays_61 : decode cX1_pays 61 = .ok (.iload_n 2, 1) := by decide +kernel
theorem dX1_pays_62 : decode cX1_pays 62 = .ok (.imul, 1) := by decide +kernel
theorem dX1_pays_63 : decode cX1_pays 63 = .ok (.bipush 10, 2) := by decide +kernel
theorem dX1_pays_65 : decode cX1_pays 65 = .ok (.iadd, 1) := by decide +kernel
theorem dX1_pays_66 : decode cX1_pays 66 = .ok (.imul, 1) := by decide +kernel
theorem dX1_pays_67 : decode cX1_pays 67 = .ok (.ireturn, 1) := by decide +kernel
theorem dX1_pays_68 : decode cX1_pays 68 = .ok (.iconst 1, 1) := by decide +kernel
theorem dX1_pays_69 : decode cX1_pays 69 = .ok (.ireturn, 1) := by decide +kernel
theorem dX1_pays_70 : decode cX1_pays 70 = .ok (.iload_n 2, 1) := by decide +kernel
theorem dX1_pays_71 : decode cX1_pays 71 = .ok (.ireturn, 1) := by decide +kernel
set_option maxRecDepth 20000 in
set_option maxHeartbeats 4000000 in
theorem c_X1_pays {K : Cx} {x w : Int32} {m : TM} : CT yX1_pays cX1_pays 3 (some .int) 0 0 K [.int x, .int w] (m) (some (.int (pys x w))) (m) := by
  refine ct_ofd (n := 1) (by decide +kernel) rfl rfl ?_
  show XX RX1 cX1_pays 3 (some .int) 0 0 K 0 [some (.int x), some (.int w), none] [] (m) (fun r1 m1 => r1 = (some (.int (pys x w))) ∧ m1 = m)
  refine x_iload_n (q := 1) dX1_pays_0 rfl rfl ?_
  refine x_bipush (q := 3) (v := 10) dX1_pays_1 rfl (by decide) ?_
  refine x_idiv (q := 4) dX1_pays_3 rfl (by decide) ?_
  refine x_istore_n (q := 5) dX1_pays_4 rfl (by decide) rfl rfl ?_
  refine x_iload_n (q := 6) dX1_pays_5 rfl rfl ?_
  by_cases h6_1 : x = 1
  · refine x_tswC (q := 44) (k := 1) dX1_pays_6 h6_1 (by decide) (by decide) rfl (by decide) ?_
    refine x_iconst (q := 45) (v := 0) dX1_pays_44 rfl (by decide) ?_
    refine x_ireturn dX1_pays_45 rfl rfl ?_
    exact ⟨by simp [pys, bI, *], rfl⟩
  by_cases h6_2 : x = 2
  · refine x_tswC (q := 48) (k := 2) dX1_pays_6 h6_2 (by decide) (by decide) rfl (by decide) ?_
    refine x_iconst (q := 49) (v := 2) dX1_pays_48 rfl (by decide) ?_
    refine x_iload_n (q := 50) dX1_pays_49 rfl rfl ?_
    refine x_imul (q := 51) dX1_pays_50 rfl ?_
    refine x_ireturn dX1_pays_51 rfl rfl ?_
    exact ⟨by simp [pys, bI, *], rfl⟩
  by_cases h6_3 : x = 3
  · refine x_tswC (q := 52) (k := 3) dX1_pays_6 h6_3 (by decide) (by decide) rfl (by decide) ?_
    refine x_iconst (q := 53) (v := 2) dX1_pays_52 rfl (by decide) ?_
    refine x_iload_n (q := 54) dX1_pays_53 rfl rfl ?_
    refine x_imul (q := 55) dX1_pays_54 rfl ?_
    refine x_bipush (q := 57) (v := 10) dX1_pays_55 rfl (by decide) ?_
    refine x_iadd (q := 58) dX1_pays_57 rfl ?_
    refine x_ireturn dX1_pays_58 rfl rfl ?_
    exact ⟨by simp [pys, bI, *], rfl⟩
  by_cases h6_4 : x = 4
  · refine x_tswC (q := 59) (k := 4) dX1_pays_6 h6_4 (by decide) (by decide) rfl (by decide) ?_
    refine x_iconst (q := 60) (v := 3) dX1_pays_59 rfl (by decide) ?_
    refine x_iconst (q := 61) (v := 2) dX1_pays_60 rfl (by decide) ?_
    refine x_iload_n (q := 62) dX1_pays_61 rfl rfl ?_
    refine x_imul (q := 63) dX1_pays_62 rfl ?_
    refine x_bipush (q := 65) (v := 10) dX1_pays_63 rfl (by decide) ?_
    refine x_iadd (q := 66) dX1_pays_65 rfl ?_
    refine x_imul (q := 67) dX1_pays_66 rfl ?_
    refine x_ireturn dX1_pays_67 rfl rfl ?_
    exact ⟨by simp [pys, bI, *], rfl⟩
  by_cases h6_5 : x = 5
  · refine x_tswC (q := 68) (k := 5) dX1_pays_6 h6_5 (by decide) (by decide) rfl (by decide) ?_
    refine x_iconst (q := 69) (v := 1) dX1_pays_68 rfl (by decide) ?_
    refine x_ireturn dX1_pays_69 rfl rfl ?_
    exact ⟨by simp [pys, bI, *], rfl⟩
  by_cases h6_6 : x = 6
  · refine x_tswC (q := 46) (k := 6) dX1_pays_6 h6_6 (by decide) (by decide) rfl (by decide) ?_
    refine x_iconst (q := 47) (v := 5) dX1_pays_46 rfl (by decide) ?_
    refine x_ireturn dX1_pays_47 rfl rfl ?_
    exact ⟨by simp [pys, bI, *], rfl⟩
  refine x_tswD (q := 70) dX1_pays_6 (by have n1 := lv_neT h6_1 (a := 1) (by decide); have n2 := lv_neT h6_2 (a := 2) (by decide); have n3 := lv_neT h6_3 (a := 3) (by decide); have n4 := lv_neT h6_4 (a := 4) (by decide); have n5 := lv_neT h6_5 (a := 5) (by decide); have n6 := lv_neT h6_6 (a := 6) (by decide); omega) (by decide) ?_
  refine x_iload_n (q := 71) dX1_pays_70 rfl rfl ?_
  refine x_ireturn dX1_pays_71 rfl rfl ?_
  exact ⟨by simp [pys, bI, *], rfl⟩
theorem dX1_isStoned_0 : decode cX1_isStoned 0 = .ok (.iload_n 0, 1) := by decide +kernel
theorem dX1_isStoned_1 : decode cX1_isStoned 1 = .ok (.iconst 5, 1) := by decide +kernel
theorem dX1_isStoned_2 : decode cX1_isStoned 2 = .ok (.if_icmp .lt 7, 3) := by decide +kernel
theorem dX1_isStoned_5 : decode cX1_isStoned 5 = .ok (.iconst 1, 1) := by decide +kernel
theorem dX1_isStoned_6 : decode cX1_isStoned 6 = .ok (.goto 4, 3) := by decide +kernel
theorem dX1_isStoned_9 : decode cX1_isStoned 9 = .ok (.iconst 0, 1) := by decide +kernel
theorem dX1_isStoned_10 : decode cX1_isStoned 10 = .ok (.ireturn, 1) := by decide +kernel
set_option maxRecDepth 20000 in
set_option maxHeartbeats 4000000 in
theorem c_X1_isStoned {K : Cx} {w : Int32} {m : TM} : CT yX1_isStoned cX1_isStoned 1 (some .boolean) 0 0 K [.int w] (m) (some (.int (bI (!decide (w < 5))))) (m) := by
  refine ct_ofd (n := 0) (by decide +kernel) rfl rfl ?_
  show XX RX1 cX1_isStoned 1 (some .boolean) 0 0 K 0 [some (.int w)] [] (m) (fun r1 m1 => r1 = (some (.int (bI (!decide (w < 5))))) ∧ m1 = m)
  refine x_iload_n (q := 1) dX1_isStoned_0 rfl rfl ?_
  refine x_iconst (q := 2) (v := 5) dX1_isStoned_1 rfl (by decide) ?_
  refine x_icmp_lt (q := 5) (t := 9) dX1_isStoned_2 rfl (by decide) (fun h2 => ?_) (fun h2 => ?_)
  · refine x_iconst (q := 10) (v := 0) dX1_isStoned_9 rfl (by decide) ?_
    refine x_ireturn dX1_isStoned_10 rfl (by decide) ?_
    exact ⟨by simp [bI, bI, *], rfl⟩
  refine x_iconst (q := 6) (v := 1) dX1_isStoned_5 rfl (by decide) ?_
  refine x_goto (q := 10) dX1_isStoned_6 (by decide) ?_
  refine x_ireturn dX1_isStoned_10 rfl (by decide) ?_
  exact ⟨by simp [bI, bI, *], rfl⟩
theorem dX1_sinks_0 : decode cX1_sinks 0 = .ok (.iload_n 0, 1) := by decide +kernel
theorem dX1_sinks_1 : decode cX1_sinks 1 = .ok (.bipush 20, 2) := by decide +kernel
theorem dX1_sinks_3 : decode cX1_sinks 3 = .ok (.idiv, 1) := by decide +kernel
theorem dX1_sinks_4 : decode cX1_sinks 4 = .ok (.ireturn, 1) := by decide +kernel
set_option maxRecDepth 20000 in
set_option maxHeartbeats 4000000 in
theorem c_X1_sinks {K : Cx} {w : Int32} {m : TM} : CT yX1_sinks cX1_sinks 1 (some .int) 0 0 K [.int w] (m) (some (.int (w / 20))) (m) := by
  refine ct_ofd (n := 0) (by decide +kernel) rfl rfl ?_
  show XX RX1 cX1_sinks 1 (some .int) 0 0 K 0 [some (.int w)] [] (m) (fun r1 m1 => r1 = (some (.int (w / 20))) ∧ m1 = m)
  refine x_iload_n (q := 1) dX1_sinks_0 rfl rfl ?_
  refine x_bipush (q := 3) (v := 20) dX1_sinks_1 rfl (by decide) ?_
  refine x_idiv (q := 4) dX1_sinks_3 rfl (by decide) ?_
  refine x_ireturn dX1_sinks_4 rfl rfl ?_
  exact ⟨by simp [bI, bI, *], rfl⟩
theorem dX1_weighAlike_0 : decode cX1_weighAlike 0 = .ok (.iload_n 0, 1) := by decide +kernel
theorem dX1_weighAlike_1 : decode cX1_weighAlike 1 = .ok (.invokestatic 50, 3) := by decide +kernel
theorem dX1_weighAlike_4 : decode cX1_weighAlike 4 = .ok (.iload_n 1, 1) := by decide +kernel
theorem dX1_weighAlike_5 : decode cX1_weighAlike 5 = .ok (.invokestatic 50, 3) := by decide +kernel
theorem dX1_weighAlike_8 : decode cX1_weighAlike 8 = .ok (.if_icmp .ne 18, 3) := by decide +kernel
theorem dX1_weighAlike_11 : decode cX1_weighAlike 11 = .ok (.iload_n 0, 1) := by decide +kernel
theorem dX1_weighAlike_12 : decode cX1_weighAlike 12 = .ok (.invokestatic 54, 3) := by decide +kernel
theorem dX1_weighAlike_15 : decode cX1_weighAlike 15 = .ok (.iload_n 1, 1) := by decide +kernel
theorem dX1_weighAlike_16 : decode cX1_weighAlike 16 = .ok (.invokestatic 54, 3) := by decide +kernel
theorem dX1_weighAlike_19 : decode cX1_weighAlike 19 = .ok (.if_icmp .ne 7, 3) := by decide +kernel
theorem dX1_weighAlike_22 : decode cX1_weighAlike 22 = .ok (.iconst 1, 1) := by decide +kernel
theorem dX1_weighAlike_23 : decode cX1_weighAlike 23 = .ok (.goto 4, 3) := by decide +kernel
theorem dX1_weighAlike_26 : decode cX1_weighAlike 26 = .ok (.iconst 0, 1) := by decide +kernel
theorem dX1_weighAlike_27 : decode cX1_weighAlike 27 = .ok (.ireturn, 1) := by decide +kernel
set_option maxRecDepth 20000 in
set_option maxHeartbeats 4000000 in
theorem c_X1_weighAlike {K : Cx} {a b : Int32} {m : TM} : CT yX1_weighAlike cX1_weighAlike 2 (some .boolean) 1 20 K [.int a, .int b] (m) (some (.int (bI (wal a b)))) (m) := by
  refine ct_ofd (n := 0) (by decide +kernel) rfl rfl ?_
  show XX RX1 cX1_weighAlike 2 (some .boolean) 1 20 K 0 [some (.int a), some (.int b)] [] (m) (fun r1 m1 => r1 = (some (.int (bI (wal a b)))) ∧ m1 = m)
  refine x_iload_n (q := 1) dX1_weighAlike_0 rfl rfl ?_
  refine x_callS1v (q := 4) dX1_weighAlike_1 rfl ml_X1_50 ms_X1_isStoned c_X1_isStoned (Nat.le_of_ble_eq_true rfl) ⟨by decide, by decide⟩ ?_
  refine x_iload_n (q := 5) dX1_weighAlike_4 rfl rfl ?_
  refine x_callS1v (q := 8) dX1_weighAlike_5 rfl ml_X1_50 ms_X1_isStoned c_X1_isStoned (Nat.le_of_ble_eq_true rfl) ⟨by decide, by decide⟩ ?_
  refine x_icmp_ne (q := 11) (t := 26) dX1_weighAlike_8 rfl (by decide) (fun h8 => ?_) (fun h8 => ?_)
  · refine x_iconst (q := 27) (v := 0) dX1_weighAlike_26 rfl (by decide) ?_
    refine x_ireturn dX1_weighAlike_27 rfl (by decide) ?_
    exact ⟨by first | (rw [wal, decide_eq_true h8, decide_eq_true h19]; rfl) | (rw [wal, decide_eq_false h19, Bool.and_false]; rfl) | (rw [wal, decide_eq_false h8]; rfl), rfl⟩
  refine x_iload_n (q := 12) dX1_weighAlike_11 rfl rfl ?_
  refine x_callS1v (q := 15) dX1_weighAlike_12 rfl ml_X1_54 ms_X1_sinks c_X1_sinks (Nat.le_of_ble_eq_true rfl) ⟨by decide, by decide⟩ ?_
  refine x_iload_n (q := 16) dX1_weighAlike_15 rfl rfl ?_
  refine x_callS1v (q := 19) dX1_weighAlike_16 rfl ml_X1_54 ms_X1_sinks c_X1_sinks (Nat.le_of_ble_eq_true rfl) ⟨by decide, by decide⟩ ?_
  refine x_icmp_ne (q := 22) (t := 26) dX1_weighAlike_19 rfl (by decide) (fun h19 => ?_) (fun h19 => ?_)
  · refine x_iconst (q := 27) (v := 0) dX1_weighAlike_26 rfl (by decide) ?_
    refine x_ireturn dX1_weighAlike_27 rfl (by decide) ?_
    exact ⟨by first | (rw [wal, decide_eq_true h8, decide_eq_true h19]; rfl) | (rw [wal, decide_eq_false h19, Bool.and_false]; rfl) | (rw [wal, decide_eq_false h8]; rfl), rfl⟩
  refine x_iconst (q := 23) (v := 1) dX1_weighAlike_22 rfl (by decide) ?_
  refine x_goto (q := 27) dX1_weighAlike_23 (by decide) ?_
  refine x_ireturn dX1_weighAlike_27 rfl (by decide) ?_
  exact ⟨by first | (rw [wal, decide_eq_true h8, decide_eq_true h19]; rfl) | (rw [wal, decide_eq_false h19, Bool.and_false]; rfl) | (rw [wal, decide_eq_false h8]; rfl), rfl⟩
theorem dX1_isTouched_0 : decode cX1_isTouched 0 = .ok (.iload_n 1, 1) := by decide +kernel
theorem dX1_isTouched_1 : decode cX1_isTouched 1 = .ok (.aload_n 0, 1) := by decide +kernel
theorem dX1_isTouched_2 : decode cX1_isTouched 2 = .ok (.getfield 15, 3) := by decide +kernel
theorem dX1_isTouched_5 : decode cX1_isTouched 5 = .ok (.iconst 3, 1) := by decide +kernel
theorem dX1_isTouched_6 : decode cX1_isTouched 6 = .ok (.isub, 1) := by decide +kernel
theorem dX1_isTouched_7 : decode cX1_isTouched 7 = .ok (.if_icmp .lt 11, 3) := by decide +kernel
theorem dX1_isTouched_10 : decode cX1_isTouched 10 = .ok (.iload_n 1, 1) := by decide +kernel
theorem dX1_isTouched_11 : decode cX1_isTouched 11 = .ok (.ifCond .le 7, 3) := by decide +kernel
theorem dX1_isTouched_14 : decode cX1_isTouched 14 = .ok (.iconst 1, 1) := by decide +kernel
theorem dX1_isTouched_15 : decode cX1_isTouched 15 = .ok (.goto 4, 3) := by decide +kernel
theorem dX1_isTouched_18 : decode cX1_isTouched 18 = .ok (.iconst 0, 1) := by decide +kernel
theorem dX1_isTouched_19 : decode cX1_isTouched 19 = .ok (.ireturn, 1) := by decide +kernel
set_option maxRecDepth 20000 in
set_option maxHeartbeats 4000000 in
theorem c_X1_isTouched {K : Cx} {b k : Nat} {s : Nat → Int32} {t : Int32} {m : TM} (hb : isC b) (hk : k < 8) : CT yX1_isTouched cX1_isTouched 2 (some .boolean) 0 0 K [.ref (b + 4 + k), .int t] (sr m b s) (some (.int (bI (tch (s (12 + 7 * k + 1)) t)))) (sr m b s) := by
  refine ct_ofd (n := 0) (by decide +kernel) rfl rfl ?_
  show XX RX1 cX1_isTouched 2 (some .boolean) 0 0 K 0 [some (.ref (b + 4 + k)), some (.int t)] [] (sr m b s) (fun r1 m1 => r1 = (some (.int (bI (tch (s (12 + 7 * k + 1)) t)))) ∧ m1 = sr m b s)
  refine x_iload_n (q := 1) dX1_isTouched_0 rfl rfl ?_
  refine x_aload_n (q := 2) dX1_isTouched_1 rfl rfl ?_
  refine x_getIr (q := 5) dX1_isTouched_2 rfl fl_X1_15 (ob1 hb hk 1 (by decide)) ?_
  refine x_iconst (q := 6) (v := 3) dX1_isTouched_5 rfl (by decide) ?_
  refine x_isub (q := 7) dX1_isTouched_6 rfl ?_
  refine x_icmp_lt (q := 10) (t := 18) dX1_isTouched_7 rfl (by decide) (fun h7 => ?_) (fun h7 => ?_)
  · refine x_iconst (q := 19) (v := 0) dX1_isTouched_18 rfl (by decide) ?_
    refine x_ireturn dX1_isTouched_19 rfl (by decide) ?_
    exact ⟨by simp [tch, bI, *], rfl⟩
  refine x_iload_n (q := 11) dX1_isTouched_10 rfl rfl ?_
  refine x_if_le (q := 14) (t := 18) dX1_isTouched_11 rfl (by decide) (fun h11 => ?_) (fun h11 => ?_)
  · refine x_iconst (q := 19) (v := 0) dX1_isTouched_18 rfl (by decide) ?_
    refine x_ireturn dX1_isTouched_19 rfl (by decide) ?_
    exact ⟨by simp [tch, bI, *], rfl⟩
  refine x_iconst (q := 15) (v := 1) dX1_isTouched_14 rfl (by decide) ?_
  refine x_goto (q := 19) dX1_isTouched_15 (by decide) ?_
  refine x_ireturn dX1_isTouched_19 rfl (by decide) ?_
  exact ⟨by simp [tch, bI, *], rfl⟩
theorem dX1_isSignedFor_0 : decode cX1_isSignedFor 0 = .ok (.aload_n 0, 1) := by decide +kernel
theorem dX1_isSignedFor_1 : decode cX1_isSignedFor 1 = .ok (.getfield 9, 3) := by decide +kernel
theorem dX1_isSignedFor_4 : decode cX1_isSignedFor 4 = .ok (.tableswitch 179 1 6 #[40, 94, 116, 138, 169, 64], 40) := by decide +kernel
theorem dX1_isSignedFor_44 : decode cX1_isSignedFor 44 = .ok (.iload_n 1, 1) := by decide +kernel
theorem dX1_isSignedFor_45 : decode cX1_isSignedFor 45 = .ok (.aload_n 0, 1) := by decide +kernel
theorem dX1_isSignedFor_46 : decode cX1_isSignedFor 46 = .ok (.getfield 15, 3) := by decide +kernel
theorem dX1_isSignedFor_49 : decode cX1_isSignedFor 49 = .ok (.if_icmp .lt 17, 3) := by decide +kernel
theorem dX1_isSignedFor_52 : decode cX1_isSignedFor 52 = .ok (.aload_n 0, 1) := by decide +kernel
theorem dX1_isSignedFor_53 : decode cX1_isSignedFor 53 = .ok (.getfield 18, 3) := by decide +kernel
theorem dX1_isSignedFor_56 : decode cX1_isSignedFor 56 = .ok (.invokestatic 50, 3) := by decide +kernel
theorem dX1_isSignedFor_59 : decode cX1_isSignedFor 59 = .ok (.ifCond .eq 7, 3) := by decide +kernel
theorem dX1_isSignedFor_62 : decode cX1_isSignedFor 62 = .ok (.iconst 1, 1) := by decide +kernel
theorem dX1_isSignedFor_63 : decode cX1_isSignedFor 63 = .ok (.goto 4, 3) := by decide +kernel
theorem dX1_isSignedFor_66 : decode cX1_isSignedFor 66 = .ok (.iconst 0, 1) := by decide +kernel
theorem dX1_isSignedFor_67 : decode cX1_isSignedFor 67 = .ok (.ireturn, 1) := by decide +kernel
theorem dX1_isSignedFor_68 : decode cX1_isSignedFor 68 = .ok (.iload_n 1, 1) := by decide +kernel
theorem dX1_isSignedFor_69 : decode cX1_isSignedFor 69 = .ok (.aload_n 0, 1) := by decide +kernel
theorem dX1_isSignedFor_70 : decode cX1_isSignedFor 70 = .ok (.getfield 15, 3) := by decide +kernel
theorem dX1_isSignedFor_73 : decode cX1_isSignedFor 73 = .ok (.if_icmp .lt 23, 3) := by decide +kernel
theorem dX1_isSignedFor_76 : decode cX1_isSignedFor 76 = .ok (.aload_n 0, 1) := by decide +kernel
theorem dX1_isSignedFor_77 : decode cX1_isSignedFor 77 = .ok (.getfield 18, 3) := by decide +kernel
theorem dX1_isSignedFor_80 : decode cX1_isSignedFor 80 = .ok (.invokestatic 50, 3) := by decide +kernel
theorem dX1_isSignedFor_83 : decode cX1_isSignedFor 83 = .ok (.ifCond .eq 13, 3) := by decide +kernel
theorem dX1_isSignedFor_86 : decode cX1_isSignedFor 86 = .ok (.iload_n 2, 1) := by decide +kernel
theorem dX1_isSignedFor_87 : decode cX1_isSignedFor 87 = .ok (.iconst 2, 1) := by decide +kernel
theorem dX1_isSignedFor_88 : decode cX1_isSignedFor 88 = .ok (.irem, 1) := by decide +kernel
theorem dX1_isSignedFor_89 : decode cX1_isSignedFor 89 = .ok (.ifCond .ne 7, 3) := by decide +kernel
theorem dX1_isSignedFor_92 : decode cX1_isSignedFor 92 = .ok (.iconst 1, 1) := by decide +kernel
theorem dX1_isSignedFor_93 : decode cX1_isSignedFor 93 = .ok (.goto 4, 3) := by decide +kernel
theorem dX1_isSignedFor_96 : decode cX1_isSignedFor 96 = .ok (.iconst 0, 1) := by decide +kernel
theorem dX1_isSignedFor_97 : decode cX1_isSignedFor 97 = .ok (.ireturn, 1) := by decide +kernel
theorem dX1_isSignedFor_98 : decode cX1_isSignedFor 98 = .ok (.iload_n 1, 1) := by decide +kernel
theorem dX1_isSignedFor_99 : decode cX1_isSignedFor 99 = .ok (.aload_n 0, 1) := by decide +kernel
theorem dX1_isSignedFor_100 : decode cX1_isSignedFor 100 = .ok (.getfield 15, 3) := by decide +kernel
theorem dX1_isSignedFor_103 : decode cX1_isSignedFor 103 = .ok (.aload_n 0, 1) := by decide +kernel
theorem dX1_isSignedFor_104 : decode cX1_isSignedFor 104 = .ok (.getfield 18, 3) := by decide +kernel
theorem dX1_isSignedFor_107 : decode cX1_isSignedFor 107 = .ok (.invokestatic 54, 3) := by decide +kernel
theorem dX1_isSignedFor_110 : decode cX1_isSignedFor 110 = .ok (.iadd, 1) := by decide +kernel
theorem dX1_isSignedFor_111 : decode cX1_isSignedFor 111 = .ok (.if_icmp .lt 7, 3) := by decide +kernel
theorem dX1_isSignedFor_114 : decode cX1_isSignedFor 114 = .ok (.iconst 1, 1) := by decide +kernel
theorem dX1_isSignedFor_115 : decode cX1_isSignedFor 115 = .ok (.goto 4, 3) := by decide +kernel
theorem dX1_isSignedFor_118 : decode cX1_isSignedFor 118 = .ok (.iconst 0, 1) := by decide +kernel
theorem dX1_isSignedFor_119 : decode cX1_isSignedFor 119 = .ok (.ireturn, 1) := by decide +kernel
theorem dX1_isSignedFor_120 : decode cX1_isSignedFor 120 = .ok (.iload_n 1, 1) := by decide +kernel
theorem dX1_isSignedFor_121 : decode cX1_isSignedFor 121 = .ok (.aload_n 0, 1) := by decide +kernel
theorem dX1_isSignedFor_122 : decode cX1_isSignedFor 122 = .ok (.getfield 15, 3) := by decide +kernel
theorem dX1_isSignedFor_125 : decode cX1_isSignedFor 125 = .ok (.aload_n 0, 1) := by decide +kernel
theorem dX1_isSignedFor_126 : decode cX1_isSignedFor 126 = .ok (.getfield 18, 3) := by decide +kernel
theorem dX1_isSignedFor_129 : decode cX1_isSignedFor 129 = .ok (.invokestatic 54, 3) := by decide +kernel
theorem dX1_isSignedFor_132 : decode cX1_isSignedFor 132 = .ok (.iadd, 1) := by decide +kernel
theorem dX1_isSignedFor_133 : decode cX1_isSignedFor 133 = .ok (.if_icmp .lt 7, 3) := by decide +kernel
theorem dX1_isSignedFor_136 : decode cX1_isSignedFor 136 = .ok (.iconst 1, 1) := by decide +kernel
theorem dX1_isSignedFor_137 : decode cX1_isSignedFor 137 = .ok (.goto 4, 3) := by decide +kernel
theorem dX1_isSignedFor_140 : decode cX1_isSignedFor 140 = .ok (.iconst 0, 1) := by decide +kernel
theorem dX1_isSignedFor_141 : decode cX1_isSignedFor 141 = .ok (.ireturn, 1) := by decide +kernel
theorem dX1_isSignedFor_142 : decode cX1_isSignedFor 142 = .ok (.iload_n 1, 1) := by decide +kernel
theorem dX1_isSignedFor_143 : decode cX1_isSignedFor 143 = .ok (.aload_n 0, 1) := by decide +kernel
theorem dX1_isSignedFor_144 : decode cX1_isSignedFor 144 = .ok (.getfield 15, 3) := by decide +kernel
theorem dX1_isSignedFor_147 : decode cX1_isSignedFor 147 = .ok (.aload_n 0, 1) := by decide +kernel
theorem dX1_isSignedFor_148 : decode cX1_isSignedFor 148 = .ok (.getfield 18, 3) := by decide +kernel
theorem dX1_isSignedFor_151 : decode cX1_isSignedFor 151 = .ok (.invokestatic 54, 3) := by decide +kernel
theorem dX1_isSignedFor_154 : decode cX1_isSignedFor 154 = .ok (.iadd, 1) := by decide +kernel
theorem dX1_isSignedFor_155 : decode cX1_isSignedFor 155 = .ok (.if_icmp .lt 16, 3) := by decide +kernel
theorem dX1_isSignedFor_158 : decode cX1_isSignedFor 158 = .ok (.aload_n 0, 1) := by decide +kernel
theorem dX1_isSignedFor_159 : decode cX1_isSignedFor 159 = .ok (.getfield 30, 3) := by decide +kernel
theorem dX1_isSignedFor_162 : decode cX1_isSignedFor 162 = .ok (.bipush 7, 2) := by decide +kernel
theorem dX1_isSignedFor_164 : decode cX1_isSignedFor 164 = .ok (.if_icmp .lt 7, 3) := by decide +kernel
theorem dX1_isSignedFor_167 : decode cX1_isSignedFor 167 = .ok (.iconst 1, 1) := by decide +kernel
theorem dX1_isSignedFor_168 : decode cX1_isSignedFor 168 = .ok (.goto 4, 3) := by decide +kernel
theorem dX1_isSignedFor_171 : decode cX1_isSignedFor 171 = .ok (.iconst 0, 1) := by decide +kernel
theorem dX1_isSignedFor_172 : decode cX1_isSignedFor 172 = .ok (.ireturn, 1) := by decide +kernel
theorem dX1_isSignedFor_173 : decode cX1_isSignedFor 173 = .ok (.iload_n 1, 1) := by decide +kernel
theorem dX1_isSignedFor_174 : decode cX1_isSignedFor 174 = .ok (.ifCond .le 7, 3) := by decide +kernel
theorem dX1_isSignedFor_177 : decode cX1_isSignedFor 177 = .ok (.iconst 1, 1) := by decide +kernel
theorem dX1_isSignedFor_178 : decode cX1_isSignedFor 178 = .ok (.goto 4, 3) := by decide +kernel
theorem dX1_isSignedFor_181 : decode cX1_isSignedFor 181 = .ok (.iconst 0, 1) := by decide +kernel
theorem dX1_isSignedFor_182 : decode cX1_isSignedFor 182 = .ok (.ireturn, 1) := by decide +kernel
theorem dX1_isSignedFor_183 : decode cX1_isSignedFor 183 = .ok (.iload_n 1, 1) := by decide +kernel
theorem dX1_isSignedFor_184 : decode cX1_isSignedFor 184 = .ok (.aload_n 0, 1) := by decide +kernel
theorem dX1_isSignedFor_185 : decode cX1_isSignedFor 185 = .ok (.getfield 15, 3) := by decide +kernel
theorem dX1_isSignedFor_188 : decode cX1_isSignedFor 188 = .ok (.if_icmp .lt 7, 3) := by decide +kernel
theorem dX1_isSignedFor_191 : decode cX1_isSignedFor 191 = .ok (.iconst 1, 1) := by decide +kernel
theorem dX1_isSignedFor_192 : decode cX1_isSignedFor 192 = .ok (.goto 4, 3) := by decide +kernel
theorem dX1_isSignedFor_195 : decode cX1_isSignedFor 195 = .ok (.iconst 0, 1) := by decide +kernel
theorem dX1_isSignedFor_196 : decode cX1_isSignedFor 196 = .ok (.ireturn, 1) := by decide +kernel
set_option maxRecDepth 20000 in
set_option maxHeartbeats 4000000 in
theorem c_X1_isSignedFor {K : Cx} {b k : Nat} {s : Nat → Int32} {t d : Int32} {m : TM} (hb : isC b) (hk : k < 8) : CT yX1_isSignedFor cX1_isSignedFor 3 (some .boolean) 1 20 K [.ref (b + 4 + k), .int t, .int d] (sr m b s) (some (.int (bI (sg (s (12 + 7 * k + 0)) (s (12 + 7 * k + 1)) (s (12 + 7 * k + 2)) (s (12 + 7 * k + 6)) d t)))) (sr m b s) := by
  refine ct_ofd (n := 0) (by decide +kernel) rfl rfl ?_
  show XX RX1 cX1_isSignedFor 3 (some .boolean) 1 20 K 0 [some (.ref (b + 4 + k)), some (.int t), some (.int d)] [] (sr m b s) (fun r1 m1 => r1 = (some (.int (bI (sg (s (12 + 7 * k + 0)) (s (12 + 7 * k + 1)) (s (12 + 7 * k + 2)) (s (12 + 7 * k + 6)) d t)))) ∧ m1 = sr m b s)
  refine x_aload_n (q := 1) dX1_isSignedFor_0 rfl rfl ?_
  refine x_getIr (q := 4) dX1_isSignedFor_1 rfl fl_X1_9 (ob1 hb hk 0 (by decide)) ?_
  by_cases h4_1 : s (12 + 7 * k + 0) = 1
  · refine x_tswC (q := 44) (k := 1) dX1_isSignedFor_4 h4_1 (by decide) (by decide) rfl (by decide) ?_
    refine x_iload_n (q := 45) dX1_isSignedFor_44 rfl rfl ?_
    refine x_aload_n (q := 46) dX1_isSignedFor_45 rfl rfl ?_
    refine x_getIr (q := 49) dX1_isSignedFor_46 rfl fl_X1_15 (ob1 hb hk 1 (by decide)) ?_
    refine x_icmp_lt (q := 52) (t := 66) dX1_isSignedFor_49 rfl (by decide) (fun h49 => ?_) (fun h49 => ?_)
    · refine x_iconst (q := 67) (v := 0) dX1_isSignedFor_66 rfl (by decide) ?_
      refine x_ireturn dX1_isSignedFor_67 rfl (by decide) ?_
      exact ⟨by simp_all [sg, bI], rfl⟩
    refine x_aload_n (q := 53) dX1_isSignedFor_52 rfl rfl ?_
    refine x_getIr (q := 56) dX1_isSignedFor_53 rfl fl_X1_18 (ob1 hb hk 2 (by decide)) ?_
    refine x_callS1v (q := 59) dX1_isSignedFor_56 rfl ml_X1_50 ms_X1_isStoned c_X1_isStoned (Nat.le_of_ble_eq_true rfl) ⟨by decide, by decide⟩ ?_
    refine x_ifB_eq (q := 62) (t := 66) dX1_isSignedFor_59 rfl (by decide) (fun h59 => ?_) (fun h59 => ?_)
    · refine x_iconst (q := 67) (v := 0) dX1_isSignedFor_66 rfl (by decide) ?_
      refine x_ireturn dX1_isSignedFor_67 rfl (by decide) ?_
      exact ⟨by simp_all [sg, bI], rfl⟩
    refine x_iconst (q := 63) (v := 1) dX1_isSignedFor_62 rfl (by decide) ?_
    refine x_goto (q := 67) dX1_isSignedFor_63 (by decide) ?_
    refine x_ireturn dX1_isSignedFor_67 rfl (by decide) ?_
    exact ⟨by simp_all [sg, bI], rfl⟩
  by_cases h4_2 : s (12 + 7 * k + 0) = 2
  · refine x_tswC (q := 98) (k := 2) dX1_isSignedFor_4 h4_2 (by decide) (by decide) rfl (by decide) ?_
    refine x_iload_n (q := 99) dX1_isSignedFor_98 rfl rfl ?_
    refine x_aload_n (q := 100) dX1_isSignedFor_99 rfl rfl ?_
    refine x_getIr (q := 103) dX1_isSignedFor_100 rfl fl_X1_15 (ob1 hb hk 1 (by decide)) ?_
    refine x_aload_n (q := 104) dX1_isSignedFor_103 rfl rfl ?_
    refine x_getIr (q := 107) dX1_isSignedFor_104 rfl fl_X1_18 (ob1 hb hk 2 (by decide)) ?_
    refine x_callS1v (q := 110) dX1_isSignedFor_107 rfl ml_X1_54 ms_X1_sinks c_X1_sinks (Nat.le_of_ble_eq_true rfl) ⟨by decide, by decide⟩ ?_
    refine x_iadd (q := 111) dX1_isSignedFor_110 rfl ?_
    refine x_icmp_lt (q := 114) (t := 118) dX1_isSignedFor_111 rfl (by decide) (fun h111 => ?_) (fun h111 => ?_)
    · refine x_iconst (q := 119) (v := 0) dX1_isSignedFor_118 rfl (by decide) ?_
      refine x_ireturn dX1_isSignedFor_119 rfl (by decide) ?_
      exact ⟨by simp_all [sg, bI], rfl⟩
    refine x_iconst (q := 115) (v := 1) dX1_isSignedFor_114 rfl (by decide) ?_
    refine x_goto (q := 119) dX1_isSignedFor_115 (by decide) ?_
    refine x_ireturn dX1_isSignedFor_119 rfl (by decide) ?_
    exact ⟨by simp_all [sg, bI], rfl⟩
  by_cases h4_3 : s (12 + 7 * k + 0) = 3
  · refine x_tswC (q := 120) (k := 3) dX1_isSignedFor_4 h4_3 (by decide) (by decide) rfl (by decide) ?_
    refine x_iload_n (q := 121) dX1_isSignedFor_120 rfl rfl ?_
    refine x_aload_n (q := 122) dX1_isSignedFor_121 rfl rfl ?_
    refine x_getIr (q := 125) dX1_isSignedFor_122 rfl fl_X1_15 (ob1 hb hk 1 (by decide)) ?_
    refine x_aload_n (q := 126) dX1_isSignedFor_125 rfl rfl ?_
    refine x_getIr (q := 129) dX1_isSignedFor_126 rfl fl_X1_18 (ob1 hb hk 2 (by decide)) ?_
    refine x_callS1v (q := 132) dX1_isSignedFor_129 rfl ml_X1_54 ms_X1_sinks c_X1_sinks (Nat.le_of_ble_eq_true rfl) ⟨by decide, by decide⟩ ?_
    refine x_iadd (q := 133) dX1_isSignedFor_132 rfl ?_
    refine x_icmp_lt (q := 136) (t := 140) dX1_isSignedFor_133 rfl (by decide) (fun h133 => ?_) (fun h133 => ?_)
    · refine x_iconst (q := 141) (v := 0) dX1_isSignedFor_140 rfl (by decide) ?_
      refine x_ireturn dX1_isSignedFor_141 rfl (by decide) ?_
      exact ⟨by simp_all [sg, bI], rfl⟩
    refine x_iconst (q := 137) (v := 1) dX1_isSignedFor_136 rfl (by decide) ?_
    refine x_goto (q := 141) dX1_isSignedFor_137 (by decide) ?_
    refine x_ireturn dX1_isSignedFor_141 rfl (by decide) ?_
    exact ⟨by simp_all [sg, bI], rfl⟩
  by_cases h4_4 : s (12 + 7 * k + 0) = 4
  · refine x_tswC (q := 142) (k := 4) dX1_isSignedFor_4 h4_4 (by decide) (by decide) rfl (by decide) ?_
    refine x_iload_n (q := 143) dX1_isSignedFor_142 rfl rfl ?_
    refine x_aload_n (q := 144) dX1_isSignedFor_143 rfl rfl ?_
    refine x_getIr (q := 147) dX1_isSignedFor_144 rfl fl_X1_15 (ob1 hb hk 1 (by decide)) ?_
    refine x_aload_n (q := 148) dX1_isSignedFor_147 rfl rfl ?_
    refine x_getIr (q := 151) dX1_isSignedFor_148 rfl fl_X1_18 (ob1 hb hk 2 (by decide)) ?_
    refine x_callS1v (q := 154) dX1_isSignedFor_151 rfl ml_X1_54 ms_X1_sinks c_X1_sinks (Nat.le_of_ble_eq_true rfl) ⟨by decide, by decide⟩ ?_
    refine x_iadd (q := 155) dX1_isSignedFor_154 rfl ?_
    refine x_icmp_lt (q := 158) (t := 171) dX1_isSignedFor_155 rfl (by decide) (fun h155 => ?_) (fun h155 => ?_)
    · refine x_iconst (q := 172) (v := 0) dX1_isSignedFor_171 rfl (by decide) ?_
      refine x_ireturn dX1_isSignedFor_172 rfl (by decide) ?_
      exact ⟨by simp_all [sg, bI], rfl⟩
    refine x_aload_n (q := 159) dX1_isSignedFor_158 rfl rfl ?_
    refine x_getIr (q := 162) dX1_isSignedFor_159 rfl fl_X1_30 (ob1 hb hk 6 (by decide)) ?_
    refine x_bipush (q := 164) (v := 7) dX1_isSignedFor_162 rfl (by decide) ?_
    refine x_icmp_lt (q := 167) (t := 171) dX1_isSignedFor_164 rfl (by decide) (fun h164 => ?_) (fun h164 => ?_)
    · refine x_iconst (q := 172) (v := 0) dX1_isSignedFor_171 rfl (by decide) ?_
      refine x_ireturn dX1_isSignedFor_172 rfl (by decide) ?_
      exact ⟨by simp_all [sg, bI], rfl⟩
    refine x_iconst (q := 168) (v := 1) dX1_isSignedFor_167 rfl (by decide) ?_
    refine x_goto (q := 172) dX1_isSignedFor_168 (by decide) ?_
    refine x_ireturn dX1_isSignedFor_172 rfl (by decide) ?_
    exact ⟨by simp_all [sg, bI], rfl⟩
  by_cases h4_5 : s (12 + 7 * k + 0) = 5
  · refine x_tswC (q := 173) (k := 5) dX1_isSignedFor_4 h4_5 (by decide) (by decide) rfl (by decide) ?_
    refine x_iload_n (q := 174) dX1_isSignedFor_173 rfl rfl ?_
    refine x_if_le (q := 177) (t := 181) dX1_isSignedFor_174 rfl (by decide) (fun h174 => ?_) (fun h174 => ?_)
    · refine x_iconst (q := 182) (v := 0) dX1_isSignedFor_181 rfl (by decide) ?_
      refine x_ireturn dX1_isSignedFor_182 rfl (by decide) ?_
      exact ⟨by simp_all [sg, bI], rfl⟩
    refine x_iconst (q := 178) (v := 1) dX1_isSignedFor_177 rfl (by decide) ?_
    refine x_goto (q := 182) dX1_isSignedFor_178 (by decide) ?_
    refine x_ireturn dX1_isSignedFor_182 rfl (by decide) ?_
    exact ⟨by simp_all [sg, bI], rfl⟩
  by_cases h4_6 : s (12 + 7 * k + 0) = 6
  · refine x_tswC (q := 68) (k := 6) dX1_isSignedFor_4 h4_6 (by decide) (by decide) rfl (by decide) ?_
    refine x_iload_n (q := 69) dX1_isSignedFor_68 rfl rfl ?_
    refine x_aload_n (q := 70) dX1_isSignedFor_69 rfl rfl ?_
    refine x_getIr (q := 73) dX1_isSignedFor_70 rfl fl_X1_15 (ob1 hb hk 1 (by decide)) ?_
    refine x_icmp_lt (q := 76) (t := 96) dX1_isSignedFor_73 rfl (by decide) (fun h73 => ?_) (fun h73 => ?_)
    · refine x_iconst (q := 97) (v := 0) dX1_isSignedFor_96 rfl (by decide) ?_
      refine x_ireturn dX1_isSignedFor_97 rfl (by decide) ?_
      exact ⟨by simp_all [sg, bI], rfl⟩
    refine x_aload_n (q := 77) dX1_isSignedFor_76 rfl rfl ?_
    refine x_getIr (q := 80) dX1_isSignedFor_77 rfl fl_X1_18 (ob1 hb hk 2 (by decide)) ?_
    refine x_callS1v (q := 83) dX1_isSignedFor_80 rfl ml_X1_50 ms_X1_isStoned c_X1_isStoned (Nat.le_of_ble_eq_true rfl) ⟨by decide, by decide⟩ ?_
    refine x_ifB_eq (q := 86) (t := 96) dX1_isSignedFor_83 rfl (by decide) (fun h83 => ?_) (fun h83 => ?_)
    · refine x_iconst (q := 97) (v := 0) dX1_isSignedFor_96 rfl (by decide) ?_
      refine x_ireturn dX1_isSignedFor_97 rfl (by decide) ?_
      exact ⟨by simp_all [sg, bI], rfl⟩
    refine x_iload_n (q := 87) dX1_isSignedFor_86 rfl rfl ?_
    refine x_iconst (q := 88) (v := 2) dX1_isSignedFor_87 rfl (by decide) ?_
    refine x_irem (q := 89) dX1_isSignedFor_88 rfl (by decide) ?_
    refine x_if_ne (q := 92) (t := 96) dX1_isSignedFor_89 rfl (by decide) (fun h89 => ?_) (fun h89 => ?_)
    · refine x_iconst (q := 97) (v := 0) dX1_isSignedFor_96 rfl (by decide) ?_
      refine x_ireturn dX1_isSignedFor_97 rfl (by decide) ?_
      exact ⟨by simp_all [sg, bI], rfl⟩
    refine x_iconst (q := 93) (v := 1) dX1_isSignedFor_92 rfl (by decide) ?_
    refine x_goto (q := 97) dX1_isSignedFor_93 (by decide) ?_
    refine x_ireturn dX1_isSignedFor_97 rfl (by decide) ?_
    exact ⟨by simp_all [sg, bI], rfl⟩
  refine x_tswD (q := 183) dX1_isSignedFor_4 (by have n1 := lv_neT h4_1 (a := 1) (by decide); have n2 := lv_neT h4_2 (a := 2) (by decide); have n3 := lv_neT h4_3 (a := 3) (by decide); have n4 := lv_neT h4_4 (a := 4) (by decide); have n5 := lv_neT h4_5 (a := 5) (by decide); have n6 := lv_neT h4_6 (a := 6) (by decide); omega) (by decide) ?_
  refine x_iload_n (q := 184) dX1_isSignedFor_183 rfl rfl ?_
  refine x_aload_n (q := 185) dX1_isSignedFor_184 rfl rfl ?_
  refine x_getIr (q := 188) dX1_isSignedFor_185 rfl fl_X1_15 (ob1 hb hk 1 (by decide)) ?_
  refine x_icmp_lt (q := 191) (t := 195) dX1_isSignedFor_188 rfl (by decide) (fun h188 => ?_) (fun h188 => ?_)
  · refine x_iconst (q := 196) (v := 0) dX1_isSignedFor_195 rfl (by decide) ?_
    refine x_ireturn dX1_isSignedFor_196 rfl (by decide) ?_
    exact ⟨by simp_all [sg, bI], rfl⟩
  refine x_iconst (q := 192) (v := 1) dX1_isSignedFor_191 rfl (by decide) ?_
  refine x_goto (q := 196) dX1_isSignedFor_192 (by decide) ?_
  refine x_ireturn dX1_isSignedFor_196 rfl (by decide) ?_
  exact ⟨by simp_all [sg, bI], rfl⟩
theorem dX1_told_0 : decode cX1_told 0 = .ok (.iload_n 1, 1) := by decide +kernel
theorem dX1_told_1 : decode cX1_told 1 = .ok (.tableswitch 118 0 9 #[55, 60, 65, 70, 75, 80, 85, 90, 98, 106], 55) := by decide +kernel
theorem dX1_told_56 : decode cX1_told 56 = .ok (.aload_n 0, 1) := by decide +kernel
theorem dX1_told_57 : decode cX1_told 57 = .ok (.getfield 9, 3) := by decide +kernel
theorem dX1_told_60 : decode cX1_told 60 = .ok (.ireturn, 1) := by decide +kernel
theorem dX1_told_61 : decode cX1_told 61 = .ok (.aload_n 0, 1) := by decide +kernel
theorem dX1_told_62 : decode cX1_told 62 = .ok (.getfield 15, 3) := by decide +kernel
theorem dX1_told_65 : decode cX1_told 65 = .ok (.ireturn, 1) := by decide +kernel
theorem dX1_told_66 : decode cX1_told 66 = .ok (.aload_n 0, 1) := by decide +kernel
theorem dX1_told_67 : decode cX1_told 67 = .ok (.getfield 18, 3) := by decide +kernel
theorem dX1_told_70 : decode cX1_told 70 = .ok (.ireturn, 1) := by decide +kernel
theorem dX1_told_71 : decode cX1_told 71 = .ok (.aload_n 0, 1) := by decide +kernel
theorem dX1_told_72 : decode cX1_told 72 = .ok (.getfield 21, 3) := by decide +kernel
theorem dX1_told_75 : decode cX1_told 75 = .ok (.ireturn, 1) := by decide +kernel
theorem dX1_told_76 : decode cX1_told 76 = .ok (.aload_n 0, 1) := by decide +kernel
theorem dX1_told_77 : decode cX1_told 77 = .ok (.getfield 24, 3) := by decide +kernel
theorem dX1_told_80 : decode cX1_told 80 = .ok (.ireturn, 1) := by decide +kernel
theorem dX1_told_81 : decode cX1_told 81 = .ok (.aload_n 0, 1) := by decide +kernel
theorem dX1_told_82 : decode cX1_told 82 = .ok (.getfield 27, 3) := by decide +kernel
theorem dX1_told_85 : decode cX1_told 85 = .ok (.ireturn, 1) := by decide +kernel
theorem dX1_told_86 : decode cX1_told 86 = .ok (.aload_n 0, 1) := by decide +kernel
theorem dX1_told_87 : decode cX1_told 87 = .ok (.getfield 30, 3) := by decide +kernel
theorem dX1_told_90 : decode cX1_told 90 = .ok (.ireturn, 1) := by decide +kernel
theorem dX1_told_91 : decode cX1_told 91 = .ok (.aload_n 0, 1) := by decide +kernel
theorem dX1_told_92 : decode cX1_told 92 = .ok (.getfield 9, 3) := by decide +kernel
theorem dX1_told_95 : decode cX1_told 95 = .ok (.invokestatic 33, 3) := by decide +kernel
theorem dX1_told_98 : decode cX1_told 98 = .ok (.ireturn, 1) := by decide +kernel
theorem dX1_told_99 : decode cX1_told 99 = .ok (.aload_n 0, 1) := by decide +kernel
theorem dX1_told_100 : decode cX1_told 100 = .ok (.getfield 9, 3) := by decide +kernel
theorem dX1_told_103 : decode cX1_told 103 = .ok (.invokestatic 37, 3) := by decide +kernel
theorem dX1_told_106 : decode cX1_told 106 = .ok (.ireturn, 1) := by decide +kernel
theorem dX1_told_107 : decode cX1_told 107 = .ok (.aload_n 0, 1) := by decide +kernel
theorem dX1_told_108 : decode cX1_told 108 = .ok (.getfield 9, 3) := by decide +kernel
theorem dX1_told_111 : decode cX1_told 111 = .ok (.aload_n 0, 1) := by decide +kernel
theorem dX1_told_112 : decode cX1_told 112 = .ok (.getfield 18, 3) := by decide +kernel
theorem dX1_told_115 : decode cX1_told 115 = .ok (.invokestatic 40, 3) := by decide +kernel
theorem dX1_told_118 : decode cX1_told 118 = .ok (.ireturn, 1) := by decide +kernel
theorem dX1_told_119 : decode cX1_told 119 = .ok (.aload_n 0, 1) := by decide +kernel
theorem dX1_told_120 : decode cX1_told 120 = .ok (.getfield 9, 3) := by decide +kernel
theorem dX1_told_123 : decode cX1_told 123 = .ok (.invokestatic 44, 3) := by decide +kernel
theorem dX1_told_126 : decode cX1_told 126 = .ok (.ireturn, 1) := by decide +kernel
set_option maxRecDepth 20000 in
set_option maxHeartbeats 4000000 in
theorem c_X1_told {K : Cx} {b k : Nat} {s : Nat → Int32} {x : Int32} {m : TM} (hb : isC b) (hk : k < 8) : CT yX1_told cX1_told 2 (some .int) 1 22 K [.ref (b + 4 + k), .int x] (sr m b s) (some (.int (tld s k x))) (sr m b s) := by
  refine ct_ofd (n := 0) (by decide +kernel) rfl rfl ?_
  show XX RX1 cX1_told 2 (some .int) 1 22 K 0 [some (.ref (b + 4 + k)), some (.int x)] [] (sr m b s) (fun r1 m1 => r1 = (some (.int (tld s k x))) ∧ m1 = sr m b s)
  refine x_iload_n (q := 1) dX1_told_0 rfl rfl ?_
  by_cases h1_0 : x = 0
  · refine x_tswC (q := 56) (k := 0) dX1_told_1 h1_0 (by decide) (by decide) rfl (by decide) ?_
    refine x_aload_n (q := 57) dX1_told_56 rfl rfl ?_
    refine x_getIr (q := 60) dX1_told_57 rfl fl_X1_9 (ob1 hb hk 0 (by decide)) ?_
    refine x_ireturn dX1_told_60 rfl rfl ?_
    exact ⟨by simp [tld, bI, *], rfl⟩
  by_cases h1_1 : x = 1
  · refine x_tswC (q := 61) (k := 1) dX1_told_1 h1_1 (by decide) (by decide) rfl (by decide) ?_
    refine x_aload_n (q := 62) dX1_told_61 rfl rfl ?_
    refine x_getIr (q := 65) dX1_told_62 rfl fl_X1_15 (ob1 hb hk 1 (by decide)) ?_
    refine x_ireturn dX1_told_65 rfl rfl ?_
    exact ⟨by simp [tld, bI, *], rfl⟩
  by_cases h1_2 : x = 2
  · refine x_tswC (q := 66) (k := 2) dX1_told_1 h1_2 (by decide) (by decide) rfl (by decide) ?_
    refine x_aload_n (q := 67) dX1_told_66 rfl rfl ?_
    refine x_getIr (q := 70) dX1_told_67 rfl fl_X1_18 (ob1 hb hk 2 (by decide)) ?_
    refine x_ireturn dX1_told_70 rfl rfl ?_
    exact ⟨by simp [tld, bI, *], rfl⟩
  by_cases h1_3 : x = 3
  · refine x_tswC (q := 71) (k := 3) dX1_told_1 h1_3 (by decide) (by decide) rfl (by decide) ?_
    refine x_aload_n (q := 72) dX1_told_71 rfl rfl ?_
    refine x_getIr (q := 75) dX1_told_72 rfl fl_X1_21 (ob1 hb hk 3 (by decide)) ?_
    refine x_ireturn dX1_told_75 rfl rfl ?_
    exact ⟨by simp [tld, bI, *], rfl⟩
  by_cases h1_4 : x = 4
  · refine x_tswC (q := 76) (k := 4) dX1_told_1 h1_4 (by decide) (by decide) rfl (by decide) ?_
    refine x_aload_n (q := 77) dX1_told_76 rfl rfl ?_
    refine x_getIr (q := 80) dX1_told_77 rfl fl_X1_24 (ob1 hb hk 4 (by decide)) ?_
    refine x_ireturn dX1_told_80 rfl rfl ?_
    exact ⟨by simp [tld, bI, *], rfl⟩
  by_cases h1_5 : x = 5
  · refine x_tswC (q := 81) (k := 5) dX1_told_1 h1_5 (by decide) (by decide) rfl (by decide) ?_
    refine x_aload_n (q := 82) dX1_told_81 rfl rfl ?_
    refine x_getIr (q := 85) dX1_told_82 rfl fl_X1_27 (ob1 hb hk 5 (by decide)) ?_
    refine x_ireturn dX1_told_85 rfl rfl ?_
    exact ⟨by simp [tld, bI, *], rfl⟩
  by_cases h1_6 : x = 6
  · refine x_tswC (q := 86) (k := 6) dX1_told_1 h1_6 (by decide) (by decide) rfl (by decide) ?_
    refine x_aload_n (q := 87) dX1_told_86 rfl rfl ?_
    refine x_getIr (q := 90) dX1_told_87 rfl fl_X1_30 (ob1 hb hk 6 (by decide)) ?_
    refine x_ireturn dX1_told_90 rfl rfl ?_
    exact ⟨by simp [tld, bI, *], rfl⟩
  by_cases h1_7 : x = 7
  · refine x_tswC (q := 91) (k := 7) dX1_told_1 h1_7 (by decide) (by decide) rfl (by decide) ?_
    refine x_aload_n (q := 92) dX1_told_91 rfl rfl ?_
    refine x_getIr (q := 95) dX1_told_92 rfl fl_X1_9 (ob1 hb hk 0 (by decide)) ?_
    refine x_callS1v (q := 98) dX1_told_95 rfl ml_X1_33 ms_X1_moves c_X1_moves (Nat.le_of_ble_eq_true rfl) ⟨by decide, by decide⟩ ?_
    refine x_ireturn dX1_told_98 rfl rfl ?_
    exact ⟨by simp [tld, bI, *], rfl⟩
  by_cases h1_8 : x = 8
  · refine x_tswC (q := 99) (k := 8) dX1_told_1 h1_8 (by decide) (by decide) rfl (by decide) ?_
    refine x_aload_n (q := 100) dX1_told_99 rfl rfl ?_
    refine x_getIr (q := 103) dX1_told_100 rfl fl_X1_9 (ob1 hb hk 0 (by decide)) ?_
    refine x_callS1v (q := 106) dX1_told_103 rfl ml_X1_37 ms_X1_lasts c_X1_lasts (Nat.le_of_ble_eq_true rfl) ⟨by decide, by decide⟩ ?_
    refine x_ireturn dX1_told_106 rfl rfl ?_
    exact ⟨by simp [tld, bI, *], rfl⟩
  by_cases h1_9 : x = 9
  · refine x_tswC (q := 107) (k := 9) dX1_told_1 h1_9 (by decide) (by decide) rfl (by decide) ?_
    refine x_aload_n (q := 108) dX1_told_107 rfl rfl ?_
    refine x_getIr (q := 111) dX1_told_108 rfl fl_X1_9 (ob1 hb hk 0 (by decide)) ?_
    refine x_aload_n (q := 112) dX1_told_111 rfl rfl ?_
    refine x_getIr (q := 115) dX1_told_112 rfl fl_X1_18 (ob1 hb hk 2 (by decide)) ?_
    refine x_callS2v (q := 118) dX1_told_115 rfl ml_X1_40 ms_X1_pays c_X1_pays (Nat.le_of_ble_eq_true rfl) ⟨by decide, by decide⟩ ?_
    refine x_ireturn dX1_told_118 rfl rfl ?_
    exact ⟨by simp [tld, bI, *], rfl⟩
  refine x_tswD (q := 119) dX1_told_1 (by have n0 := lv_neT h1_0 (a := 0) (by decide); have n1 := lv_neT h1_1 (a := 1) (by decide); have n2 := lv_neT h1_2 (a := 2) (by decide); have n3 := lv_neT h1_3 (a := 3) (by decide); have n4 := lv_neT h1_4 (a := 4) (by decide); have n5 := lv_neT h1_5 (a := 5) (by decide); have n6 := lv_neT h1_6 (a := 6) (by decide); have n7 := lv_neT h1_7 (a := 7) (by decide); have n8 := lv_neT h1_8 (a := 8) (by decide); have n9 := lv_neT h1_9 (a := 9) (by decide); omega) (by decide) ?_
  refine x_aload_n (q := 120) dX1_told_119 rfl rfl ?_
  refine x_getIr (q := 123) dX1_told_120 rfl fl_X1_9 (ob1 hb hk 0 (by decide)) ?_
  refine x_callS1v (q := 126) dX1_told_123 rfl ml_X1_44 ms_X1_delays c_X1_delays (Nat.le_of_ble_eq_true rfl) ⟨by decide, by decide⟩ ?_
  refine x_ireturn dX1_told_126 rfl rfl ?_
  exact ⟨by simp [tld, bI, *], rfl⟩
theorem dX1_put_0 : decode cX1_put 0 = .ok (.iload_n 1, 1) := by decide +kernel
theorem dX1_put_1 : decode cX1_put 1 = .ok (.tableswitch 99 0 6 #[43, 51, 59, 67, 75, 83, 91], 43) := by decide +kernel
theorem dX1_put_44 : decode cX1_put 44 = .ok (.aload_n 0, 1) := by decide +kernel
theorem dX1_put_45 : decode cX1_put 45 = .ok (.iload_n 2, 1) := by decide +kernel
theorem dX1_put_46 : decode cX1_put 46 = .ok (.putfield 9, 3) := by decide +kernel
theorem dX1_put_49 : decode cX1_put 49 = .ok (.goto 51, 3) := by decide +kernel
theorem dX1_put_52 : decode cX1_put 52 = .ok (.aload_n 0, 1) := by decide +kernel
theorem dX1_put_53 : decode cX1_put 53 = .ok (.iload_n 2, 1) := by decide +kernel
theorem dX1_put_54 : decode cX1_put 54 = .ok (.putfield 15, 3) := by decide +kernel
theorem dX1_put_57 : decode cX1_put 57 = .ok (.goto 43, 3) := by decide +kernel
theorem dX1_put_60 : decode cX1_put 60 = .ok (.aload_n 0, 1) := by decide +kernel
theorem dX1_put_61 : decode cX1_put 61 = .ok (.iload_n 2, 1) := by decide +kernel
theorem dX1_put_62 : decode cX1_put 62 = .ok (.putfield 18, 3) := by decide +kernel
theorem dX1_put_65 : decode cX1_put 65 = .ok (.goto 35, 3) := by decide +kernel
theorem dX1_put_68 : decode cX1_put 68 = .ok (.aload_n 0, 1) := by decide +kernel
theorem dX1_put_69 : decode cX1_put 69 = .ok (.iload_n 2, 1) := by decide +kernel
theorem dX1_put_70 : decode cX1_put 70 = .ok (.putfield 21, 3) := by decide +kernel
theorem dX1_put_73 : decode cX1_put 73 = .ok (.goto 27, 3) := by decide +kernel
theorem dX1_put_76 : decode cX1_put 76 = .ok (.aload_n 0, 1) := by decide +kernel
theorem dX1_put_77 : decode cX1_put 77 = .ok (.iload_n 2, 1) := by decide +kernel
theorem dX1_put_78 : decode cX1_put 78 = .ok (.putfield 24, 3) := by decide +kernel
theorem dX1_put_81 : decode cX1_put 81 = .ok (.goto 19, 3) := by decide +kernel
theorem dX1_put_84 : decode cX1_put 84 = .ok (.aload_n 0, 1) := by decide +kernel
theorem dX1_put_85 : decode cX1_put 85 = .ok (.iload_n 2, 1) := by decide +kernel
theorem dX1_put_86 : decode cX1_put 86 = .ok (.putfield 27, 3) := by decide +kernel
theorem dX1_put_89 : decode cX1_put 89 = .ok (.goto 11, 3) := by decide +kernel
theorem dX1_put_92 : decode cX1_put 92 = .ok (.aload_n 0, 1) := by decide +kernel
theorem dX1_put_93 : decode cX1_put 93 = .ok (.iload_n 2, 1) := by decide +kernel
theorem dX1_put_94 : decode cX1_put 94 = .ok (.putfield 30, 3) := by decide +kernel
theorem dX1_put_97 : decode cX1_put 97 = .ok (.goto 3, 3) := by decide +kernel
theorem dX1_put_100 : decode cX1_put 100 = .ok (.return_, 1) := by decide +kernel
set_option maxRecDepth 20000 in
set_option maxHeartbeats 4000000 in
theorem c_X1_put {K : Cx} {b k : Nat} {s : Nat → Int32} {x v : Int32} {m : TM} (hb : isC b) (hk : k < 8) : CT yX1_put cX1_put 3 none 0 0 K [.ref (b + 4 + k), .int x, .int v] (sr m b s) none (sr m b (ptF s k x v)) := by
  refine ct_ofd (n := 0) (by decide +kernel) rfl rfl ?_
  show XX RX1 cX1_put 3 none 0 0 K 0 [some (.ref (b + 4 + k)), some (.int x), some (.int v)] [] (sr m b s) (fun r1 m1 => r1 = none ∧ m1 = sr m b (ptF s k x v))
  refine x_iload_n (q := 1) dX1_put_0 rfl rfl ?_
  by_cases h1_0 : x = 0
  · refine x_tswC (q := 44) (k := 0) dX1_put_1 h1_0 (by decide) (by decide) rfl (by decide) ?_
    refine x_aload_n (q := 45) dX1_put_44 rfl rfl ?_
    refine x_iload_n (q := 46) dX1_put_45 rfl rfl ?_
    refine x_putIr (q := 49) dX1_put_46 rfl fl_X1_9 (ob1 hb hk 0 (by decide)) rfl rfl rfl  ?_
    refine x_goto (q := 100) dX1_put_49 (by decide) ?_
    refine x_return dX1_put_100 rfl ?_
    exact ⟨rfl, by simp [ptF, *]⟩
  by_cases h1_1 : x = 1
  · refine x_tswC (q := 52) (k := 1) dX1_put_1 h1_1 (by decide) (by decide) rfl (by decide) ?_
    refine x_aload_n (q := 53) dX1_put_52 rfl rfl ?_
    refine x_iload_n (q := 54) dX1_put_53 rfl rfl ?_
    refine x_putIr (q := 57) dX1_put_54 rfl fl_X1_15 (ob1 hb hk 1 (by decide)) rfl rfl rfl  ?_
    refine x_goto (q := 100) dX1_put_57 (by decide) ?_
    refine x_return dX1_put_100 rfl ?_
    exact ⟨rfl, by simp [ptF, *]⟩
  by_cases h1_2 : x = 2
  · refine x_tswC (q := 60) (k := 2) dX1_put_1 h1_2 (by decide) (by decide) rfl (by decide) ?_
    refine x_aload_n (q := 61) dX1_put_60 rfl rfl ?_
    refine x_iload_n (q := 62) dX1_put_61 rfl rfl ?_
    refine x_putIr (q := 65) dX1_put_62 rfl fl_X1_18 (ob1 hb hk 2 (by decide)) rfl rfl rfl  ?_
    refine x_goto (q := 100) dX1_put_65 (by decide) ?_
    refine x_return dX1_put_100 rfl ?_
    exact ⟨rfl, by simp [ptF, *]⟩
  by_cases h1_3 : x = 3
  · refine x_tswC (q := 68) (k := 3) dX1_put_1 h1_3 (by decide) (by decide) rfl (by decide) ?_
    refine x_aload_n (q := 69) dX1_put_68 rfl rfl ?_
    refine x_iload_n (q := 70) dX1_put_69 rfl rfl ?_
    refine x_putIr (q := 73) dX1_put_70 rfl fl_X1_21 (ob1 hb hk 3 (by decide)) rfl rfl rfl  ?_
    refine x_goto (q := 100) dX1_put_73 (by decide) ?_
    refine x_return dX1_put_100 rfl ?_
    exact ⟨rfl, by simp [ptF, *]⟩
  by_cases h1_4 : x = 4
  · refine x_tswC (q := 76) (k := 4) dX1_put_1 h1_4 (by decide) (by decide) rfl (by decide) ?_
    refine x_aload_n (q := 77) dX1_put_76 rfl rfl ?_
    refine x_iload_n (q := 78) dX1_put_77 rfl rfl ?_
    refine x_putIr (q := 81) dX1_put_78 rfl fl_X1_24 (ob1 hb hk 4 (by decide)) rfl rfl rfl  ?_
    refine x_goto (q := 100) dX1_put_81 (by decide) ?_
    refine x_return dX1_put_100 rfl ?_
    exact ⟨rfl, by simp [ptF, *]⟩
  by_cases h1_5 : x = 5
  · refine x_tswC (q := 84) (k := 5) dX1_put_1 h1_5 (by decide) (by decide) rfl (by decide) ?_
    refine x_aload_n (q := 85) dX1_put_84 rfl rfl ?_
    refine x_iload_n (q := 86) dX1_put_85 rfl rfl ?_
    refine x_putIr (q := 89) dX1_put_86 rfl fl_X1_27 (ob1 hb hk 5 (by decide)) rfl rfl rfl  ?_
    refine x_goto (q := 100) dX1_put_89 (by decide) ?_
    refine x_return dX1_put_100 rfl ?_
    exact ⟨rfl, by simp [ptF, *]⟩
  by_cases h1_6 : x = 6
  · refine x_tswC (q := 92) (k := 6) dX1_put_1 h1_6 (by decide) (by decide) rfl (by decide) ?_
    refine x_aload_n (q := 93) dX1_put_92 rfl rfl ?_
    refine x_iload_n (q := 94) dX1_put_93 rfl rfl ?_
    refine x_putIr (q := 97) dX1_put_94 rfl fl_X1_30 (ob1 hb hk 6 (by decide)) rfl rfl rfl  ?_
    refine x_goto (q := 100) dX1_put_97 (by decide) ?_
    refine x_return dX1_put_100 rfl ?_
    exact ⟨rfl, by simp [ptF, *]⟩
  refine x_tswD (q := 100) dX1_put_1 (by have n0 := lv_neT h1_0 (a := 0) (by decide); have n1 := lv_neT h1_1 (a := 1) (by decide); have n2 := lv_neT h1_2 (a := 2) (by decide); have n3 := lv_neT h1_3 (a := 3) (by decide); have n4 := lv_neT h1_4 (a := 4) (by decide); have n5 := lv_neT h1_5 (a := 5) (by decide); have n6 := lv_neT h1_6 (a := 6) (by decide); omega) (by decide) ?_
  refine x_return dX1_put_100 rfl ?_
  exact ⟨rfl, by simp [ptF, *]⟩
theorem dX1_beNew_0 : decode cX1_beNew 0 = .ok (.aload_n 0, 1) := by decide +kernel
theorem dX1_beNew_1 : decode cX1_beNew 1 = .ok (.iload_n 1, 1) := by decide +kernel
theorem dX1_beNew_2 : decode cX1_beNew 2 = .ok (.putfield 9, 3) := by decide +kernel
theorem dX1_beNew_5 : decode cX1_beNew 5 = .ok (.aload_n 0, 1) := by decide +kernel
theorem dX1_beNew_6 : decode cX1_beNew 6 = .ok (.iconst 0, 1) := by decide +kernel
theorem dX1_beNew_7 : decode cX1_beNew 7 = .ok (.putfield 15, 3) := by decide +kernel
theorem dX1_beNew_10 : decode cX1_beNew 10 = .ok (.aload_n 0, 1) := by decide +kernel
theorem dX1_beNew_11 : decode cX1_beNew 11 = .ok (.bipush 10, 2) := by decide +kernel
theorem dX1_beNew_13 : decode cX1_beNew 13 = .ok (.putfield 18, 3) := by decide +kernel
theorem dX1_beNew_16 : decode cX1_beNew 16 = .ok (.aload_n 0, 1) := by decide +kernel
theorem dX1_beNew_17 : decode cX1_beNew 17 = .ok (.iconst 0, 1) := by decide +kernel
theorem dX1_beNew_18 : decode cX1_beNew 18 = .ok (.putfield 21, 3) := by decide +kernel
theorem dX1_beNew_21 : decode cX1_beNew 21 = .ok (.aload_n 0, 1) := by decide +kernel
theorem dX1_beNew_22 : decode cX1_beNew 22 = .ok (.iconst 0, 1) := by decide +kernel
theorem dX1_beNew_23 : decode cX1_beNew 23 = .ok (.putfield 24, 3) := by decide +kernel
theorem dX1_beNew_26 : decode cX1_beNew 26 = .ok (.aload_n 0, 1) := by decide +kernel
theorem dX1_beNew_27 : decode cX1_beNew 27 = .ok (.iconst 0, 1) := by decide +kernel
theorem dX1_beNew_28 : decode cX1_beNew 28 = .ok (.putfield 27, 3) := by decide +kernel
theorem dX1_beNew_31 : decode cX1_beNew 31 = .ok (.aload_n 0, 1) := by decide +kernel
theorem dX1_beNew_32 : decode cX1_beNew 32 = .ok (.iconst 0, 1) := by decide +kernel
theorem dX1_beNew_33 : decode cX1_beNew 33 = .ok (.putfield 30, 3) := by decide +kernel
theorem dX1_beNew_36 : decode cX1_beNew 36 = .ok (.return_, 1) := by decide +kernel
set_option maxRecDepth 20000 in
set_option maxHeartbeats 4000000 in
theorem c_X1_beNew {K : Cx} {b k : Nat} {s : Nat → Int32} {x : Int32} {m : TM} (hb : isC b) (hk : k < 8) : CT yX1_beNew cX1_beNew 2 none 0 0 K [.ref (b + 4 + k), .int x] (sr m b s) none (sr m b (newF s k x)) := by
  refine ct_ofd (n := 0) (by decide +kernel) rfl rfl ?_
  show XX RX1 cX1_beNew 2 none 0 0 K 0 [some (.ref (b + 4 + k)), some (.int x)] [] (sr m b s) (fun r1 m1 => r1 = none ∧ m1 = sr m b (newF s k x))
  refine x_aload_n (q := 1) dX1_beNew_0 rfl rfl ?_
  refine x_iload_n (q := 2) dX1_beNew_1 rfl rfl ?_
  refine x_putIr (q := 5) dX1_beNew_2 rfl fl_X1_9 (ob1 hb hk 0 (by decide)) rfl rfl rfl  ?_
  refine x_aload_n (q := 6) dX1_beNew_5 rfl rfl ?_
  refine x_iconst (q := 7) (v := 0) dX1_beNew_6 rfl (by decide) ?_
  refine x_putIr (q := 10) dX1_beNew_7 rfl fl_X1_15 (ob1 hb hk 1 (by decide)) rfl rfl rfl  ?_
  refine x_aload_n (q := 11) dX1_beNew_10 rfl rfl ?_
  refine x_bipush (q := 13) (v := 10) dX1_beNew_11 rfl (by decide) ?_
  refine x_putIr (q := 16) dX1_beNew_13 rfl fl_X1_18 (ob1 hb hk 2 (by decide)) rfl rfl rfl  ?_
  refine x_aload_n (q := 17) dX1_beNew_16 rfl rfl ?_
  refine x_iconst (q := 18) (v := 0) dX1_beNew_17 rfl (by decide) ?_
  refine x_putIr (q := 21) dX1_beNew_18 rfl fl_X1_21 (ob1 hb hk 3 (by decide)) rfl rfl rfl  ?_
  refine x_aload_n (q := 22) dX1_beNew_21 rfl rfl ?_
  refine x_iconst (q := 23) (v := 0) dX1_beNew_22 rfl (by decide) ?_
  refine x_putIr (q := 26) dX1_beNew_23 rfl fl_X1_24 (ob1 hb hk 4 (by decide)) rfl rfl rfl  ?_
  refine x_aload_n (q := 27) dX1_beNew_26 rfl rfl ?_
  refine x_iconst (q := 28) (v := 0) dX1_beNew_27 rfl (by decide) ?_
  refine x_putIr (q := 31) dX1_beNew_28 rfl fl_X1_27 (ob1 hb hk 5 (by decide)) rfl rfl rfl  ?_
  refine x_aload_n (q := 32) dX1_beNew_31 rfl rfl ?_
  refine x_iconst (q := 33) (v := 0) dX1_beNew_32 rfl (by decide) ?_
  refine x_putIr (q := 36) dX1_beNew_33 rfl fl_X1_30 (ob1 hb hk 6 (by decide)) rfl rfl rfl  ?_
  refine x_return dX1_beNew_36 rfl ?_
  exact ⟨rfl, rfl⟩
theorem dX1_turnOver_0 : decode cX1_turnOver 0 = .ok (.aload_n 0, 1) := by decide +kernel
theorem dX1_turnOver_1 : decode cX1_turnOver 1 = .ok (.aload_n 0, 1) := by decide +kernel
theorem dX1_turnOver_2 : decode cX1_turnOver 2 = .ok (.getfield 30, 3) := by decide +kernel
theorem dX1_turnOver_5 : decode cX1_turnOver 5 = .ok (.iconst 1, 1) := by decide +kernel
theorem dX1_turnOver_6 : decode cX1_turnOver 6 = .ok (.iadd, 1) := by decide +kernel
theorem dX1_turnOver_7 : decode cX1_turnOver 7 = .ok (.sipush 9999, 3) := by decide +kernel
theorem dX1_turnOver_10 : decode cX1_turnOver 10 = .ok (.invokestatic 57, 3) := by decide +kernel
theorem dX1_turnOver_13 : decode cX1_turnOver 13 = .ok (.putfield 30, 3) := by decide +kernel
theorem dX1_turnOver_16 : decode cX1_turnOver 16 = .ok (.aload_n 0, 1) := by decide +kernel
theorem dX1_turnOver_17 : decode cX1_turnOver 17 = .ok (.aload_n 0, 1) := by decide +kernel
theorem dX1_turnOver_18 : decode cX1_turnOver 18 = .ok (.getfield 15, 3) := by decide +kernel
theorem dX1_turnOver_21 : decode cX1_turnOver 21 = .ok (.aload_n 0, 1) := by decide +kernel
theorem dX1_turnOver_22 : decode cX1_turnOver 22 = .ok (.getfield 9, 3) := by decide +kernel
theorem dX1_turnOver_25 : decode cX1_turnOver 25 = .ok (.invokestatic 33, 3) := by decide +kernel
theorem dX1_turnOver_28 : decode cX1_turnOver 28 = .ok (.iadd, 1) := by decide +kernel
theorem dX1_turnOver_29 : decode cX1_turnOver 29 = .ok (.bipush 20, 2) := by decide +kernel
theorem dX1_turnOver_31 : decode cX1_turnOver 31 = .ok (.invokestatic 57, 3) := by decide +kernel
theorem dX1_turnOver_34 : decode cX1_turnOver 34 = .ok (.putfield 15, 3) := by decide +kernel
theorem dX1_turnOver_37 : decode cX1_turnOver 37 = .ok (.return_, 1) := by decide +kernel
set_option maxRecDepth 20000 in
set_option maxHeartbeats 4000000 in
theorem c_X1_turnOver {K : Cx} {b k : Nat} {s : Nat → Int32} {m : TM} (hb : isC b) (hk : k < 8) : CT yX1_turnOver cX1_turnOver 1 none 1 21 K [.ref (b + 4 + k)] (sr m b s) none (sr m b (trn s k)) := by
  refine ct_ofd (n := 0) (by decide +kernel) rfl rfl ?_
  show XX RX1 cX1_turnOver 1 none 1 21 K 0 [some (.ref (b + 4 + k))] [] (sr m b s) (fun r1 m1 => r1 = none ∧ m1 = sr m b (trn s k))
  refine x_aload_n (q := 1) dX1_turnOver_0 rfl rfl ?_
  refine x_aload_n (q := 2) dX1_turnOver_1 rfl rfl ?_
  refine x_getIr (q := 5) dX1_turnOver_2 rfl fl_X1_30 (ob1 hb hk 6 (by decide)) ?_
  refine x_iconst (q := 6) (v := 1) dX1_turnOver_5 rfl (by decide) ?_
  refine x_iadd (q := 7) dX1_turnOver_6 rfl ?_
  refine x_sipush (q := 10) (v := 9999) dX1_turnOver_7 rfl (by decide) ?_
  refine x_mmin (q := 13) dX1_turnOver_10 rfl ml_X1_57 ⟨by decide, Nat.le_of_ble_eq_true rfl⟩ ?_
  refine x_putIr (q := 16) dX1_turnOver_13 rfl fl_X1_30 (ob1 hb hk 6 (by decide)) rfl rfl rfl  ?_
  refine x_aload_n (q := 17) dX1_turnOver_16 rfl rfl ?_
  refine x_aload_n (q := 18) dX1_turnOver_17 rfl rfl ?_
  refine x_getIr (q := 21) dX1_turnOver_18 rfl fl_X1_15 (ob1 hb hk 1 (by decide)) ?_
  refine x_aload_n (q := 22) dX1_turnOver_21 rfl rfl ?_
  refine x_getIr (q := 25) dX1_turnOver_22 rfl fl_X1_9 (ob1 hb hk 0 (by decide)) ?_
  refine x_callS1v (q := 28) dX1_turnOver_25 rfl ml_X1_33 ms_X1_moves c_X1_moves (Nat.le_of_ble_eq_true rfl) ⟨by decide, by decide⟩ ?_
  refine x_iadd (q := 29) dX1_turnOver_28 rfl ?_
  refine x_bipush (q := 31) (v := 20) dX1_turnOver_29 rfl (by decide) ?_
  refine x_mmin (q := 34) dX1_turnOver_31 rfl ml_X1_57 ⟨by decide, Nat.le_of_ble_eq_true rfl⟩ ?_
  refine x_putIr (q := 37) dX1_turnOver_34 rfl fl_X1_15 (ob1 hb hk 1 (by decide)) rfl rfl rfl  ?_
  refine x_return dX1_turnOver_37 rfl ?_
  exact ⟨rfl, by simp [trn, upd]⟩
theorem dX1_waitOneDay_0 : decode cX1_waitOneDay 0 = .ok (.aload_n 0, 1) := by decide +kernel
theorem dX1_waitOneDay_1 : decode cX1_waitOneDay 1 = .ok (.aload_n 0, 1) := by decide +kernel
theorem dX1_waitOneDay_2 : decode cX1_waitOneDay 2 = .ok (.getfield 21, 3) := by decide +kernel
theorem dX1_waitOneDay_5 : decode cX1_waitOneDay 5 = .ok (.iconst 1, 1) := by decide +kernel
theorem dX1_waitOneDay_6 : decode cX1_waitOneDay 6 = .ok (.iadd, 1) := by decide +kernel
theorem dX1_waitOneDay_7 : decode cX1_waitOneDay 7 = .ok (.sipush 9999, 3) := by decide +kernel
theorem dX1_waitOneDay_10 : decode cX1_waitOneDay 10 = .ok (.invokestatic 57, 3) := by decide +kernel
theorem dX1_waitOneDay_13 : decode cX1_waitOneDay 13 = .ok (.putfield 21, 3) := by decide +kernel
theorem dX1_waitOneDay_16 : decode cX1_waitOneDay 16 = .ok (.aload_n 0, 1) := by decide +kernel
theorem dX1_waitOneDay_17 : decode cX1_waitOneDay 17 = .ok (.getfield 21, 3) := by decide +kernel
theorem dX1_waitOneDay_20 : decode cX1_waitOneDay 20 = .ok (.aload_n 0, 1) := by decide +kernel
theorem dX1_waitOneDay_21 : decode cX1_waitOneDay 21 = .ok (.getfield 9, 3) := by decide +kernel
theorem dX1_waitOneDay_24 : decode cX1_waitOneDay 24 = .ok (.invokestatic 37, 3) := by decide +kernel
theorem dX1_waitOneDay_27 : decode cX1_waitOneDay 27 = .ok (.if_icmp .le 8, 3) := by decide +kernel
theorem dX1_waitOneDay_30 : decode cX1_waitOneDay 30 = .ok (.aload_n 0, 1) := by decide +kernel
theorem dX1_waitOneDay_31 : decode cX1_waitOneDay 31 = .ok (.iconst 2, 1) := by decide +kernel
theorem dX1_waitOneDay_32 : decode cX1_waitOneDay 32 = .ok (.putfield 24, 3) := by decide +kernel
theorem dX1_waitOneDay_35 : decode cX1_waitOneDay 35 = .ok (.return_, 1) := by decide +kernel
set_option maxRecDepth 20000 in
set_option maxHeartbeats 4000000 in
theorem c_X1_waitOneDay {K : Cx} {b k : Nat} {s : Nat → Int32} {m : TM} (hb : isC b) (hk : k < 8) : CT yX1_waitOneDay cX1_waitOneDay 1 none 1 21 K [.ref (b + 4 + k)] (sr m b s) none (sr m b (wat s k)) := by
  refine ct_ofd (n := 0) (by decide +kernel) rfl rfl ?_
  show XX RX1 cX1_waitOneDay 1 none 1 21 K 0 [some (.ref (b + 4 + k))] [] (sr m b s) (fun r1 m1 => r1 = none ∧ m1 = sr m b (wat s k))
  refine x_aload_n (q := 1) dX1_waitOneDay_0 rfl rfl ?_
  refine x_aload_n (q := 2) dX1_waitOneDay_1 rfl rfl ?_
  refine x_getIr (q := 5) dX1_waitOneDay_2 rfl fl_X1_21 (ob1 hb hk 3 (by decide)) ?_
  refine x_iconst (q := 6) (v := 1) dX1_waitOneDay_5 rfl (by decide) ?_
  refine x_iadd (q := 7) dX1_waitOneDay_6 rfl ?_
  refine x_sipush (q := 10) (v := 9999) dX1_waitOneDay_7 rfl (by decide) ?_
  refine x_mmin (q := 13) dX1_waitOneDay_10 rfl ml_X1_57 ⟨by decide, Nat.le_of_ble_eq_true rfl⟩ ?_
  refine x_putIr (q := 16) dX1_waitOneDay_13 rfl fl_X1_21 (ob1 hb hk 3 (by decide)) rfl rfl rfl  ?_
  refine x_aload_n (q := 17) dX1_waitOneDay_16 rfl rfl ?_
  refine x_getIr (q := 20) dX1_waitOneDay_17 rfl fl_X1_21 (ob1 hb hk 3 (by decide)) ?_
  refine x_aload_n (q := 21) dX1_waitOneDay_20 rfl rfl ?_
  refine x_getIr (q := 24) dX1_waitOneDay_21 rfl fl_X1_9 (ob1 hb hk 0 (by decide)) ?_
  refine x_callS1v (q := 27) dX1_waitOneDay_24 rfl ml_X1_37 ms_X1_lasts c_X1_lasts (Nat.le_of_ble_eq_true rfl) ⟨by decide, by decide⟩ ?_
  refine x_icmp_le (q := 30) (t := 35) dX1_waitOneDay_27 rfl (by decide) (fun h27 => ?_) (fun h27 => ?_)
  · refine x_return dX1_waitOneDay_35 rfl ?_
    exact ⟨rfl, by first | (rw [upd_self, upd_ne (by omega)] at h27; rw [wat, if_neg (Int32.not_lt.mpr h27)]) | (rw [upd_self, upd_ne (by omega)] at h27; rw [wat, if_pos (Int32.not_le.mp h27)])⟩
  refine x_aload_n (q := 31) dX1_waitOneDay_30 rfl rfl ?_
  refine x_iconst (q := 32) (v := 2) dX1_waitOneDay_31 rfl (by decide) ?_
  refine x_putIr (q := 35) dX1_waitOneDay_32 rfl fl_X1_24 (ob1 hb hk 4 (by decide)) rfl rfl rfl  ?_
  refine x_return dX1_waitOneDay_35 rfl ?_
  exact ⟨rfl, by first | (rw [upd_self, upd_ne (by omega)] at h27; rw [wat, if_neg (Int32.not_lt.mpr h27)]) | (rw [upd_self, upd_ne (by omega)] at h27; rw [wat, if_pos (Int32.not_le.mp h27)])⟩
theorem dX1_becomeAs_0 : decode cX1_becomeAs 0 = .ok (.aload_n 0, 1) := by decide +kernel
theorem dX1_becomeAs_1 : decode cX1_becomeAs 1 = .ok (.aload_n 1, 1) := by decide +kernel
theorem dX1_becomeAs_2 : decode cX1_becomeAs 2 = .ok (.getfield 9, 3) := by decide +kernel
theorem dX1_becomeAs_5 : decode cX1_becomeAs 5 = .ok (.putfield 9, 3) := by decide +kernel
theorem dX1_becomeAs_8 : decode cX1_becomeAs 8 = .ok (.aload_n 0, 1) := by decide +kernel
theorem dX1_becomeAs_9 : decode cX1_becomeAs 9 = .ok (.aload_n 1, 1) := by decide +kernel
theorem dX1_becomeAs_10 : decode cX1_becomeAs 10 = .ok (.getfield 15, 3) := by decide +kernel
theorem dX1_becomeAs_13 : decode cX1_becomeAs 13 = .ok (.putfield 15, 3) := by decide +kernel
theorem dX1_becomeAs_16 : decode cX1_becomeAs 16 = .ok (.aload_n 0, 1) := by decide +kernel
theorem dX1_becomeAs_17 : decode cX1_becomeAs 17 = .ok (.aload_n 1, 1) := by decide +kernel
theorem dX1_becomeAs_18 : decode cX1_becomeAs 18 = .ok (.getfield 18, 3) := by decide +kernel
theorem dX1_becomeAs_21 : decode cX1_becomeAs 21 = .ok (.putfield 18, 3) := by decide +kernel
theorem dX1_becomeAs_24 : decode cX1_becomeAs 24 = .ok (.aload_n 0, 1) := by decide +kernel
theorem dX1_becomeAs_25 : decode cX1_becomeAs 25 = .ok (.aload_n 1, 1) := by decide +kernel
theorem dX1_becomeAs_26 : decode cX1_becomeAs 26 = .ok (.getfield 21, 3) := by decide +kernel
theorem dX1_becomeAs_29 : decode cX1_becomeAs 29 = .ok (.putfield 21, 3) := by decide +kernel
theorem dX1_becomeAs_32 : decode cX1_becomeAs 32 = .ok (.aload_n 0, 1) := by decide +kernel
theorem dX1_becomeAs_33 : decode cX1_becomeAs 33 = .ok (.aload_n 1, 1) := by decide +kernel
theorem dX1_becomeAs_34 : decode cX1_becomeAs 34 = .ok (.getfield 24, 3) := by decide +kernel
theorem dX1_becomeAs_37 : decode cX1_becomeAs 37 = .ok (.putfield 24, 3) := by decide +kernel
theorem dX1_becomeAs_40 : decode cX1_becomeAs 40 = .ok (.aload_n 0, 1) := by decide +kernel
theorem dX1_becomeAs_41 : decode cX1_becomeAs 41 = .ok (.aload_n 1, 1) := by decide +kernel
theorem dX1_becomeAs_42 : decode cX1_becomeAs 42 = .ok (.getfield 27, 3) := by decide +kernel
theorem dX1_becomeAs_45 : decode cX1_becomeAs 45 = .ok (.putfield 27, 3) := by decide +kernel
theorem dX1_becomeAs_48 : decode cX1_becomeAs 48 = .ok (.aload_n 0, 1) := by decide +kernel
theorem dX1_becomeAs_49 : decode cX1_becomeAs 49 = .ok (.aload_n 1, 1) := by decide +kernel
theorem dX1_becomeAs_50 : decode cX1_becomeAs 50 = .ok (.getfield 30, 3) := by decide +kernel
theorem dX1_becomeAs_53 : decode cX1_becomeAs 53 = .ok (.putfield 30, 3) := by decide +kernel
theorem dX1_becomeAs_56 : decode cX1_becomeAs 56 = .ok (.return_, 1) := by decide +kernel
set_option maxRecDepth 20000 in
set_option maxHeartbeats 4000000 in
theorem c_X1_becomeAs {K : Cx} {b k b2 j : Nat} {s : Nat → Int32} {m : TM} (hb : isC b) (hk : k < 8) (h2 : isC b2) (hj : j < 8) (hne : b2 ≠ b) : CT yX1_becomeAs cX1_becomeAs 2 none 0 0 K [.ref (b + 4 + k), .ref (b2 + 4 + j)] (sr m b s) none (sr m b (bcP s (m.1 b2) k j)) := by
  refine ct_ofd (n := 0) (by decide +kernel) rfl rfl ?_
  show XX RX1 cX1_becomeAs 2 none 0 0 K 0 [some (.ref (b + 4 + k)), some (.ref (b2 + 4 + j))] [] (sr m b s) (fun r1 m1 => r1 = none ∧ m1 = sr m b (bcP s (m.1 b2) k j))
  refine x_aload_n (q := 1) dX1_becomeAs_0 rfl rfl ?_
  refine x_aload_n (q := 2) dX1_becomeAs_1 rfl rfl ?_
  refine x_getI (q := 5) dX1_becomeAs_2 rfl fl_X1_9 (ob1 h2 hj 0 (by decide)) ?_
  refine x_putIr (q := 8) dX1_becomeAs_5 rfl fl_X1_9 (ob1 hb hk 0 (by decide)) rfl rfl rfl  ?_
  refine x_aload_n (q := 9) dX1_becomeAs_8 rfl rfl ?_
  refine x_aload_n (q := 10) dX1_becomeAs_9 rfl rfl ?_
  refine x_getI (q := 13) dX1_becomeAs_10 rfl fl_X1_15 (ob1 h2 hj 1 (by decide)) ?_
  refine x_putIr (q := 16) dX1_becomeAs_13 rfl fl_X1_15 (ob1 hb hk 1 (by decide)) rfl rfl rfl  ?_
  refine x_aload_n (q := 17) dX1_becomeAs_16 rfl rfl ?_
  refine x_aload_n (q := 18) dX1_becomeAs_17 rfl rfl ?_
  refine x_getI (q := 21) dX1_becomeAs_18 rfl fl_X1_18 (ob1 h2 hj 2 (by decide)) ?_
  refine x_putIr (q := 24) dX1_becomeAs_21 rfl fl_X1_18 (ob1 hb hk 2 (by decide)) rfl rfl rfl  ?_
  refine x_aload_n (q := 25) dX1_becomeAs_24 rfl rfl ?_
  refine x_aload_n (q := 26) dX1_becomeAs_25 rfl rfl ?_
  refine x_getI (q := 29) dX1_becomeAs_26 rfl fl_X1_21 (ob1 h2 hj 3 (by decide)) ?_
  refine x_putIr (q := 32) dX1_becomeAs_29 rfl fl_X1_21 (ob1 hb hk 3 (by decide)) rfl rfl rfl  ?_
  refine x_aload_n (q := 33) dX1_becomeAs_32 rfl rfl ?_
  refine x_aload_n (q := 34) dX1_becomeAs_33 rfl rfl ?_
  refine x_getI (q := 37) dX1_becomeAs_34 rfl fl_X1_24 (ob1 h2 hj 4 (by decide)) ?_
  refine x_putIr (q := 40) dX1_becomeAs_37 rfl fl_X1_24 (ob1 hb hk 4 (by decide)) rfl rfl rfl  ?_
  refine x_aload_n (q := 41) dX1_becomeAs_40 rfl rfl ?_
  refine x_aload_n (q := 42) dX1_becomeAs_41 rfl rfl ?_
  refine x_getI (q := 45) dX1_becomeAs_42 rfl fl_X1_27 (ob1 h2 hj 5 (by decide)) ?_
  refine x_putIr (q := 48) dX1_becomeAs_45 rfl fl_X1_27 (ob1 hb hk 5 (by decide)) rfl rfl rfl  ?_
  refine x_aload_n (q := 49) dX1_becomeAs_48 rfl rfl ?_
  refine x_aload_n (q := 50) dX1_becomeAs_49 rfl rfl ?_
  refine x_getI (q := 53) dX1_becomeAs_50 rfl fl_X1_30 (ob1 h2 hj 6 (by decide)) ?_
  refine x_putIr (q := 56) dX1_becomeAs_53 rfl fl_X1_30 (ob1 hb hk 6 (by decide)) rfl rfl rfl  ?_
  refine x_return dX1_becomeAs_56 rfl ?_
  exact ⟨rfl, by simp only [sr_ne hne]; rfl⟩
theorem dX1_isA_0 : decode cX1_isA 0 = .ok (.aload_n 0, 1) := by decide +kernel
theorem dX1_isA_1 : decode cX1_isA 1 = .ok (.getfield 9, 3) := by decide +kernel
theorem dX1_isA_4 : decode cX1_isA 4 = .ok (.istore_n 2, 1) := by decide +kernel
theorem dX1_isA_5 : decode cX1_isA 5 = .ok (.iconst 0, 1) := by decide +kernel
theorem dX1_isA_6 : decode cX1_isA 6 = .ok (.istore_n 3, 1) := by decide +kernel
theorem dX1_isA_7 : decode cX1_isA 7 = .ok (.iload_n 3, 1) := by decide +kernel
theorem dX1_isA_8 : decode cX1_isA 8 = .ok (.bipush 6, 2) := by decide +kernel
theorem dX1_isA_10 : decode cX1_isA 10 = .ok (.if_icmp .gt 26, 3) := by decide +kernel
theorem dX1_isA_13 : decode cX1_isA 13 = .ok (.iload_n 2, 1) := by decide +kernel
theorem dX1_isA_14 : decode cX1_isA 14 = .ok (.iconst (-1), 1) := by decide +kernel
theorem dX1_isA_15 : decode cX1_isA 15 = .ok (.if_icmp .eq 21, 3) := by decide +kernel
theorem dX1_isA_18 : decode cX1_isA 18 = .ok (.iload_n 2, 1) := by decide +kernel
theorem dX1_isA_19 : decode cX1_isA 19 = .ok (.iload_n 1, 1) := by decide +kernel
theorem dX1_isA_20 : decode cX1_isA 20 = .ok (.if_icmp .ne 5, 3) := by decide +kernel
theorem dX1_isA_23 : decode cX1_isA 23 = .ok (.iconst 1, 1) := by decide +kernel
theorem dX1_isA_24 : decode cX1_isA 24 = .ok (.ireturn, 1) := by decide +kernel
theorem dX1_isA_25 : decode cX1_isA 25 = .ok (.iload_n 2, 1) := by decide +kernel
theorem dX1_isA_26 : decode cX1_isA 26 = .ok (.invokestatic 47, 3) := by decide +kernel
theorem dX1_isA_29 : decode cX1_isA 29 = .ok (.istore_n 2, 1) := by decide +kernel
theorem dX1_isA_30 : decode cX1_isA 30 = .ok (.iinc 3 1, 3) := by decide +kernel
theorem dX1_isA_33 : decode cX1_isA 33 = .ok (.goto (-26), 3) := by decide +kernel
theorem dX1_isA_36 : decode cX1_isA 36 = .ok (.iconst 0, 1) := by decide +kernel
theorem dX1_isA_37 : decode cX1_isA 37 = .ok (.ireturn, 1) := by decide +kernel
set_option maxRecDepth 20000 in
set_option maxHeartbeats 4000000 in
theorem l_X1_isA {K : Cx} {b k : Nat} {so : Int32} {mm : TM} (hb : isC b) (hk : k < 8) : ∀ (n : Nat) (j : Nat) (x : Int32), 7 - j < n → j ≤ 7 → XX RX1 cX1_isA 4 (some .boolean) 1 20 K 7 [some (.ref (b + 4 + k)), some (.int so), some (.int x), some (.int (nI j))] [] (mm) (fun r1 m1 => r1 = (some (.int (bI (anc (7 - j) x so)))) ∧ m1 = mm) := by
  intro n
  induction n with
  | zero => intro j x hlt; exact absurd hlt (Nat.not_lt_zero _)
  | succ n ih =>
    intro j x hlt hj
    refine x_iload_n (q := 8) dX1_isA_7 rfl rfl ?_
    refine x_bipush (q := 10) (v := 6) dX1_isA_8 rfl (by decide) ?_
    refine x_icmp_gt (q := 13) (t := 36) dX1_isA_10 rfl (by decide) (fun h10 => ?_) (fun h10 => ?_)
    · 
      refine x_iconst (q := 37) (v := 0) dX1_isA_36 rfl (by decide) ?_
      refine x_ireturn dX1_isA_37 rfl (by decide) ?_
      refine ⟨?_, rfl⟩
      first
      | (have h6 : 6 < j := (jnI_lt (a := 6) (by omega) (by omega)).mp h10; rw [show 7 - j = 0 by omega, anc]; rfl)
      | (have e : 7 - j = (7 - (j + 1)) + 1 := by omega
         rw [e, anc]
         first | (rw [if_pos h15]; rfl) | (rw [if_neg h15, if_pos h20]; rfl))
    have hj6 : ¬ 6 < j := fun q => h10 ((jnI_lt (a := 6) (by omega) (by omega)).mpr q)
    refine x_iload_n (q := 14) dX1_isA_13 rfl rfl ?_
    refine x_iconst (q := 15) (v := (-1)) dX1_isA_14 rfl (by decide) ?_
    refine x_icmp_eq (q := 18) (t := 36) dX1_isA_15 rfl (by decide) (fun h15 => ?_) (fun h15 => ?_)
    · 
      refine x_iconst (q := 37) (v := 0) dX1_isA_36 rfl (by decide) ?_
      refine x_ireturn dX1_isA_37 rfl (by decide) ?_
      refine ⟨?_, rfl⟩
      first
      | (have h6 : 6 < j := (jnI_lt (a := 6) (by omega) (by omega)).mp h10; rw [show 7 - j = 0 by omega, anc]; rfl)
      | (have e : 7 - j = (7 - (j + 1)) + 1 := by omega
         rw [e, anc]
         first | (rw [if_pos h15]; rfl) | (rw [if_neg h15, if_pos h20]; rfl))
    refine x_iload_n (q := 19) dX1_isA_18 rfl rfl ?_
    refine x_iload_n (q := 20) dX1_isA_19 rfl rfl ?_
    refine x_icmp_ne (q := 23) (t := 25) dX1_isA_20 rfl (by decide) (fun h20 => ?_) (fun h20 => ?_)
    · refine x_iload_n (q := 26) dX1_isA_25 rfl rfl ?_
      refine x_callS1v (q := 29) dX1_isA_26 rfl ml_X1_47 ms_X1_over c_X1_over (Nat.le_of_ble_eq_true rfl) ⟨by decide, by decide⟩ ?_
      refine x_istore_n (q := 30) dX1_isA_29 rfl (by decide) rfl rfl ?_
      refine x_iinc (q := 33) (v := nI (j + 1)) dX1_isA_30 rfl rfl (jnI_s j) (by decide) rfl rfl ?_
      refine x_goto (q := 7) dX1_isA_33 (by decide) ?_
      have e : 7 - j = (7 - (j + 1)) + 1 := by omega
      have e2 : anc (7 - j) x so = anc (7 - (j + 1)) (ovr x) so := by rw [e, anc]; simp [h15, h20]
      rw [e2]
      exact ih (j + 1) (ovr x) (by omega) (by omega)
    refine x_iconst (q := 24) (v := 1) dX1_isA_23 rfl (by decide) ?_
    refine x_ireturn dX1_isA_24 rfl (by decide) ?_
    refine ⟨?_, rfl⟩
    first
    | (have h6 : 6 < j := (jnI_lt (a := 6) (by omega) (by omega)).mp h10; rw [show 7 - j = 0 by omega, anc]; rfl)
    | (have e : 7 - j = (7 - (j + 1)) + 1 := by omega
       rw [e, anc]
       first | (rw [if_pos h15]; rfl) | (rw [if_neg h15, if_pos h20]; rfl))
set_option maxRecDepth 20000 in
set_option maxHeartbeats 4000000 in
theorem c_X1_isA {K : Cx} {b k : Nat} {s : Nat → Int32} {so : Int32} {m : TM} (hb : isC b) (hk : k < 8) : CT yX1_isA cX1_isA 4 (some .boolean) 1 20 K [.ref (b + 4 + k), .int so] (sr m b s) (some (.int (bI (anc 7 (s (12 + 7 * k + 0)) so)))) (sr m b s) := by
  refine ct_ofd (n := 2) (by decide +kernel) rfl rfl ?_
  show XX RX1 cX1_isA 4 (some .boolean) 1 20 K 0 [some (.ref (b + 4 + k)), some (.int so), none, none] [] (sr m b s) (fun r1 m1 => r1 = (some (.int (bI (anc 7 (s (12 + 7 * k + 0)) so)))) ∧ m1 = sr m b s)
  refine x_aload_n (q := 1) dX1_isA_0 rfl rfl ?_
  refine x_getIr (q := 4) dX1_isA_1 rfl fl_X1_9 (ob1 hb hk 0 (by decide)) ?_
  refine x_istore_n (q := 5) dX1_isA_4 rfl (by decide) rfl rfl ?_
  refine x_iconst (q := 6) (v := 0) dX1_isA_5 rfl (by decide) ?_
  refine x_istore_n (q := 7) dX1_isA_6 rfl (by decide) rfl rfl ?_
  exact l_X1_isA hb hk 8 0 _ (by omega) (by omega)
