/-! words: the strings of the class, and what is told at the tape -/
def sB (k j : Nat) : Int32 := (sByt.getD k []).getD j 0
def sL (k : Nat) : Nat := sLen.getD k 0
theorem sB_c : ∀ k, k < 13 → ∀ j, j < sL k → ((sB k j &&& 255).toUInt32 % 65536).toInt32 = sB k j ∧ narrow .char (.int (sB k j)) = .int (sB k j) := by decide +kernel
theorem sL_le : ∀ k, k < 13 → sL k ≤ 10 := by decide
theorem sL_sh : ∀ k, k < 13 → Int32.ofNat (sLen.getD k 0) >>> ((0 : Int32) &&& 31) = nI (sL k) := by decide +kernel
theorem dJ0_coder_7d493_0 : decode cJ0_coder_7d493 0 = .ok (.getstatic 38, 3) := by decide +kernel
theorem dJ0_coder_7d493_3 : decode cJ0_coder_7d493 3 = .ok (.ifCond .eq 10, 3) := by decide +kernel
theorem dJ0_coder_7d493_6 : decode cJ0_coder_7d493 6 = .ok (.aload_n 0, 1) := by decide +kernel
theorem dJ0_coder_7d493_7 : decode cJ0_coder_7d493 7 = .ok (.getfield 15, 3) := by decide +kernel
theorem dJ0_coder_7d493_10 : decode cJ0_coder_7d493 10 = .ok (.goto 4, 3) := by decide +kernel
theorem dJ0_coder_7d493_13 : decode cJ0_coder_7d493 13 = .ok (.iconst 1, 1) := by decide +kernel
theorem dJ0_coder_7d493_14 : decode cJ0_coder_7d493 14 = .ok (.ireturn, 1) := by decide +kernel
set_option maxRecDepth 20000 in
set_option maxHeartbeats 4000000 in
theorem c_J0_coder_7d493 {K : Cx} {k : Nat} {m : TM} (hk : k < 13) : CT yJ0_coder_7d493 cJ0_coder_7d493 1 (some .byte) 0 0 K [.ref (100 + k)] (m) (some (.int 0)) (m) := by
  refine ct_ofd (n := 0) (by decide +kernel) rfl rfl ?_
  show XX RJ0 cJ0_coder_7d493 1 (some .byte) 0 0 K 0 [some (.ref (100 + k))] [] (m) (fun r1 m1 => r1 = (some (.int 0)) ∧ m1 = m)
  refine x_gets1 (q := 3) dJ0_coder_7d493_0 rfl fl_J0_38 ?_
  refine x_if_eq (q := 6) (t := 13) dJ0_coder_7d493_3 rfl (by decide) (fun h => absurd h (by decide)) (fun _ => ?_)
  refine x_aload_n (q := 7) dJ0_coder_7d493_6 rfl rfl ?_
  refine x_scod (q := 10) dJ0_coder_7d493_7 rfl hk fl_J0_15 ?_
  refine x_goto (q := 14) dJ0_coder_7d493_10 (by decide) ?_
  refine x_ireturn dJ0_coder_7d493_14 rfl (by decide) ?_
  exact ⟨rfl, rfl⟩
theorem dJ0_length_8abf5_0 : decode cJ0_length_8abf5 0 = .ok (.aload_n 0, 1) := by decide +kernel
theorem dJ0_length_8abf5_1 : decode cJ0_length_8abf5 1 = .ok (.getfield 9, 3) := by decide +kernel
theorem dJ0_length_8abf5_4 : decode cJ0_length_8abf5 4 = .ok (.arraylength, 1) := by decide +kernel
theorem dJ0_length_8abf5_5 : decode cJ0_length_8abf5 5 = .ok (.aload_n 0, 1) := by decide +kernel
theorem dJ0_length_8abf5_6 : decode cJ0_length_8abf5 6 = .ok (.invokevirtual 335, 3) := by decide +kernel
theorem dJ0_length_8abf5_9 : decode cJ0_length_8abf5 9 = .ok (.ishr, 1) := by decide +kernel
theorem dJ0_length_8abf5_10 : decode cJ0_length_8abf5 10 = .ok (.ireturn, 1) := by decide +kernel
set_option maxRecDepth 20000 in
set_option maxHeartbeats 4000000 in
theorem c_J0_length_8abf5 {K : Cx} {k : Nat} {m : TM} (hk : k < 13) : CT yJ0_length_8abf5 cJ0_length_8abf5 1 (some .int) 1 20 K [.ref (100 + k)] (m) (some (.int (nI (sL k)))) (m) := by
  refine ct_ofd (n := 0) (by decide +kernel) rfl rfl ?_
  show XX RJ0 cJ0_length_8abf5 1 (some .int) 1 20 K 0 [some (.ref (100 + k))] [] (m) (fun r1 m1 => r1 = (some (.int (nI (sL k)))) ∧ m1 = m)
  refine x_aload_n (q := 1) dJ0_length_8abf5_0 rfl rfl ?_
  refine x_sval (q := 4) dJ0_length_8abf5_1 rfl hk fl_J0_9 ?_
  refine x_slen (q := 5) dJ0_length_8abf5_4 rfl hk rfl ?_
  refine x_aload_n (q := 6) dJ0_length_8abf5_5 rfl rfl ?_
  refine x_callT0v (q := 9) dJ0_length_8abf5_6 rfl ml_J0_335 mv_J0_coder_7d493 hk rfl (c_J0_coder_7d493 hk) (Nat.le_of_ble_eq_true rfl) ⟨by decide, by decide⟩ ?_
  refine x_ishr (q := 10) dJ0_length_8abf5_9 rfl ?_
  rw [sL_sh k hk]
  refine x_ireturn dJ0_length_8abf5_10 rfl rfl ?_
  exact ⟨rfl, rfl⟩
theorem dJ0_isLatin1_aae02_0 : decode cJ0_isLatin1_aae02 0 = .ok (.getstatic 38, 3) := by decide +kernel
theorem dJ0_isLatin1_aae02_3 : decode cJ0_isLatin1_aae02 3 = .ok (.ifCond .eq 14, 3) := by decide +kernel
theorem dJ0_isLatin1_aae02_6 : decode cJ0_isLatin1_aae02 6 = .ok (.aload_n 0, 1) := by decide +kernel
theorem dJ0_isLatin1_aae02_7 : decode cJ0_isLatin1_aae02 7 = .ok (.getfield 15, 3) := by decide +kernel
theorem dJ0_isLatin1_aae02_10 : decode cJ0_isLatin1_aae02 10 = .ok (.ifCond .ne 7, 3) := by decide +kernel
theorem dJ0_isLatin1_aae02_13 : decode cJ0_isLatin1_aae02 13 = .ok (.iconst 1, 1) := by decide +kernel
theorem dJ0_isLatin1_aae02_14 : decode cJ0_isLatin1_aae02 14 = .ok (.goto 4, 3) := by decide +kernel
theorem dJ0_isLatin1_aae02_17 : decode cJ0_isLatin1_aae02 17 = .ok (.iconst 0, 1) := by decide +kernel
theorem dJ0_isLatin1_aae02_18 : decode cJ0_isLatin1_aae02 18 = .ok (.ireturn, 1) := by decide +kernel
set_option maxRecDepth 20000 in
set_option maxHeartbeats 4000000 in
theorem c_J0_isLatin1_aae02 {K : Cx} {k : Nat} {m : TM} (hk : k < 13) : CT yJ0_isLatin1_aae02 cJ0_isLatin1_aae02 1 (some .boolean) 0 0 K [.ref (100 + k)] (m) (some (.int (bI true))) (m) := by
  refine ct_ofd (n := 0) (by decide +kernel) rfl rfl ?_
  show XX RJ0 cJ0_isLatin1_aae02 1 (some .boolean) 0 0 K 0 [some (.ref (100 + k))] [] (m) (fun r1 m1 => r1 = (some (.int (bI true))) ∧ m1 = m)
  refine x_gets1 (q := 3) dJ0_isLatin1_aae02_0 rfl fl_J0_38 ?_
  refine x_if_eq (q := 6) (t := 17) dJ0_isLatin1_aae02_3 rfl (by decide) (fun h => absurd h (by decide)) (fun _ => ?_)
  refine x_aload_n (q := 7) dJ0_isLatin1_aae02_6 rfl rfl ?_
  refine x_scod (q := 10) dJ0_isLatin1_aae02_7 rfl hk fl_J0_15 ?_
  refine x_if_ne (q := 13) (t := 17) dJ0_isLatin1_aae02_10 rfl (by decide) (fun h => absurd rfl h) (fun _ => ?_)
  refine x_iconst (q := 14) (v := 1) dJ0_isLatin1_aae02_13 rfl (by decide) ?_
  refine x_goto (q := 18) dJ0_isLatin1_aae02_14 (by decide) ?_
  refine x_ireturn dJ0_isLatin1_aae02_18 rfl (by decide) ?_
  exact ⟨rfl, rfl⟩
theorem dJ3_checkIndex_8e157_0 : decode cJ3_checkIndex_8e157 0 = .ok (.iload_n 0, 1) := by decide +kernel
theorem dJ3_checkIndex_8e157_1 : decode cJ3_checkIndex_8e157 1 = .ok (.ifCond .lt 8, 3) := by decide +kernel
theorem dJ3_checkIndex_8e157_4 : decode cJ3_checkIndex_8e157 4 = .ok (.iload_n 0, 1) := by decide +kernel
theorem dJ3_checkIndex_8e157_5 : decode cJ3_checkIndex_8e157 5 = .ok (.iload_n 1, 1) := by decide +kernel
theorem dJ3_checkIndex_8e157_6 : decode cJ3_checkIndex_8e157 6 = .ok (.if_icmp .lt 10, 3) := by decide +kernel
theorem dJ3_checkIndex_8e157_9 : decode cJ3_checkIndex_8e157 9 = .ok (.aload_n 2, 1) := by decide +kernel
theorem dJ3_checkIndex_8e157_10 : decode cJ3_checkIndex_8e157 10 = .ok (.iload_n 0, 1) := by decide +kernel
theorem dJ3_checkIndex_8e157_11 : decode cJ3_checkIndex_8e157 11 = .ok (.iload_n 1, 1) := by decide +kernel
theorem dJ3_checkIndex_8e157_12 : decode cJ3_checkIndex_8e157 12 = .ok (.invokestatic 95, 3) := by decide +kernel
theorem dJ3_checkIndex_8e157_15 : decode cJ3_checkIndex_8e157 15 = .ok (.athrow, 1) := by decide +kernel
theorem dJ3_checkIndex_8e157_16 : decode cJ3_checkIndex_8e157 16 = .ok (.iload_n 0, 1) := by decide +kernel
theorem dJ3_checkIndex_8e157_17 : decode cJ3_checkIndex_8e157 17 = .ok (.ireturn, 1) := by decide +kernel
set_option maxRecDepth 20000 in
set_option maxHeartbeats 4000000 in
theorem c_J3_checkIndexN {K : Cx} {i n : Int32} {m : TM} (h0 : ¬ i < 0) (hn : i < n) : CT yJ3_checkIndex_8e157 cJ3_checkIndex_8e157 3 (some .int) 0 0 K [.int i, .int n, .null] (m) (some (.int (i))) (m) := by
  refine ct_ofd (n := 0) (by decide +kernel) rfl rfl ?_
  show XX RJ3 cJ3_checkIndex_8e157 3 (some .int) 0 0 K 0 [some (.int i), some (.int n), some (.null)] [] (m) (fun r1 m1 => r1 = (some (.int (i))) ∧ m1 = m)
  refine x_iload_n (q := 1) dJ3_checkIndex_8e157_0 rfl rfl ?_
  refine x_if_lt (q := 4) (t := 9) dJ3_checkIndex_8e157_1 rfl (by decide) (fun h1 => ?_) (fun h1 => ?_)
  · exact absurd h1 h0
  refine x_iload_n (q := 5) dJ3_checkIndex_8e157_4 rfl rfl ?_
  refine x_iload_n (q := 6) dJ3_checkIndex_8e157_5 rfl rfl ?_
  refine x_icmp_lt (q := 9) (t := 16) dJ3_checkIndex_8e157_6 rfl (by decide) (fun h6 => ?_) (fun h6 => ?_)
  · refine x_iload_n (q := 17) dJ3_checkIndex_8e157_16 rfl rfl ?_
    refine x_ireturn dJ3_checkIndex_8e157_17 rfl rfl ?_
    exact ⟨rfl, rfl⟩
  exact absurd hn h6
set_option maxRecDepth 20000 in
set_option maxHeartbeats 4000000 in
theorem c_J3_checkIndexF {K : Cx} {i n : Int32} {m : TM} (h0 : ¬ i < 0) (hn : i < n) : CT yJ3_checkIndex_8e157 cJ3_checkIndex_8e157 3 (some .int) 0 0 K [.int i, .int n, .ref 140] (m) (some (.int (i))) (m) := by
  refine ct_ofd (n := 0) (by decide +kernel) rfl rfl ?_
  show XX RJ3 cJ3_checkIndex_8e157 3 (some .int) 0 0 K 0 [some (.int i), some (.int n), some (.ref 140)] [] (m) (fun r1 m1 => r1 = (some (.int (i))) ∧ m1 = m)
  refine x_iload_n (q := 1) dJ3_checkIndex_8e157_0 rfl rfl ?_
  refine x_if_lt (q := 4) (t := 9) dJ3_checkIndex_8e157_1 rfl (by decide) (fun h1 => ?_) (fun h1 => ?_)
  · exact absurd h1 h0
  refine x_iload_n (q := 5) dJ3_checkIndex_8e157_4 rfl rfl ?_
  refine x_iload_n (q := 6) dJ3_checkIndex_8e157_5 rfl rfl ?_
  refine x_icmp_lt (q := 9) (t := 16) dJ3_checkIndex_8e157_6 rfl (by decide) (fun h6 => ?_) (fun h6 => ?_)
  · refine x_iload_n (q := 17) dJ3_checkIndex_8e157_16 rfl rfl ?_
    refine x_ireturn dJ3_checkIndex_8e157_17 rfl rfl ?_
    exact ⟨rfl, rfl⟩
  exact absurd hn h6
theorem dJ0_checkIndex_df160_0 : decode cJ0_checkIndex_df160 0 = .ok (.iload_n 0, 1) := by decide +kernel
theorem dJ0_checkIndex_df160_1 : decode cJ0_checkIndex_df160 1 = .ok (.iload_n 1, 1) := by decide +kernel
theorem dJ0_checkIndex_df160_2 : decode cJ0_checkIndex_df160 2 = .ok (.getstatic 1053, 3) := by decide +kernel
theorem dJ0_checkIndex_df160_5 : decode cJ0_checkIndex_df160 5 = .ok (.invokestatic 1059, 3) := by decide +kernel
theorem dJ0_checkIndex_df160_8 : decode cJ0_checkIndex_df160 8 = .ok (.pop, 1) := by decide +kernel
theorem dJ0_checkIndex_df160_9 : decode cJ0_checkIndex_df160 9 = .ok (.return_, 1) := by decide +kernel
set_option maxRecDepth 20000 in
set_option maxHeartbeats 4000000 in
theorem c_J0_checkIndex_df160 {K : Cx} {i n : Int32} {m : TM} (h0 : ¬ i < 0) (hn : i < n) : CT yJ0_checkIndex_df160 cJ0_checkIndex_df160 2 none 1 22 K [.int i, .int n] (m) none (m) := by
  refine ct_ofd (n := 0) (by decide +kernel) rfl rfl ?_
  show XX RJ0 cJ0_checkIndex_df160 2 none 1 22 K 0 [some (.int i), some (.int n)] [] (m) (fun r1 m1 => r1 = none ∧ m1 = m)
  refine x_iload_n (q := 1) dJ0_checkIndex_df160_0 rfl rfl ?_
  refine x_iload_n (q := 2) dJ0_checkIndex_df160_1 rfl rfl ?_
  refine x_getsF (q := 5) dJ0_checkIndex_df160_2 rfl fl_J0_1053 (fun vF hF => ?_)
  rcases hF with rfl | rfl
  · refine x_callS3v (q := 8) dJ0_checkIndex_df160_5 rfl ml_J0_1059 ms_J3_checkIndex_8e157 (c_J3_checkIndexN h0 hn) (Nat.le_of_ble_eq_true rfl) ⟨by decide, by decide⟩ ?_
    refine x_pop (q := 9) dJ0_checkIndex_df160_8 rfl rfl ?_
    refine x_return dJ0_checkIndex_df160_9 rfl ?_
    exact ⟨rfl, rfl⟩
  · refine x_callS3v (q := 8) dJ0_checkIndex_df160_5 rfl ml_J0_1059 ms_J3_checkIndex_8e157 (c_J3_checkIndexF h0 hn) (Nat.le_of_ble_eq_true rfl) ⟨by decide, by decide⟩ ?_
    refine x_pop (q := 9) dJ0_checkIndex_df160_8 rfl rfl ?_
    refine x_return dJ0_checkIndex_df160_9 rfl ?_
    exact ⟨rfl, rfl⟩
theorem dJ1_charAt_3b067_0 : decode cJ1_charAt_3b067 0 = .ok (.iload_n 1, 1) := by decide +kernel
theorem dJ1_charAt_3b067_1 : decode cJ1_charAt_3b067 1 = .ok (.aload_n 0, 1) := by decide +kernel
theorem dJ1_charAt_3b067_2 : decode cJ1_charAt_3b067 2 = .ok (.arraylength, 1) := by decide +kernel
theorem dJ1_charAt_3b067_3 : decode cJ1_charAt_3b067 3 = .ok (.invokestatic 9, 3) := by decide +kernel
theorem dJ1_charAt_3b067_6 : decode cJ1_charAt_3b067 6 = .ok (.aload_n 0, 1) := by decide +kernel
theorem dJ1_charAt_3b067_7 : decode cJ1_charAt_3b067 7 = .ok (.iload_n 1, 1) := by decide +kernel
theorem dJ1_charAt_3b067_8 : decode cJ1_charAt_3b067 8 = .ok (.baload, 1) := by decide +kernel
theorem dJ1_charAt_3b067_9 : decode cJ1_charAt_3b067 9 = .ok (.sipush 255, 3) := by decide +kernel
theorem dJ1_charAt_3b067_12 : decode cJ1_charAt_3b067 12 = .ok (.iand, 1) := by decide +kernel
theorem dJ1_charAt_3b067_13 : decode cJ1_charAt_3b067 13 = .ok (.i2c, 1) := by decide +kernel
theorem dJ1_charAt_3b067_14 : decode cJ1_charAt_3b067 14 = .ok (.ireturn, 1) := by decide +kernel
set_option maxRecDepth 20000 in
set_option maxHeartbeats 4000000 in
theorem c_J1_charAt_3b067 {K : Cx} {k j : Nat} {m : TM} (hk : k < 13) (hj : j < sL k) : CT yJ1_charAt_3b067 cJ1_charAt_3b067 2 (some .char) 2 43 K [.ref (120 + k), .int (nI j)] (m) (some (.int (sB k j))) (m) := by
  refine ct_ofd (n := 0) (by decide +kernel) rfl rfl ?_
  show XX RJ1 cJ1_charAt_3b067 2 (some .char) 2 43 K 0 [some (.ref (120 + k)), some (.int (nI j))] [] (m) (fun r1 m1 => r1 = (some (.int (sB k j))) ∧ m1 = m)
  have hl := sL_le k hk
  refine x_iload_n (q := 1) dJ1_charAt_3b067_0 rfl rfl ?_
  refine x_aload_n (q := 2) dJ1_charAt_3b067_1 rfl rfl ?_
  refine x_slen (q := 3) dJ1_charAt_3b067_2 rfl hk rfl ?_
  refine x_callS2n (q := 6) dJ1_charAt_3b067_3 rfl ml_J1_9 ms_J0_checkIndex_df160 (c_J0_checkIndex_df160 (jnI_nneg (by omega)) ((jnI_lt (a := j) (b := sL k) (by omega) (by omega)).mpr hj)) (Nat.le_of_ble_eq_true rfl) ⟨by decide, by decide⟩ ?_
  refine x_aload_n (q := 7) dJ1_charAt_3b067_6 rfl rfl ?_
  refine x_iload_n (q := 8) dJ1_charAt_3b067_7 rfl rfl ?_
  refine x_sbald (q := 9) dJ1_charAt_3b067_8 rfl hk (ix_nI (n := sLen.getD k 0) (k := j) hj (by show sL k < _; omega)) rfl ?_
  refine x_sipush (q := 12) (v := 255) dJ1_charAt_3b067_9 rfl (by decide) ?_
  refine x_iand (q := 13) dJ1_charAt_3b067_12 rfl ?_
  refine x_i2c (q := 14) dJ1_charAt_3b067_13 rfl ?_
  rw [show (sByt.getD k []).getD j 0 = sB k j from rfl, (sB_c k hk j hj).1]
  refine x_ireturn dJ1_charAt_3b067_14 rfl (sB_c k hk j hj).2 ?_
  exact ⟨rfl, rfl⟩
theorem dJ0_charAt_5068e_0 : decode cJ0_charAt_5068e 0 = .ok (.aload_n 0, 1) := by decide +kernel
theorem dJ0_charAt_5068e_1 : decode cJ0_charAt_5068e 1 = .ok (.invokevirtual 492, 3) := by decide +kernel
theorem dJ0_charAt_5068e_4 : decode cJ0_charAt_5068e 4 = .ok (.ifCond .eq 12, 3) := by decide +kernel
theorem dJ0_charAt_5068e_7 : decode cJ0_charAt_5068e 7 = .ok (.aload_n 0, 1) := by decide +kernel
theorem dJ0_charAt_5068e_8 : decode cJ0_charAt_5068e 8 = .ok (.getfield 9, 3) := by decide +kernel
theorem dJ0_charAt_5068e_11 : decode cJ0_charAt_5068e 11 = .ok (.iload_n 1, 1) := by decide +kernel
theorem dJ0_charAt_5068e_12 : decode cJ0_charAt_5068e 12 = .ok (.invokestatic 495, 3) := by decide +kernel
theorem dJ0_charAt_5068e_15 : decode cJ0_charAt_5068e 15 = .ok (.ireturn, 1) := by decide +kernel
theorem dJ0_charAt_5068e_16 : decode cJ0_charAt_5068e 16 = .ok (.aload_n 0, 1) := by decide +kernel
theorem dJ0_charAt_5068e_17 : decode cJ0_charAt_5068e 17 = .ok (.getfield 9, 3) := by decide +kernel
theorem dJ0_charAt_5068e_20 : decode cJ0_charAt_5068e 20 = .ok (.iload_n 1, 1) := by decide +kernel
theorem dJ0_charAt_5068e_21 : decode cJ0_charAt_5068e 21 = .ok (.invokestatic 498, 3) := by decide +kernel
theorem dJ0_charAt_5068e_24 : decode cJ0_charAt_5068e 24 = .ok (.ireturn, 1) := by decide +kernel
set_option maxRecDepth 20000 in
set_option maxHeartbeats 4000000 in
theorem c_J0_charAt_5068e {K : Cx} {k j : Nat} {m : TM} (hk : k < 13) (hj : j < sL k) : CT yJ0_charAt_5068e cJ0_charAt_5068e 2 (some .char) 3 64 K [.ref (100 + k), .int (nI j)] (m) (some (.int (sB k j))) (m) := by
  refine ct_ofd (n := 0) (by decide +kernel) rfl rfl ?_
  show XX RJ0 cJ0_charAt_5068e 2 (some .char) 3 64 K 0 [some (.ref (100 + k)), some (.int (nI j))] [] (m) (fun r1 m1 => r1 = (some (.int (sB k j))) ∧ m1 = m)
  refine x_aload_n (q := 1) dJ0_charAt_5068e_0 rfl rfl ?_
  refine x_callT0v (q := 4) dJ0_charAt_5068e_1 rfl ml_J0_492 mv_J0_isLatin1_aae02 hk rfl (c_J0_isLatin1_aae02 hk) (Nat.le_of_ble_eq_true rfl) ⟨by decide, by decide⟩ ?_
  refine x_ifB_eq (q := 7) (t := 16) dJ0_charAt_5068e_4 rfl (by decide) (fun h4 => ?_) (fun h4 => ?_)
  · exact absurd h4 (by decide)
  refine x_aload_n (q := 8) dJ0_charAt_5068e_7 rfl rfl ?_
  refine x_sval (q := 11) dJ0_charAt_5068e_8 rfl hk fl_J0_9 ?_
  refine x_iload_n (q := 12) dJ0_charAt_5068e_11 rfl rfl ?_
  refine x_callS2v (q := 15) dJ0_charAt_5068e_12 rfl ml_J0_495 ms_J1_charAt_3b067 (c_J1_charAt_3b067 hk hj) (Nat.le_of_ble_eq_true rfl) ⟨by decide, by decide⟩ ?_
  refine x_ireturn dJ0_charAt_5068e_15 rfl (sB_c k hk j hj).2 ?_
  exact ⟨rfl, rfl⟩
theorem mm37 {m : TM} {g s : Nat → Int32} : (sr (sr m 37 g) 13 s).1 37 = g := by rw [sr_ne (by decide), sr_at]
theorem mm38 {m : TM} {g s : Nat → Int32} : (sr (sr m 37 g) 13 s).1 38 = m.1 38 := by rw [sr_ne (by decide), sr_ne (by decide)]
theorem mm39 {m : TM} {g s g1 : Nat → Int32} : sr (sr (sr m 37 g) 13 s) 37 g1 = sr (sr m 37 g1) 13 s := by
  unfold sr
  refine Prod.ext (funext fun a => funext fun b => ?_) rfl
  by_cases h : a = 37 <;> by_cases h2 : a = 13 <;> simp [h, h2]
def rlF (w : Nat → Int32) (j n : Nat) : List Int32 := (List.range n).map (fun i => w (j + i))
def isW (L : Nat) (w : Nat → Int32) (j k : Nat) : Bool := decide (soF L w j = 1 ∧ rlF w j (enF L w j - j) = sByt.getD k [])
theorem sL_len : ∀ k, k < 13 → (sByt.getD k []).length = sL k := by decide
theorem rl_iff {w : Nat → Int32} {j n k : Nat} (hk : k < 13) : rlF w j n = sByt.getD k [] ↔ n = sL k ∧ ∀ i, i < sL k → w (j + i) = sB k i := by
  have hl := sL_len k hk
  constructor
  · intro h
    have hn : n = sL k := by rw [← hl, ← h]; simp [rlF]
    refine ⟨hn, fun i hi => ?_⟩
    unfold sB
    rw [← h]
    simp [rlF, List.getD, hn, hi]
  · rintro ⟨hn, h⟩
    apply List.ext_getElem
    · rw [hl]; simp [rlF, hn]
    · intro i h1 h0
      have h2 := h0
      rw [hl] at h2
      have h3 := h i h2
      unfold sB at h3
      simp only [rlF, List.getElem_map, List.getElem_range]
      rw [h3, List.getD_eq_getElem?_getD, List.getElem?_eq_getElem h0]
      rfl
theorem c_X3_stepM {K : Cx} {L j : Nat} {g s : Nat → Int32} {m : TM} (hT : TS L (m.1 38) j g) (hL2 : L ≤ 120) (hj : j ≤ L) : CQ yX3_step cX3_step 1 none 1 22 K [.ref 37] (sr (sr m 37 g) 13 s) (fun r1 m1 => r1 = none ∧ ∃ g1, TS L (m.1 38) (nxF L (m.1 38) j) g1 ∧ m1 = sr (sr m 37 g1) 13 s) := by
  have h := c_X3_step (K := K) (L := L) (e := enF L (m.1 38) j) (m := sr (sr m 37 g) 13 s) (by rw [mm37]; exact hT.1) hL2 (by rw [mm37]; exact hT.2.2.2.1) (enF_le hj).2
  simp only [mm38, mm39] at h
  exact h
theorem dX3_isWord_0 : decode cX3_isWord 0 = .ok (.aload_n 0, 1) := by decide +kernel
theorem dX3_isWord_1 : decode cX3_isWord 1 = .ok (.getfield 19, 3) := by decide +kernel
theorem dX3_isWord_4 : decode cX3_isWord 4 = .ok (.iconst 1, 1) := by decide +kernel
theorem dX3_isWord_5 : decode cX3_isWord 5 = .ok (.if_icmp .ne 19, 3) := by decide +kernel
theorem dX3_isWord_8 : decode cX3_isWord 8 = .ok (.aload_n 0, 1) := by decide +kernel
theorem dX3_isWord_9 : decode cX3_isWord 9 = .ok (.getfield 25, 3) := by decide +kernel
theorem dX3_isWord_12 : decode cX3_isWord 12 = .ok (.aload_n 0, 1) := by decide +kernel
theorem dX3_isWord_13 : decode cX3_isWord 13 = .ok (.getfield 22, 3) := by decide +kernel
theorem dX3_isWord_16 : decode cX3_isWord 16 = .ok (.isub, 1) := by decide +kernel
theorem dX3_isWord_17 : decode cX3_isWord 17 = .ok (.aload_n 1, 1) := by decide +kernel
theorem dX3_isWord_18 : decode cX3_isWord 18 = .ok (.invokevirtual 117, 3) := by decide +kernel
theorem dX3_isWord_21 : decode cX3_isWord 21 = .ok (.if_icmp .eq 5, 3) := by decide +kernel
theorem dX3_isWord_24 : decode cX3_isWord 24 = .ok (.iconst 0, 1) := by decide +kernel
theorem dX3_isWord_25 : decode cX3_isWord 25 = .ok (.ireturn, 1) := by decide +kernel
theorem dX3_isWord_26 : decode cX3_isWord 26 = .ok (.iconst 0, 1) := by decide +kernel
theorem dX3_isWord_27 : decode cX3_isWord 27 = .ok (.istore_n 2, 1) := by decide +kernel
theorem dX3_isWord_28 : decode cX3_isWord 28 = .ok (.iload_n 2, 1) := by decide +kernel
theorem dX3_isWord_29 : decode cX3_isWord 29 = .ok (.aload_n 1, 1) := by decide +kernel
theorem dX3_isWord_30 : decode cX3_isWord 30 = .ok (.invokevirtual 117, 3) := by decide +kernel
theorem dX3_isWord_33 : decode cX3_isWord 33 = .ok (.if_icmp .ge 30, 3) := by decide +kernel
theorem dX3_isWord_36 : decode cX3_isWord 36 = .ok (.aload_n 0, 1) := by decide +kernel
theorem dX3_isWord_37 : decode cX3_isWord 37 = .ok (.getfield 9, 3) := by decide +kernel
theorem dX3_isWord_40 : decode cX3_isWord 40 = .ok (.aload_n 0, 1) := by decide +kernel
theorem dX3_isWord_41 : decode cX3_isWord 41 = .ok (.getfield 22, 3) := by decide +kernel
theorem dX3_isWord_44 : decode cX3_isWord 44 = .ok (.iload_n 2, 1) := by decide +kernel
theorem dX3_isWord_45 : decode cX3_isWord 45 = .ok (.iadd, 1) := by decide +kernel
theorem dX3_isWord_46 : decode cX3_isWord 46 = .ok (.baload, 1) := by decide +kernel
theorem dX3_isWord_47 : decode cX3_isWord 47 = .ok (.aload_n 1, 1) := by decide +kernel
theorem dX3_isWord_48 : decode cX3_isWord 48 = .ok (.iload_n 2, 1) := by decide +kernel
theorem dX3_isWord_49 : decode cX3_isWord 49 = .ok (.invokevirtual 122, 3) := by decide +kernel
theorem dX3_isWord_52 : decode cX3_isWord 52 = .ok (.if_icmp .eq 5, 3) := by decide +kernel
theorem dX3_isWord_55 : decode cX3_isWord 55 = .ok (.iconst 0, 1) := by decide +kernel
theorem dX3_isWord_56 : decode cX3_isWord 56 = .ok (.ireturn, 1) := by decide +kernel
theorem dX3_isWord_57 : decode cX3_isWord 57 = .ok (.iinc 2 1, 3) := by decide +kernel
theorem dX3_isWord_60 : decode cX3_isWord 60 = .ok (.goto (-32), 3) := by decide +kernel
theorem dX3_isWord_63 : decode cX3_isWord 63 = .ok (.iconst 1, 1) := by decide +kernel
theorem dX3_isWord_64 : decode cX3_isWord 64 = .ok (.ireturn, 1) := by decide +kernel
theorem en_sub {L j : Nat} {w : Nat → Int32} (hj : j ≤ L) : nI (enF L w j) - nI j = nI (enF L w j - j) := by
  have h := (enF_le (w := w) hj).1
  have e : nI (enF L w j) = nI (enF L w j - j) + nI j := by
    rw [← show nI (enF L w j - j + j) = nI (enF L w j - j) + nI j from Int32.ofNat_add _ _]
    exact congrArg nI (by omega)
  rw [e]
  exact Int32.add_sub_cancel ..
set_option maxRecDepth 20000 in
set_option maxHeartbeats 4000000 in
theorem l_X3_isWord {K : Cx} {L j k : Nat} {g s : Nat → Int32} {m : TM} (hT : TS L (m.1 38) j g) (hL2 : L ≤ 120) (hj : j ≤ L) (hk : k < 13) (hs1 : soF L (m.1 38) j = 1) (hen : enF L (m.1 38) j - j = sL k) : ∀ (fu : Nat) (i : Nat), sL k + 1 - i < fu → i ≤ sL k → (∀ q, q < i → m.1 38 (j + q) = sB k q) → XX RX3 cX3_isWord 3 (some .boolean) 4 85 K 28 [some (.ref 37), some (.ref (100 + k)), some (.int (nI i))] [] (sr (sr m 37 g) 13 s) (fun r1 m1 => r1 = (some (.int (bI (isW L (m.1 38) j k)))) ∧ m1 = sr (sr m 37 g) 13 s) := by
  intro fu
  induction fu with
  | zero => intro i hlt; exact absurd hlt (Nat.not_lt_zero _)
  | succ fu ih =>
    intro i hlt hi hpre
    have hl := sL_le k hk
    have hen2 := enF_le (w := m.1 38) hj
    refine x_iload_n (q := 29) dX3_isWord_28 rfl rfl ?_
    refine x_aload_n (q := 30) dX3_isWord_29 rfl rfl ?_
    refine x_callT0v (q := 33) dX3_isWord_30 rfl ml_X3_117 mv_J0_length_8abf5 hk rfl (c_J0_length_8abf5 hk) (Nat.le_of_ble_eq_true rfl) ⟨by decide, by decide⟩ ?_
    refine x_icmp_ge (q := 36) (t := 63) dX3_isWord_33 rfl (by decide) (fun h33 => ?_) (fun h33 => ?_)
    · refine x_iconst (q := 64) (v := 1) dX3_isWord_63 rfl (by decide) ?_
      refine x_ireturn dX3_isWord_64 rfl (by decide) ?_
      have hil : sL k ≤ i := by
        have := lp_stop rfl (by omega) (by omega) h33
        omega
      exact ⟨by unfold isW; rw [decide_eq_true ⟨hs1, (rl_iff hk).mpr ⟨hen, fun q hq => hpre q (by omega)⟩⟩]; rfl, rfl⟩
    have hil : i < sL k := lp_go rfl (by omega) (by omega) h33
    refine x_aload_n (q := 37) dX3_isWord_36 rfl rfl ?_
    refine x_getR (q := 40) dX3_isWord_37 rfl fl_X3_9 (or3_bytes) ?_
    refine x_aload_n (q := 41) dX3_isWord_40 rfl rfl ?_
    refine x_getI (q := 44) dX3_isWord_41 rfl fl_X3_22 (ob3_start) ?_
    rw [mm37, hT.2.2.1]
    refine x_iload_n (q := 45) dX3_isWord_44 rfl rfl ?_
    refine x_iadd (q := 46) dX3_isWord_45 rfl ?_
    rw [show nI j + nI i = nI (j + i) from (Int32.ofNat_add _ _).symm]
    refine x_bald (q := 47) dX3_isWord_46 rfl (ar_38) (ix_nI (n := 120) (k := j + i) (by omega) (by decide)) (Nat.zero_add _) ?_
    rw [mm38]
    refine x_aload_n (q := 48) dX3_isWord_47 rfl rfl ?_
    refine x_iload_n (q := 49) dX3_isWord_48 rfl rfl ?_
    refine x_callT1v (q := 52) dX3_isWord_49 rfl ml_X3_122 mv_J0_charAt_5068e hk rfl (c_J0_charAt_5068e hk hil) (Nat.le_of_ble_eq_true rfl) ⟨by decide, by decide⟩ ?_
    refine x_icmp_eq (q := 55) (t := 57) dX3_isWord_52 rfl (by decide) (fun h52 => ?_) (fun h52 => ?_)
    · refine x_iinc (q := 60) (v := nI (i + 1)) dX3_isWord_57 rfl rfl (jnI_s i) (by decide) rfl rfl ?_
      refine x_goto (q := 28) dX3_isWord_60 (by decide) ?_
      exact ih (i + 1) (by omega) (by omega) (fun q hq => by
        by_cases e : q = i
        · rw [e]; exact h52
        · exact hpre q (by omega))
    refine x_iconst (q := 56) (v := 0) dX3_isWord_55 rfl (by decide) ?_
    refine x_ireturn dX3_isWord_56 rfl (by decide) ?_
    exact ⟨by unfold isW; rw [decide_eq_false (fun q => h52 (((rl_iff hk).mp q.2).2 i hil))]; rfl, rfl⟩
set_option maxRecDepth 20000 in
set_option maxHeartbeats 4000000 in
theorem c_X3_isWord {K : Cx} {L j k : Nat} {g s : Nat → Int32} {m : TM} (hT : TS L (m.1 38) j g) (hL2 : L ≤ 120) (hj : j ≤ L) (hk : k < 13) : CT yX3_isWord cX3_isWord 3 (some .boolean) 4 85 K [.ref 37, .ref (100 + k)] (sr (sr m 37 g) 13 s) (some (.int (bI (isW L (m.1 38) j k)))) (sr (sr m 37 g) 13 s) := by
  refine ct_ofd (n := 1) (by decide +kernel) rfl rfl ?_
  show XX RX3 cX3_isWord 3 (some .boolean) 4 85 K 0 [some (.ref 37), some (.ref (100 + k)), none] [] (sr (sr m 37 g) 13 s) (fun r1 m1 => r1 = (some (.int (bI (isW L (m.1 38) j k)))) ∧ m1 = sr (sr m 37 g) 13 s)
  have hl := sL_le k hk
  have hen2 := enF_le (w := m.1 38) hj
  refine x_aload_n (q := 1) dX3_isWord_0 rfl rfl ?_
  refine x_getI (q := 4) dX3_isWord_1 rfl fl_X3_19 (ob3_sort) ?_
  rw [mm37, hT.2.1]
  refine x_iconst (q := 5) (v := 1) dX3_isWord_4 rfl (by decide) ?_
  refine x_icmp_ne (q := 8) (t := 24) dX3_isWord_5 rfl (by decide) (fun h5 => ?_) (fun h5 => ?_)
  · refine x_iconst (q := 25) (v := 0) dX3_isWord_24 rfl (by decide) ?_
    refine x_ireturn dX3_isWord_25 rfl (by decide) ?_
    exact ⟨by unfold isW; rw [decide_eq_false (fun q => h5 q.1)]; rfl, rfl⟩
  refine x_aload_n (q := 9) dX3_isWord_8 rfl rfl ?_
  refine x_getI (q := 12) dX3_isWord_9 rfl fl_X3_25 (ob3_end) ?_
  rw [mm37, hT.2.2.2.1]
  refine x_aload_n (q := 13) dX3_isWord_12 rfl rfl ?_
  refine x_getI (q := 16) dX3_isWord_13 rfl fl_X3_22 (ob3_start) ?_
  rw [mm37, hT.2.2.1]
  refine x_isub (q := 17) dX3_isWord_16 rfl ?_
  rw [en_sub hj]
  refine x_aload_n (q := 18) dX3_isWord_17 rfl rfl ?_
  refine x_callT0v (q := 21) dX3_isWord_18 rfl ml_X3_117 mv_J0_length_8abf5 hk rfl (c_J0_length_8abf5 hk) (Nat.le_of_ble_eq_true rfl) ⟨by decide, by decide⟩ ?_
  refine x_icmp_eq (q := 24) (t := 26) dX3_isWord_21 rfl (by decide) (fun h21 => ?_) (fun h21 => ?_)
  · refine x_iconst (q := 27) (v := 0) dX3_isWord_26 rfl (by decide) ?_
    refine x_istore_n (q := 28) dX3_isWord_27 rfl (by decide) rfl rfl ?_
    have hen : enF L (m.1 38) j - j = sL k := (jnI_inj (by omega) (by omega)).mp h21
    exact l_X3_isWord hT hL2 hj hk h5 hen (sL k + 2) 0 (by omega) (by omega) (fun q hq => absurd hq (Nat.not_lt_zero q))
  refine x_iconst (q := 25) (v := 0) dX3_isWord_24 rfl (by decide) ?_
  refine x_ireturn dX3_isWord_25 rfl (by decide) ?_
  have hne : ¬ enF L (m.1 38) j - j = sL k := fun q => h21 (congrArg nI q)
  exact ⟨by unfold isW; rw [decide_eq_false (fun q => hne ((rl_iff hk).mp q.2).1)]; rfl, rfl⟩
