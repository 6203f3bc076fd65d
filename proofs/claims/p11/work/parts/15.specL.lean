section SP
variable {N L : Nat} {xs : Nat → Int32}
theorem lw_power_ok (hN : 66 ≤ N) (a0 : Int32) (σ σ1 : mmS) (hr : sp_b_power a0 σ = (.inl none, σ1)) : Ev N L xs (3, 0, lv_args 0 [.ref 0, .int a0], [], 0, σ) (mmSI ((0 : Int32), σ1)) := by
  show Ev N L xs (3, 0, [(0, .ref 0), (1, .int a0)], [], 0, σ) _
  refine ev_aload_n d_3_0 rfl ?_
  refine ev_iload_n d_3_1 rfl ?_
  refine ev_cvV (σ1 := σ1) (As := [.int a0]) (t := []) (e' := 2) d_3_2 ml_9_7 rfl rfl rfl rfl rfl (by decide) rfl (ltk6 (by decide) hN) rfl rfl rfl (by rw [← hr]; exact ev_b_power (Nat.le_of_succ_le hN) a0 σ) ?_
  refine ev_goto (tgt := 14) d_3_5 rfl ?_
  refine ev_iconst d_3_14 ci_0 ?_
  exact ev_iret d_3_15 rfl
theorem lw_power_1 (hN : 66 ≤ N) (a0 : Int32) (σ σ1 : mmS) (hr : sp_b_power a0 σ = (.inr "java/lang/IllegalArgumentException", σ1)) : Ev N L xs (3, 0, lv_args 0 [.ref 0, .int a0], [], 0, σ) (mmSI ((1 : Int32), σ1)) := by
  show Ev N L xs (3, 0, [(0, .ref 0), (1, .int a0)], [], 0, σ) _
  refine ev_aload_n d_3_0 rfl ?_
  refine ev_iload_n d_3_1 rfl ?_
  refine ev_callvC (E := "java/lang/IllegalArgumentException") (σ1 := σ1) (hp := 8) (j := 2) (w := 1) (lv' := [(0, .ref 0), (1, .int a0)]) (As := [.int a0]) (t := []) d_3_2 ml_9_7 rfl rfl rfl rfl rfl (by decide) rfl (ltk6 (by decide) hN) rfl rfl (by rw [← hr]; exact ev_b_power (Nat.le_of_succ_le hN) a0 σ) (by decide) (Or.inr ⟨2, d_3_8, rfl, rfl⟩) (by decide) rfl ?_
  refine ev_iconst d_3_9 ci_1 ?_
  exact ev_iret d_3_10 rfl
theorem lw_power_2 (hN : 66 ≤ N) (a0 : Int32) (σ σ1 : mmS) (hr : sp_b_power a0 σ = (.inr "java/lang/IllegalStateException", σ1)) : Ev N L xs (3, 0, lv_args 0 [.ref 0, .int a0], [], 0, σ) (mmSI ((2 : Int32), σ1)) := by
  show Ev N L xs (3, 0, [(0, .ref 0), (1, .int a0)], [], 0, σ) _
  refine ev_aload_n d_3_0 rfl ?_
  refine ev_iload_n d_3_1 rfl ?_
  refine ev_callvC (E := "java/lang/IllegalStateException") (σ1 := σ1) (hp := 11) (j := 2) (w := 1) (lv' := [(0, .ref 0), (1, .int a0)]) (As := [.int a0]) (t := []) d_3_2 ml_9_7 rfl rfl rfl rfl rfl (by decide) rfl (ltk6 (by decide) hN) rfl rfl (by rw [← hr]; exact ev_b_power (Nat.le_of_succ_le hN) a0 σ) (by decide) (Or.inr ⟨2, d_3_11, rfl, rfl⟩) (by decide) rfl ?_
  refine ev_iconst d_3_12 ci_2 ?_
  exact ev_iret d_3_13 rfl
theorem lw_off_ok (hN : 66 ≤ N) (a0 : Int32) (σ σ1 : mmS) (v : Int32) (hr : sp_b_off a0 σ = (.inl (some (.int v)), σ1)) : Ev N L xs (12, 0, lv_args 0 [.ref 0, .int a0, .ref 65], [], 0, σ) (mmSI ((0 : Int32), (mmJ σ1 65 0 v.toInt64))) := by
  show Ev N L xs (12, 0, [(0, .ref 0), (1, .int a0), (2, .ref 65)], [], 0, σ) _
  refine ev_aload_n d_12_0 rfl ?_
  refine ev_iconst d_12_1 ci_0 ?_
  refine ev_aload_n d_12_2 rfl ?_
  refine ev_iload_n d_12_3 rfl ?_
  refine ev_cvI (v := v) (σ1 := σ1) (As := [.int a0]) (t := [.int (0 : Int32), .ref 65]) (e' := 1) d_12_4 ml_9_17 rfl rfl rfl rfl rfl (by decide) rfl (ltk6 (by decide) hN) rfl rfl rfl (by rw [← hr]; exact ev_b_off (Nat.le_of_succ_le hN) a0 σ) ?_
  refine ev_i2l (v := v.toInt64) d_12_7 rfl ?_
  refine ev_lastore (i := 0) d_12_8 (ltk6 (by decide) hN) rfl (vpi (by decide)) (by decide) ?_
  refine ev_goto (tgt := 15) d_12_9 rfl ?_
  refine ev_iconst d_12_15 ci_0 ?_
  exact ev_iret d_12_16 rfl
theorem lw_off_1 (hN : 66 ≤ N) (a0 : Int32) (σ σ1 : mmS) (hr : sp_b_off a0 σ = (.inr "java/lang/IllegalArgumentException", σ1)) : Ev N L xs (12, 0, lv_args 0 [.ref 0, .int a0, .ref 65], [], 0, σ) (mmSI ((1 : Int32), σ1)) := by
  show Ev N L xs (12, 0, [(0, .ref 0), (1, .int a0), (2, .ref 65)], [], 0, σ) _
  refine ev_aload_n d_12_0 rfl ?_
  refine ev_iconst d_12_1 ci_0 ?_
  refine ev_aload_n d_12_2 rfl ?_
  refine ev_iload_n d_12_3 rfl ?_
  refine ev_callvC (E := "java/lang/IllegalArgumentException") (σ1 := σ1) (hp := 12) (j := 3) (w := 1) (lv' := [(0, .ref 0), (1, .int a0), (2, .ref 65)]) (As := [.int a0]) (t := [.int (0 : Int32), .ref 65]) d_12_4 ml_9_17 rfl rfl rfl rfl rfl (by decide) rfl (ltk6 (by decide) hN) rfl rfl (by rw [← hr]; exact ev_b_off (Nat.le_of_succ_le hN) a0 σ) (by decide) (Or.inr ⟨3, d_12_12, rfl, rfl⟩) (by decide) rfl ?_
  refine ev_iconst d_12_13 ci_1 ?_
  exact ev_iret d_12_14 rfl
theorem lw_run_ok (hN : 66 ≤ N) (a0 : Int32) (σ σ1 : mmS) (v : Int32) (hr : sp_b_run a0 σ = (.inl (some (.int v)), σ1)) : Ev N L xs (14, 0, lv_args 0 [.ref 0, .int a0, .ref 65], [], 0, σ) (mmSI ((0 : Int32), (mmJ σ1 65 0 v.toInt64))) := by
  show Ev N L xs (14, 0, [(0, .ref 0), (1, .int a0), (2, .ref 65)], [], 0, σ) _
  refine ev_aload_n d_14_0 rfl ?_
  refine ev_iconst d_14_1 ci_0 ?_
  refine ev_aload_n d_14_2 rfl ?_
  refine ev_iload_n d_14_3 rfl ?_
  refine ev_cvI (v := v) (σ1 := σ1) (As := [.int a0]) (t := [.int (0 : Int32), .ref 65]) (e' := 1) d_14_4 ml_9_21 rfl rfl rfl rfl rfl (by decide) rfl (ltk6 (by decide) hN) rfl rfl rfl (by rw [← hr]; exact ev_b_run (Nat.le_of_succ_le hN) a0 σ) ?_
  refine ev_i2l (v := v.toInt64) d_14_7 rfl ?_
  refine ev_lastore (i := 0) d_14_8 (ltk6 (by decide) hN) rfl (vpi (by decide)) (by decide) ?_
  refine ev_goto (tgt := 15) d_14_9 rfl ?_
  refine ev_iconst d_14_15 ci_0 ?_
  exact ev_iret d_14_16 rfl
theorem lw_run_1 (hN : 66 ≤ N) (a0 : Int32) (σ σ1 : mmS) (hr : sp_b_run a0 σ = (.inr "java/lang/IllegalArgumentException", σ1)) : Ev N L xs (14, 0, lv_args 0 [.ref 0, .int a0, .ref 65], [], 0, σ) (mmSI ((1 : Int32), σ1)) := by
  show Ev N L xs (14, 0, [(0, .ref 0), (1, .int a0), (2, .ref 65)], [], 0, σ) _
  refine ev_aload_n d_14_0 rfl ?_
  refine ev_iconst d_14_1 ci_0 ?_
  refine ev_aload_n d_14_2 rfl ?_
  refine ev_iload_n d_14_3 rfl ?_
  refine ev_callvC (E := "java/lang/IllegalArgumentException") (σ1 := σ1) (hp := 12) (j := 3) (w := 1) (lv' := [(0, .ref 0), (1, .int a0), (2, .ref 65)]) (As := [.int a0]) (t := [.int (0 : Int32), .ref 65]) d_14_4 ml_9_21 rfl rfl rfl rfl rfl (by decide) rfl (ltk6 (by decide) hN) rfl rfl (by rw [← hr]; exact ev_b_run (Nat.le_of_succ_le hN) a0 σ) (by decide) (Or.inr ⟨3, d_14_12, rfl, rfl⟩) (by decide) rfl ?_
  refine ev_iconst d_14_13 ci_1 ?_
  exact ev_iret d_14_14 rfl
theorem lw_value_ok (hN : 66 ≤ N) (a0 : Int32) (a1 : Int32) (σ σ1 : mmS) (hr : sp_b_value a0 a1 σ = (.inl none, σ1)) : Ev N L xs (66, 0, lv_args 0 [.ref 0, .int a0, .int a1], [], 0, σ) (mmSI ((0 : Int32), σ1)) := by
  show Ev N L xs (66, 0, [(0, .ref 0), (1, .int a0), (2, .int a1)], [], 0, σ) _
  refine ev_aload_n d_66_0 rfl ?_
  refine ev_iload_n d_66_1 rfl ?_
  refine ev_iload_n d_66_2 rfl ?_
  refine ev_cvV (σ1 := σ1) (As := [.int a0, .int a1]) (t := []) (e' := 3) d_66_3 ml_9_24 rfl rfl rfl rfl rfl (by decide) rfl (ltk6 (by decide) hN) rfl rfl rfl (by rw [← hr]; exact ev_b_value (Nat.le_of_succ_le hN) a0 a1 σ) ?_
  refine ev_goto (tgt := 15) d_66_6 rfl ?_
  refine ev_iconst d_66_15 ci_0 ?_
  exact ev_iret d_66_16 rfl
theorem lw_value_1 (hN : 66 ≤ N) (a0 : Int32) (a1 : Int32) (σ σ1 : mmS) (hr : sp_b_value a0 a1 σ = (.inr "java/lang/IllegalArgumentException", σ1)) : Ev N L xs (66, 0, lv_args 0 [.ref 0, .int a0, .int a1], [], 0, σ) (mmSI ((1 : Int32), σ1)) := by
  show Ev N L xs (66, 0, [(0, .ref 0), (1, .int a0), (2, .int a1)], [], 0, σ) _
  refine ev_aload_n d_66_0 rfl ?_
  refine ev_iload_n d_66_1 rfl ?_
  refine ev_iload_n d_66_2 rfl ?_
  refine ev_callvC (E := "java/lang/IllegalArgumentException") (σ1 := σ1) (hp := 9) (j := 3) (w := 1) (lv' := [(0, .ref 0), (1, .int a0), (2, .int a1)]) (As := [.int a0, .int a1]) (t := []) d_66_3 ml_9_24 rfl rfl rfl rfl rfl (by decide) rfl (ltk6 (by decide) hN) rfl rfl (by rw [← hr]; exact ev_b_value (Nat.le_of_succ_le hN) a0 a1 σ) (by decide) (Or.inr ⟨3, d_66_9, rfl, rfl⟩) (by decide) rfl ?_
  refine ev_iconst d_66_10 ci_1 ?_
  exact ev_iret d_66_11 rfl
theorem lw_value_2 (hN : 66 ≤ N) (a0 : Int32) (a1 : Int32) (σ σ1 : mmS) (hr : sp_b_value a0 a1 σ = (.inr "java/lang/IllegalStateException", σ1)) : Ev N L xs (66, 0, lv_args 0 [.ref 0, .int a0, .int a1], [], 0, σ) (mmSI ((2 : Int32), σ1)) := by
  show Ev N L xs (66, 0, [(0, .ref 0), (1, .int a0), (2, .int a1)], [], 0, σ) _
  refine ev_aload_n d_66_0 rfl ?_
  refine ev_iload_n d_66_1 rfl ?_
  refine ev_iload_n d_66_2 rfl ?_
  refine ev_callvC (E := "java/lang/IllegalStateException") (σ1 := σ1) (hp := 12) (j := 3) (w := 1) (lv' := [(0, .ref 0), (1, .int a0), (2, .int a1)]) (As := [.int a0, .int a1]) (t := []) d_66_3 ml_9_24 rfl rfl rfl rfl rfl (by decide) rfl (ltk6 (by decide) hN) rfl rfl (by rw [← hr]; exact ev_b_value (Nat.le_of_succ_le hN) a0 a1 σ) (by decide) (Or.inr ⟨3, d_66_12, rfl, rfl⟩) (by decide) rfl ?_
  refine ev_iconst d_66_13 ci_2 ?_
  exact ev_iret d_66_14 rfl
theorem lw_post_ok (hN : 66 ≤ N) (a0 : Int32) (a1 : Int32) (a2 : Int32) (a3 : Int32) (a4 : Int32) (σ σ1 : mmS) (hr : sp_b_post a0 a1 a2 a3 a4 σ = (.inl none, σ1)) : Ev N L xs (69, 0, lv_args 0 [.ref 0, .int a0, .int a1, .int a2, .int a3, .int a4], [], 0, σ) (mmSI ((0 : Int32), σ1)) := by
  show Ev N L xs (69, 0, [(0, .ref 0), (1, .int a0), (2, .int a1), (3, .int a2), (4, .int a3), (5, .int a4)], [], 0, σ) _
  refine ev_aload_n d_69_0 rfl ?_
  refine ev_iload_n d_69_1 rfl ?_
  refine ev_iload_n d_69_2 rfl ?_
  refine ev_iload_n d_69_3 rfl ?_
  refine ev_iload d_69_4 rfl ?_
  refine ev_iload d_69_6 rfl ?_
  refine ev_cvV (σ1 := σ1) (As := [.int a0, .int a1, .int a2, .int a3, .int a4]) (t := []) (e' := 7) d_69_8 ml_9_28 rfl rfl rfl rfl rfl (by decide) rfl (ltk6 (by decide) hN) rfl rfl rfl (by rw [← hr]; exact ev_b_post (Nat.le_of_succ_le hN) a0 a1 a2 a3 a4 σ) ?_
  refine ev_goto (tgt := 22) d_69_11 rfl ?_
  refine ev_iconst d_69_22 ci_0 ?_
  exact ev_iret d_69_23 rfl
theorem lw_post_1 (hN : 66 ≤ N) (a0 : Int32) (a1 : Int32) (a2 : Int32) (a3 : Int32) (a4 : Int32) (σ σ1 : mmS) (hr : sp_b_post a0 a1 a2 a3 a4 σ = (.inr "java/lang/IllegalArgumentException", σ1)) : Ev N L xs (69, 0, lv_args 0 [.ref 0, .int a0, .int a1, .int a2, .int a3, .int a4], [], 0, σ) (mmSI ((1 : Int32), σ1)) := by
  show Ev N L xs (69, 0, [(0, .ref 0), (1, .int a0), (2, .int a1), (3, .int a2), (4, .int a3), (5, .int a4)], [], 0, σ) _
  refine ev_aload_n d_69_0 rfl ?_
  refine ev_iload_n d_69_1 rfl ?_
  refine ev_iload_n d_69_2 rfl ?_
  refine ev_iload_n d_69_3 rfl ?_
  refine ev_iload d_69_4 rfl ?_
  refine ev_iload d_69_6 rfl ?_
  refine ev_callvC (E := "java/lang/IllegalArgumentException") (σ1 := σ1) (hp := 14) (j := 6) (w := 2) (lv' := [(0, .ref 0), (1, .int a0), (2, .int a1), (3, .int a2), (4, .int a3), (5, .int a4)]) (As := [.int a0, .int a1, .int a2, .int a3, .int a4]) (t := []) d_69_8 ml_9_28 rfl rfl rfl rfl rfl (by decide) rfl (ltk6 (by decide) hN) rfl rfl (by rw [← hr]; exact ev_b_post (Nat.le_of_succ_le hN) a0 a1 a2 a3 a4 σ) (by decide) (Or.inl ⟨d_69_14, rfl⟩) (by decide) rfl ?_
  refine ev_iconst d_69_16 ci_1 ?_
  exact ev_iret d_69_17 rfl
theorem lw_post_2 (hN : 66 ≤ N) (a0 : Int32) (a1 : Int32) (a2 : Int32) (a3 : Int32) (a4 : Int32) (σ σ1 : mmS) (hr : sp_b_post a0 a1 a2 a3 a4 σ = (.inr "java/lang/IllegalStateException", σ1)) : Ev N L xs (69, 0, lv_args 0 [.ref 0, .int a0, .int a1, .int a2, .int a3, .int a4], [], 0, σ) (mmSI ((2 : Int32), σ1)) := by
  show Ev N L xs (69, 0, [(0, .ref 0), (1, .int a0), (2, .int a1), (3, .int a2), (4, .int a3), (5, .int a4)], [], 0, σ) _
  refine ev_aload_n d_69_0 rfl ?_
  refine ev_iload_n d_69_1 rfl ?_
  refine ev_iload_n d_69_2 rfl ?_
  refine ev_iload_n d_69_3 rfl ?_
  refine ev_iload d_69_4 rfl ?_
  refine ev_iload d_69_6 rfl ?_
  refine ev_callvC (E := "java/lang/IllegalStateException") (σ1 := σ1) (hp := 18) (j := 6) (w := 2) (lv' := [(0, .ref 0), (1, .int a0), (2, .int a1), (3, .int a2), (4, .int a3), (5, .int a4)]) (As := [.int a0, .int a1, .int a2, .int a3, .int a4]) (t := []) d_69_8 ml_9_28 rfl rfl rfl rfl rfl (by decide) rfl (ltk6 (by decide) hN) rfl rfl (by rw [← hr]; exact ev_b_post (Nat.le_of_succ_le hN) a0 a1 a2 a3 a4 σ) (by decide) (Or.inl ⟨d_69_18, rfl⟩) (by decide) rfl ?_
  refine ev_iconst d_69_20 ci_2 ?_
  exact ev_iret d_69_21 rfl
theorem lw_disturb_ok (hN : 66 ≤ N) (a0 : Int64) (σ σ1 : mmS) (hr : sp_b_disturb a0 σ = (.inl none, σ1)) : Ev N L xs (72, 0, lv_args 0 [.ref 0, .long a0], [], 0, σ) (mmSI ((0 : Int32), σ1)) := by
  show Ev N L xs (72, 0, [(0, .ref 0), (1, .long a0)], [], 0, σ) _
  refine ev_aload_n d_72_0 rfl ?_
  refine ev_lload_n d_72_1 rfl ?_
  refine ev_cvV (σ1 := σ1) (As := [.long a0]) (t := []) (e' := 1) d_72_2 ml_9_32 rfl rfl rfl rfl rfl (by decide) rfl (ltk6 (by decide) hN) rfl rfl rfl (by rw [← hr]; exact ev_b_disturb (Nat.le_of_succ_le hN) a0 σ) ?_
  refine ev_goto (tgt := 11) d_72_5 rfl ?_
  refine ev_iconst d_72_11 ci_0 ?_
  exact ev_iret d_72_12 rfl
theorem lw_disturb_1 (hN : 66 ≤ N) (a0 : Int64) (σ σ1 : mmS) (hr : sp_b_disturb a0 σ = (.inr "java/lang/IllegalArgumentException", σ1)) : Ev N L xs (72, 0, lv_args 0 [.ref 0, .long a0], [], 0, σ) (mmSI ((1 : Int32), σ1)) := by
  show Ev N L xs (72, 0, [(0, .ref 0), (1, .long a0)], [], 0, σ) _
  refine ev_aload_n d_72_0 rfl ?_
  refine ev_lload_n d_72_1 rfl ?_
  refine ev_callvC (E := "java/lang/IllegalArgumentException") (σ1 := σ1) (hp := 8) (j := 3) (w := 1) (lv' := [(0, .ref 0), (1, .long a0)]) (As := [.long a0]) (t := []) d_72_2 ml_9_32 rfl rfl rfl rfl rfl (by decide) rfl (ltk6 (by decide) hN) rfl rfl (by rw [← hr]; exact ev_b_disturb (Nat.le_of_succ_le hN) a0 σ) (by decide) (Or.inr ⟨3, d_72_8, rfl, rfl⟩) (by decide) rfl ?_
  refine ev_iconst d_72_9 ci_1 ?_
  exact ev_iret d_72_10 rfl
theorem lw_lose_ok (hN : 66 ≤ N) (a0 : Int32) (σ σ1 : mmS) (v : Int32) (hr : sp_b_lose a0 σ = (.inl (some (.int v)), σ1)) : Ev N L xs (75, 0, lv_args 0 [.ref 0, .int a0, .ref 65], [], 0, σ) (mmSI ((0 : Int32), (mmJ σ1 65 0 v.toInt64))) := by
  show Ev N L xs (75, 0, [(0, .ref 0), (1, .int a0), (2, .ref 65)], [], 0, σ) _
  refine ev_aload_n d_75_0 rfl ?_
  refine ev_iconst d_75_1 ci_0 ?_
  refine ev_aload_n d_75_2 rfl ?_
  refine ev_iload_n d_75_3 rfl ?_
  refine ev_cvI (v := v) (σ1 := σ1) (As := [.int a0]) (t := [.int (0 : Int32), .ref 65]) (e' := 1) d_75_4 ml_9_36 rfl rfl rfl rfl rfl (by decide) rfl (ltk6 (by decide) hN) rfl rfl rfl (by rw [← hr]; exact ev_b_lose (Nat.le_of_succ_le hN) a0 σ) ?_
  refine ev_i2l (v := v.toInt64) d_75_7 rfl ?_
  refine ev_lastore (i := 0) d_75_8 (ltk6 (by decide) hN) rfl (vpi (by decide)) (by decide) ?_
  refine ev_goto (tgt := 15) d_75_9 rfl ?_
  refine ev_iconst d_75_15 ci_0 ?_
  exact ev_iret d_75_16 rfl
theorem lw_lose_1 (hN : 66 ≤ N) (a0 : Int32) (σ σ1 : mmS) (hr : sp_b_lose a0 σ = (.inr "java/lang/IllegalArgumentException", σ1)) : Ev N L xs (75, 0, lv_args 0 [.ref 0, .int a0, .ref 65], [], 0, σ) (mmSI ((1 : Int32), σ1)) := by
  show Ev N L xs (75, 0, [(0, .ref 0), (1, .int a0), (2, .ref 65)], [], 0, σ) _
  refine ev_aload_n d_75_0 rfl ?_
  refine ev_iconst d_75_1 ci_0 ?_
  refine ev_aload_n d_75_2 rfl ?_
  refine ev_iload_n d_75_3 rfl ?_
  refine ev_callvC (E := "java/lang/IllegalArgumentException") (σ1 := σ1) (hp := 12) (j := 3) (w := 1) (lv' := [(0, .ref 0), (1, .int a0), (2, .ref 65)]) (As := [.int a0]) (t := [.int (0 : Int32), .ref 65]) d_75_4 ml_9_36 rfl rfl rfl rfl rfl (by decide) rfl (ltk6 (by decide) hN) rfl rfl (by rw [← hr]; exact ev_b_lose (Nat.le_of_succ_le hN) a0 σ) (by decide) (Or.inr ⟨3, d_75_12, rfl, rfl⟩) (by decide) rfl ?_
  refine ev_iconst d_75_13 ci_1 ?_
  exact ev_iret d_75_14 rfl
theorem lw_state_ok (hN : 66 ≤ N) (a0 : Int32) (σ σ1 : mmS) (v : Int32) (hr : sp_b_state a0 σ = (.inl (some (.int v)), σ1)) : Ev N L xs (77, 0, lv_args 0 [.ref 0, .int a0, .ref 65], [], 0, σ) (mmSI ((0 : Int32), (mmJ σ1 65 0 v.toInt64))) := by
  show Ev N L xs (77, 0, [(0, .ref 0), (1, .int a0), (2, .ref 65)], [], 0, σ) _
  refine ev_aload_n d_77_0 rfl ?_
  refine ev_iconst d_77_1 ci_0 ?_
  refine ev_aload_n d_77_2 rfl ?_
  refine ev_iload_n d_77_3 rfl ?_
  refine ev_cvI (v := v) (σ1 := σ1) (As := [.int a0]) (t := [.int (0 : Int32), .ref 65]) (e' := 1) d_77_4 ml_9_39 rfl rfl rfl rfl rfl (by decide) rfl (ltk6 (by decide) hN) rfl rfl rfl (by rw [← hr]; exact ev_b_state (Nat.le_of_succ_le hN) a0 σ) ?_
  refine ev_i2l (v := v.toInt64) d_77_7 rfl ?_
  refine ev_lastore (i := 0) d_77_8 (ltk6 (by decide) hN) rfl (vpi (by decide)) (by decide) ?_
  refine ev_goto (tgt := 15) d_77_9 rfl ?_
  refine ev_iconst d_77_15 ci_0 ?_
  exact ev_iret d_77_16 rfl
theorem lw_state_1 (hN : 66 ≤ N) (a0 : Int32) (σ σ1 : mmS) (hr : sp_b_state a0 σ = (.inr "java/lang/IllegalArgumentException", σ1)) : Ev N L xs (77, 0, lv_args 0 [.ref 0, .int a0, .ref 65], [], 0, σ) (mmSI ((1 : Int32), σ1)) := by
  show Ev N L xs (77, 0, [(0, .ref 0), (1, .int a0), (2, .ref 65)], [], 0, σ) _
  refine ev_aload_n d_77_0 rfl ?_
  refine ev_iconst d_77_1 ci_0 ?_
  refine ev_aload_n d_77_2 rfl ?_
  refine ev_iload_n d_77_3 rfl ?_
  refine ev_callvC (E := "java/lang/IllegalArgumentException") (σ1 := σ1) (hp := 12) (j := 3) (w := 1) (lv' := [(0, .ref 0), (1, .int a0), (2, .ref 65)]) (As := [.int a0]) (t := [.int (0 : Int32), .ref 65]) d_77_4 ml_9_39 rfl rfl rfl rfl rfl (by decide) rfl (ltk6 (by decide) hN) rfl rfl (by rw [← hr]; exact ev_b_state (Nat.le_of_succ_le hN) a0 σ) (by decide) (Or.inr ⟨3, d_77_12, rfl, rfl⟩) (by decide) rfl ?_
  refine ev_iconst d_77_13 ci_1 ?_
  exact ev_iret d_77_14 rfl
theorem lw_clock_ok (hN : 66 ≤ N) (a0 : Int32) (a1 : Int32) (σ σ1 : mmS) (v : Int32) (hr : sp_b_clock a0 a1 σ = (.inl (some (.int v)), σ1)) : Ev N L xs (79, 0, lv_args 0 [.ref 0, .int a0, .int a1, .ref 65], [], 0, σ) (mmSI ((0 : Int32), (mmJ σ1 65 0 v.toInt64))) := by
  show Ev N L xs (79, 0, [(0, .ref 0), (1, .int a0), (2, .int a1), (3, .ref 65)], [], 0, σ) _
  refine ev_aload_n d_79_0 rfl ?_
  refine ev_iconst d_79_1 ci_0 ?_
  refine ev_aload_n d_79_2 rfl ?_
  refine ev_iload_n d_79_3 rfl ?_
  refine ev_iload_n d_79_4 rfl ?_
  refine ev_cvI (v := v) (σ1 := σ1) (As := [.int a0, .int a1]) (t := [.int (0 : Int32), .ref 65]) (e' := 3) d_79_5 ml_9_42 rfl rfl rfl rfl rfl (by decide) rfl (ltk6 (by decide) hN) rfl rfl rfl (by rw [← hr]; exact ev_b_clock (Nat.le_of_succ_le hN) a0 a1 σ) ?_
  refine ev_i2l (v := v.toInt64) d_79_8 rfl ?_
  refine ev_lastore (i := 0) d_79_9 (ltk6 (by decide) hN) rfl (vpi (by decide)) (by decide) ?_
  refine ev_goto (tgt := 21) d_79_10 rfl ?_
  refine ev_iconst d_79_21 ci_0 ?_
  exact ev_iret d_79_22 rfl
theorem lw_clock_1 (hN : 66 ≤ N) (a0 : Int32) (a1 : Int32) (σ σ1 : mmS) (hr : sp_b_clock a0 a1 σ = (.inr "java/lang/IllegalArgumentException", σ1)) : Ev N L xs (79, 0, lv_args 0 [.ref 0, .int a0, .int a1, .ref 65], [], 0, σ) (mmSI ((1 : Int32), σ1)) := by
  show Ev N L xs (79, 0, [(0, .ref 0), (1, .int a0), (2, .int a1), (3, .ref 65)], [], 0, σ) _
  refine ev_aload_n d_79_0 rfl ?_
  refine ev_iconst d_79_1 ci_0 ?_
  refine ev_aload_n d_79_2 rfl ?_
  refine ev_iload_n d_79_3 rfl ?_
  refine ev_iload_n d_79_4 rfl ?_
  refine ev_callvC (E := "java/lang/IllegalArgumentException") (σ1 := σ1) (hp := 13) (j := 4) (w := 2) (lv' := [(0, .ref 0), (1, .int a0), (2, .int a1), (3, .ref 65)]) (As := [.int a0, .int a1]) (t := [.int (0 : Int32), .ref 65]) d_79_5 ml_9_42 rfl rfl rfl rfl rfl (by decide) rfl (ltk6 (by decide) hN) rfl rfl (by rw [← hr]; exact ev_b_clock (Nat.le_of_succ_le hN) a0 a1 σ) (by decide) (Or.inl ⟨d_79_13, rfl⟩) (by decide) rfl ?_
  refine ev_iconst d_79_15 ci_1 ?_
  exact ev_iret d_79_16 rfl
theorem lw_clock_2 (hN : 66 ≤ N) (a0 : Int32) (a1 : Int32) (σ σ1 : mmS) (hr : sp_b_clock a0 a1 σ = (.inr "java/lang/IllegalStateException", σ1)) : Ev N L xs (79, 0, lv_args 0 [.ref 0, .int a0, .int a1, .ref 65], [], 0, σ) (mmSI ((2 : Int32), σ1)) := by
  show Ev N L xs (79, 0, [(0, .ref 0), (1, .int a0), (2, .int a1), (3, .ref 65)], [], 0, σ) _
  refine ev_aload_n d_79_0 rfl ?_
  refine ev_iconst d_79_1 ci_0 ?_
  refine ev_aload_n d_79_2 rfl ?_
  refine ev_iload_n d_79_3 rfl ?_
  refine ev_iload_n d_79_4 rfl ?_
  refine ev_callvC (E := "java/lang/IllegalStateException") (σ1 := σ1) (hp := 17) (j := 4) (w := 2) (lv' := [(0, .ref 0), (1, .int a0), (2, .int a1), (3, .ref 65)]) (As := [.int a0, .int a1]) (t := [.int (0 : Int32), .ref 65]) d_79_5 ml_9_42 rfl rfl rfl rfl rfl (by decide) rfl (ltk6 (by decide) hN) rfl rfl (by rw [← hr]; exact ev_b_clock (Nat.le_of_succ_le hN) a0 a1 σ) (by decide) (Or.inl ⟨d_79_17, rfl⟩) (by decide) rfl ?_
  refine ev_iconst d_79_19 ci_2 ?_
  exact ev_iret d_79_20 rfl
theorem lw_deviation_ok (hN : 66 ≤ N) (a0 : Int32) (a1 : Int32) (a2 : Int32) (σ σ1 : mmS) (v : Int32) (hr : sp_b_deviation a0 a1 a2 σ = (.inl (some (.int v)), σ1)) : Ev N L xs (82, 0, lv_args 0 [.ref 0, .int a0, .int a1, .int a2, .ref 65], [], 0, σ) (mmSI ((0 : Int32), (mmJ σ1 65 0 v.toInt64))) := by
  show Ev N L xs (82, 0, [(0, .ref 0), (1, .int a0), (2, .int a1), (3, .int a2), (4, .ref 65)], [], 0, σ) _
  refine ev_aload d_82_0 rfl ?_
  refine ev_iconst d_82_2 ci_0 ?_
  refine ev_aload_n d_82_3 rfl ?_
  refine ev_iload_n d_82_4 rfl ?_
  refine ev_iload_n d_82_5 rfl ?_
  refine ev_iload_n d_82_6 rfl ?_
  refine ev_cvI (v := v) (σ1 := σ1) (As := [.int a0, .int a1, .int a2]) (t := [.int (0 : Int32), .ref 65]) (e' := 3) d_82_7 ml_9_46 rfl rfl rfl rfl rfl (by decide) rfl (ltk6 (by decide) hN) rfl rfl rfl (by rw [← hr]; exact ev_b_deviation (Nat.le_of_succ_le hN) a0 a1 a2 σ) ?_
  refine ev_i2l (v := v.toInt64) d_82_10 rfl ?_
  refine ev_lastore (i := 0) d_82_11 (ltk6 (by decide) hN) rfl (vpi (by decide)) (by decide) ?_
  refine ev_goto (tgt := 23) d_82_12 rfl ?_
  refine ev_iconst d_82_23 ci_0 ?_
  exact ev_iret d_82_24 rfl
theorem lw_deviation_1 (hN : 66 ≤ N) (a0 : Int32) (a1 : Int32) (a2 : Int32) (σ σ1 : mmS) (hr : sp_b_deviation a0 a1 a2 σ = (.inr "java/lang/IllegalArgumentException", σ1)) : Ev N L xs (82, 0, lv_args 0 [.ref 0, .int a0, .int a1, .int a2, .ref 65], [], 0, σ) (mmSI ((1 : Int32), σ1)) := by
  show Ev N L xs (82, 0, [(0, .ref 0), (1, .int a0), (2, .int a1), (3, .int a2), (4, .ref 65)], [], 0, σ) _
  refine ev_aload d_82_0 rfl ?_
  refine ev_iconst d_82_2 ci_0 ?_
  refine ev_aload_n d_82_3 rfl ?_
  refine ev_iload_n d_82_4 rfl ?_
  refine ev_iload_n d_82_5 rfl ?_
  refine ev_iload_n d_82_6 rfl ?_
  refine ev_callvC (E := "java/lang/IllegalArgumentException") (σ1 := σ1) (hp := 15) (j := 5) (w := 2) (lv' := [(0, .ref 0), (1, .int a0), (2, .int a1), (3, .int a2), (4, .ref 65)]) (As := [.int a0, .int a1, .int a2]) (t := [.int (0 : Int32), .ref 65]) d_82_7 ml_9_46 rfl rfl rfl rfl rfl (by decide) rfl (ltk6 (by decide) hN) rfl rfl (by rw [← hr]; exact ev_b_deviation (Nat.le_of_succ_le hN) a0 a1 a2 σ) (by decide) (Or.inl ⟨d_82_15, rfl⟩) (by decide) rfl ?_
  refine ev_iconst d_82_17 ci_1 ?_
  exact ev_iret d_82_18 rfl
theorem lw_deviation_2 (hN : 66 ≤ N) (a0 : Int32) (a1 : Int32) (a2 : Int32) (σ σ1 : mmS) (hr : sp_b_deviation a0 a1 a2 σ = (.inr "java/util/NoSuchElementException", σ1)) : Ev N L xs (82, 0, lv_args 0 [.ref 0, .int a0, .int a1, .int a2, .ref 65], [], 0, σ) (mmSI ((2 : Int32), σ1)) := by
  show Ev N L xs (82, 0, [(0, .ref 0), (1, .int a0), (2, .int a1), (3, .int a2), (4, .ref 65)], [], 0, σ) _
  refine ev_aload d_82_0 rfl ?_
  refine ev_iconst d_82_2 ci_0 ?_
  refine ev_aload_n d_82_3 rfl ?_
  refine ev_iload_n d_82_4 rfl ?_
  refine ev_iload_n d_82_5 rfl ?_
  refine ev_iload_n d_82_6 rfl ?_
  refine ev_callvC (E := "java/util/NoSuchElementException") (σ1 := σ1) (hp := 19) (j := 5) (w := 2) (lv' := [(0, .ref 0), (1, .int a0), (2, .int a1), (3, .int a2), (4, .ref 65)]) (As := [.int a0, .int a1, .int a2]) (t := [.int (0 : Int32), .ref 65]) d_82_7 ml_9_46 rfl rfl rfl rfl rfl (by decide) rfl (ltk6 (by decide) hN) rfl rfl (by rw [← hr]; exact ev_b_deviation (Nat.le_of_succ_le hN) a0 a1 a2 σ) (by decide) (Or.inl ⟨d_82_19, rfl⟩) (by decide) rfl ?_
  refine ev_iconst d_82_21 ci_2 ?_
  exact ev_iret d_82_22 rfl
theorem lw_got_ok (hN : 66 ≤ N) (a0 : Int32) (a1 : Int32) (σ σ1 : mmS) (v : Int32) (hr : sp_b_got a0 a1 σ = (.inl (some (.int v)), σ1)) : Ev N L xs (86, 0, lv_args 0 [.ref 0, .int a0, .int a1, .ref 65], [], 0, σ) (mmSI ((0 : Int32), (mmJ σ1 65 0 v.toInt64))) := by
  show Ev N L xs (86, 0, [(0, .ref 0), (1, .int a0), (2, .int a1), (3, .ref 65)], [], 0, σ) _
  refine ev_aload_n d_86_0 rfl ?_
  refine ev_iconst d_86_1 ci_0 ?_
  refine ev_aload_n d_86_2 rfl ?_
  refine ev_iload_n d_86_3 rfl ?_
  refine ev_iload_n d_86_4 rfl ?_
  refine ev_cvI (v := v) (σ1 := σ1) (As := [.int a0, .int a1]) (t := [.int (0 : Int32), .ref 65]) (e' := 3) d_86_5 ml_9_52 rfl rfl rfl rfl rfl (by decide) rfl (ltk6 (by decide) hN) rfl rfl rfl (by rw [← hr]; exact ev_b_got (Nat.le_of_succ_le hN) a0 a1 σ) ?_
  refine ev_i2l (v := v.toInt64) d_86_8 rfl ?_
  refine ev_lastore (i := 0) d_86_9 (ltk6 (by decide) hN) rfl (vpi (by decide)) (by decide) ?_
  refine ev_goto (tgt := 21) d_86_10 rfl ?_
  refine ev_iconst d_86_21 ci_0 ?_
  exact ev_iret d_86_22 rfl
theorem lw_got_1 (hN : 66 ≤ N) (a0 : Int32) (a1 : Int32) (σ σ1 : mmS) (hr : sp_b_got a0 a1 σ = (.inr "java/lang/IllegalArgumentException", σ1)) : Ev N L xs (86, 0, lv_args 0 [.ref 0, .int a0, .int a1, .ref 65], [], 0, σ) (mmSI ((1 : Int32), σ1)) := by
  show Ev N L xs (86, 0, [(0, .ref 0), (1, .int a0), (2, .int a1), (3, .ref 65)], [], 0, σ) _
  refine ev_aload_n d_86_0 rfl ?_
  refine ev_iconst d_86_1 ci_0 ?_
  refine ev_aload_n d_86_2 rfl ?_
  refine ev_iload_n d_86_3 rfl ?_
  refine ev_iload_n d_86_4 rfl ?_
  refine ev_callvC (E := "java/lang/IllegalArgumentException") (σ1 := σ1) (hp := 13) (j := 4) (w := 2) (lv' := [(0, .ref 0), (1, .int a0), (2, .int a1), (3, .ref 65)]) (As := [.int a0, .int a1]) (t := [.int (0 : Int32), .ref 65]) d_86_5 ml_9_52 rfl rfl rfl rfl rfl (by decide) rfl (ltk6 (by decide) hN) rfl rfl (by rw [← hr]; exact ev_b_got (Nat.le_of_succ_le hN) a0 a1 σ) (by decide) (Or.inl ⟨d_86_13, rfl⟩) (by decide) rfl ?_
  refine ev_iconst d_86_15 ci_1 ?_
  exact ev_iret d_86_16 rfl
theorem lw_got_2 (hN : 66 ≤ N) (a0 : Int32) (a1 : Int32) (σ σ1 : mmS) (hr : sp_b_got a0 a1 σ = (.inr "java/util/NoSuchElementException", σ1)) : Ev N L xs (86, 0, lv_args 0 [.ref 0, .int a0, .int a1, .ref 65], [], 0, σ) (mmSI ((2 : Int32), σ1)) := by
  show Ev N L xs (86, 0, [(0, .ref 0), (1, .int a0), (2, .int a1), (3, .ref 65)], [], 0, σ) _
  refine ev_aload_n d_86_0 rfl ?_
  refine ev_iconst d_86_1 ci_0 ?_
  refine ev_aload_n d_86_2 rfl ?_
  refine ev_iload_n d_86_3 rfl ?_
  refine ev_iload_n d_86_4 rfl ?_
  refine ev_callvC (E := "java/util/NoSuchElementException") (σ1 := σ1) (hp := 17) (j := 4) (w := 2) (lv' := [(0, .ref 0), (1, .int a0), (2, .int a1), (3, .ref 65)]) (As := [.int a0, .int a1]) (t := [.int (0 : Int32), .ref 65]) d_86_5 ml_9_52 rfl rfl rfl rfl rfl (by decide) rfl (ltk6 (by decide) hN) rfl rfl (by rw [← hr]; exact ev_b_got (Nat.le_of_succ_le hN) a0 a1 σ) (by decide) (Or.inl ⟨d_86_17, rfl⟩) (by decide) rfl ?_
  refine ev_iconst d_86_19 ci_2 ?_
  exact ev_iret d_86_20 rfl
theorem lw_last_ok (hN : 66 ≤ N)  (σ σ1 : mmS) (v : Int64) (hr : sp_b_last σ = (.inl (some (.long v)), σ1)) : Ev N L xs (88, 0, lv_args 0 [.ref 0, .ref 65], [], 0, σ) (mmSI ((0 : Int32), (mmJ σ1 65 0 v))) := by
  show Ev N L xs (88, 0, [(0, .ref 0), (1, .ref 65)], [], 0, σ) _
  refine ev_aload_n d_88_0 rfl ?_
  refine ev_iconst d_88_1 ci_0 ?_
  refine ev_aload_n d_88_2 rfl ?_
  refine ev_cvJ (v := v) (σ1 := σ1) (As := []) (t := [.int (0 : Int32), .ref 65]) (e' := 1) d_88_3 ml_9_55 rfl rfl rfl rfl rfl (by decide) rfl (ltk6 (by decide) hN) rfl rfl rfl (by rw [← hr]; exact ev_b_last (Nat.le_of_succ_le hN) σ) ?_
  refine ev_lastore (i := 0) d_88_6 (ltk6 (by decide) hN) rfl (vpi (by decide)) (by decide) ?_
  refine ev_goto (tgt := 13) d_88_7 rfl ?_
  refine ev_iconst d_88_13 ci_0 ?_
  exact ev_iret d_88_14 rfl
theorem lw_last_1 (hN : 66 ≤ N)  (σ σ1 : mmS) (hr : sp_b_last σ = (.inr "java/util/NoSuchElementException", σ1)) : Ev N L xs (88, 0, lv_args 0 [.ref 0, .ref 65], [], 0, σ) (mmSI ((1 : Int32), σ1)) := by
  show Ev N L xs (88, 0, [(0, .ref 0), (1, .ref 65)], [], 0, σ) _
  refine ev_aload_n d_88_0 rfl ?_
  refine ev_iconst d_88_1 ci_0 ?_
  refine ev_aload_n d_88_2 rfl ?_
  refine ev_callvC (E := "java/util/NoSuchElementException") (σ1 := σ1) (hp := 10) (j := 2) (w := 1) (lv' := [(0, .ref 0), (1, .ref 65)]) (As := []) (t := [.int (0 : Int32), .ref 65]) d_88_3 ml_9_55 rfl rfl rfl rfl rfl (by decide) rfl (ltk6 (by decide) hN) rfl rfl (by rw [← hr]; exact ev_b_last (Nat.le_of_succ_le hN) σ) (by decide) (Or.inr ⟨2, d_88_10, rfl, rfl⟩) (by decide) rfl ?_
  refine ev_iconst d_88_11 ci_1 ?_
  exact ev_iret d_88_12 rfl
theorem lw_encode_ok (hN : 66 ≤ N) (a0 : Int32) (a1 : Int32) (a2 : Int32) (a3 : Int32) (σ σ1 : mmS) (v : Int64) (hr : sp_b_encode a0 a1 a2 a3 σ = (.inl (some (.long v)), σ1)) : Ev N L xs (90, 0, lv_args 0 [.ref 0, .int a0, .int a1, .int a2, .int a3, .ref 65], [], 0, σ) (mmSI ((0 : Int32), (mmJ σ1 65 0 v))) := by
  show Ev N L xs (90, 0, [(0, .ref 0), (1, .int a0), (2, .int a1), (3, .int a2), (4, .int a3), (5, .ref 65)], [], 0, σ) _
  refine ev_aload d_90_0 rfl ?_
  refine ev_iconst d_90_2 ci_0 ?_
  refine ev_aload_n d_90_3 rfl ?_
  refine ev_iload_n d_90_4 rfl ?_
  refine ev_iload_n d_90_5 rfl ?_
  refine ev_iload_n d_90_6 rfl ?_
  refine ev_iload d_90_7 rfl ?_
  refine ev_cvJ (v := v) (σ1 := σ1) (As := [.int a0, .int a1, .int a2, .int a3]) (t := [.int (0 : Int32), .ref 65]) (e' := 3) d_90_9 ml_9_59 rfl rfl rfl rfl rfl (by decide) rfl (ltk6 (by decide) hN) rfl rfl rfl (by rw [← hr]; exact ev_b_encode (Nat.le_of_succ_le hN) a0 a1 a2 a3 σ) ?_
  refine ev_lastore (i := 0) d_90_12 (ltk6 (by decide) hN) rfl (vpi (by decide)) (by decide) ?_
  refine ev_goto (tgt := 20) d_90_13 rfl ?_
  refine ev_iconst d_90_20 ci_0 ?_
  exact ev_iret d_90_21 rfl
theorem lw_encode_1 (hN : 66 ≤ N) (a0 : Int32) (a1 : Int32) (a2 : Int32) (a3 : Int32) (σ σ1 : mmS) (hr : sp_b_encode a0 a1 a2 a3 σ = (.inr "java/lang/IllegalArgumentException", σ1)) : Ev N L xs (90, 0, lv_args 0 [.ref 0, .int a0, .int a1, .int a2, .int a3, .ref 65], [], 0, σ) (mmSI ((1 : Int32), σ1)) := by
  show Ev N L xs (90, 0, [(0, .ref 0), (1, .int a0), (2, .int a1), (3, .int a2), (4, .int a3), (5, .ref 65)], [], 0, σ) _
  refine ev_aload d_90_0 rfl ?_
  refine ev_iconst d_90_2 ci_0 ?_
  refine ev_aload_n d_90_3 rfl ?_
  refine ev_iload_n d_90_4 rfl ?_
  refine ev_iload_n d_90_5 rfl ?_
  refine ev_iload_n d_90_6 rfl ?_
  refine ev_iload d_90_7 rfl ?_
  refine ev_callvC (E := "java/lang/IllegalArgumentException") (σ1 := σ1) (hp := 16) (j := 6) (w := 2) (lv' := [(0, .ref 0), (1, .int a0), (2, .int a1), (3, .int a2), (4, .int a3), (5, .ref 65)]) (As := [.int a0, .int a1, .int a2, .int a3]) (t := [.int (0 : Int32), .ref 65]) d_90_9 ml_9_59 rfl rfl rfl rfl rfl (by decide) rfl (ltk6 (by decide) hN) rfl rfl (by rw [← hr]; exact ev_b_encode (Nat.le_of_succ_le hN) a0 a1 a2 a3 σ) (by decide) (Or.inl ⟨d_90_16, rfl⟩) (by decide) rfl ?_
  refine ev_iconst d_90_18 ci_1 ?_
  exact ev_iret d_90_19 rfl
theorem lw_decode_ok (hN : 66 ≤ N) (a0 : Int64) (σ σ1 : mmS) (v : Int32) (hr : sp_b_decode a0 σ = (.inl (some (.int v)), σ1)) : Ev N L xs (92, 0, lv_args 0 [.ref 0, .long a0, .ref 65], [], 0, σ) (mmSI ((0 : Int32), (mmJ σ1 65 0 v.toInt64))) := by
  show Ev N L xs (92, 0, [(0, .ref 0), (1, .long a0), (3, .ref 65)], [], 0, σ) _
  refine ev_aload_n d_92_0 rfl ?_
  refine ev_iconst d_92_1 ci_0 ?_
  refine ev_aload_n d_92_2 rfl ?_
  refine ev_lload_n d_92_3 rfl ?_
  refine ev_cvI (v := v) (σ1 := σ1) (As := [.long a0]) (t := [.int (0 : Int32), .ref 65]) (e' := 2) d_92_4 ml_9_63 rfl rfl rfl rfl rfl (by decide) rfl (ltk6 (by decide) hN) rfl rfl rfl (by rw [← hr]; exact ev_b_decode (Nat.le_of_succ_le hN) a0 σ) ?_
  refine ev_i2l (v := v.toInt64) d_92_7 rfl ?_
  refine ev_lastore (i := 0) d_92_8 (ltk6 (by decide) hN) rfl (vpi (by decide)) (by decide) ?_
  refine ev_goto (tgt := 20) d_92_9 rfl ?_
  refine ev_iconst d_92_20 ci_0 ?_
  exact ev_iret d_92_21 rfl
theorem lw_decode_1 (hN : 66 ≤ N) (a0 : Int64) (σ σ1 : mmS) (hr : sp_b_decode a0 σ = (.inr "java/lang/IllegalArgumentException", σ1)) : Ev N L xs (92, 0, lv_args 0 [.ref 0, .long a0, .ref 65], [], 0, σ) (mmSI ((1 : Int32), σ1)) := by
  show Ev N L xs (92, 0, [(0, .ref 0), (1, .long a0), (3, .ref 65)], [], 0, σ) _
  refine ev_aload_n d_92_0 rfl ?_
  refine ev_iconst d_92_1 ci_0 ?_
  refine ev_aload_n d_92_2 rfl ?_
  refine ev_lload_n d_92_3 rfl ?_
  refine ev_callvC (E := "java/lang/IllegalArgumentException") (σ1 := σ1) (hp := 12) (j := 4) (w := 2) (lv' := [(0, .ref 0), (1, .long a0), (3, .ref 65)]) (As := [.long a0]) (t := [.int (0 : Int32), .ref 65]) d_92_4 ml_9_63 rfl rfl rfl rfl rfl (by decide) rfl (ltk6 (by decide) hN) rfl rfl (by rw [← hr]; exact ev_b_decode (Nat.le_of_succ_le hN) a0 σ) (by decide) (Or.inl ⟨d_92_12, rfl⟩) (by decide) rfl ?_
  refine ev_iconst d_92_14 ci_1 ?_
  exact ev_iret d_92_15 rfl
theorem lw_decode_2 (hN : 66 ≤ N) (a0 : Int64) (σ σ1 : mmS) (hr : sp_b_decode a0 σ = (.inr "java/lang/IllegalStateException", σ1)) : Ev N L xs (92, 0, lv_args 0 [.ref 0, .long a0, .ref 65], [], 0, σ) (mmSI ((2 : Int32), σ1)) := by
  show Ev N L xs (92, 0, [(0, .ref 0), (1, .long a0), (3, .ref 65)], [], 0, σ) _
  refine ev_aload_n d_92_0 rfl ?_
  refine ev_iconst d_92_1 ci_0 ?_
  refine ev_aload_n d_92_2 rfl ?_
  refine ev_lload_n d_92_3 rfl ?_
  refine ev_callvC (E := "java/lang/IllegalStateException") (σ1 := σ1) (hp := 16) (j := 4) (w := 2) (lv' := [(0, .ref 0), (1, .long a0), (3, .ref 65)]) (As := [.long a0]) (t := [.int (0 : Int32), .ref 65]) d_92_4 ml_9_63 rfl rfl rfl rfl rfl (by decide) rfl (ltk6 (by decide) hN) rfl rfl (by rw [← hr]; exact ev_b_decode (Nat.le_of_succ_le hN) a0 σ) (by decide) (Or.inl ⟨d_92_16, rfl⟩) (by decide) rfl ?_
  refine ev_iconst d_92_18 ci_2 ?_
  exact ev_iret d_92_19 rfl
end SP
