section SP
variable {N L : Nat} {xs : Nat → Int32}
def sp_b_passTick_L4 (s : Int32) (d : Int32) (w : Int64) (σ : mmS) : mmS :=
if s = (1 : Int32) then
  (sp_b_carry d w (mmI σ 0 3 ((σ.1 0 3) + s)))
else
  (mmI σ 0 3 ((σ.1 0 3) + s))
theorem ev_b_passTick_L4 (hN : 65 ≤ N) (s : Int32) (d : Int32) (w : Int64) (σ : mmS)  : Ev N L xs (17, 11, [(0, .ref 0), (1, .int s), (2, .int d), (3, .long w), (5, .int (4 : Int32))], [], 0, σ) (mmSV (sp_b_passTick_L4 s d w σ)) := by
  unfold sp_b_passTick_L4
  refine ev_iload d_17_11 rfl ?_
  refine ev_iconst d_17_13 ci_4 ?_
  refine ev_icmpT (tgt := 53) d_17_14 rfl (show (4 : Int32) ≤ (4 : Int32) by decide) ?_
  refine ev_aload_n d_17_53 rfl ?_
  refine ev_dup d_17_54 rfl ?_
  refine ev_getf (v := .int (σ.1 0 3)) d_17_55 fl_6_54 (ltk (by decide) hN) rfl rfl ?_
  refine ev_iload_n d_17_58 rfl ?_
  refine ev_iadd (v := ((σ.1 0 3) + s)) d_17_59 rfl ?_
  refine ev_putf d_17_60 fl_6_54 (ltk (by decide) hN) rfl rfl (Or.inl rfl) ?_
  refine ev_iload_n d_17_63 rfl ?_
  refine ev_iconst d_17_64 ci_1 ?_
  refine ev_icmp_ne mmSV (tgt := 74) d_17_65 rfl (fun _h65 => ?_) (fun _h65 => ?_)
  · exact ev_vret d_17_74 rfl
  · refine ev_aload_n d_17_68 rfl ?_
    refine ev_iload_n d_17_69 rfl ?_
    refine ev_lload_n d_17_70 rfl ?_
    refine ev_cvV (As := [.int d, .long w]) (t := []) (e' := 0) d_17_71 ml_6_187 rfl rfl rfl rfl rfl (by decide) rfl (ltk (by decide) hN) rfl rfl rfl (ev_b_carry hN d w (mmI σ 0 3 ((σ.1 0 3) + s))) ?_
    exact ev_vret d_17_74 rfl
def sp_b_passTick_L3 (s : Int32) (d : Int32) (w : Int64) (σ : mmS) : mmS :=
if (lg_cmp ((sp_n_passTick 3 σ).1) (-1 : Int64)) = 0 then
  (sp_b_passTick_L4 s d w ((sp_n_passTick 3 σ).2))
else
  (sp_b_passTick_L4 (s + Int32.ofInt (1)) (3 : Int32) ((sp_n_passTick 3 σ).1) ((sp_n_passTick 3 σ).2))
theorem ev_b_passTick_L3 (hN : 65 ≤ N) (s : Int32) (d : Int32) (w : Int64) (σ : mmS)  : Ev N L xs (17, 11, [(0, .ref 0), (1, .int s), (2, .int d), (3, .long w), (5, .int (3 : Int32))], [], 0, σ) (mmSV (sp_b_passTick_L3 s d w σ)) := by
  unfold sp_b_passTick_L3
  refine ev_iload d_17_11 rfl ?_
  refine ev_iconst d_17_13 ci_4 ?_
  refine ev_icmpF (tgt := 53) d_17_14 rfl (show ¬ ((4 : Int32) ≤ (3 : Int32)) by decide) ?_
  refine ev_aload_n d_17_17 rfl ?_
  refine ev_getf (v := .ref 1) d_17_18 fl_6_11 (ltk (by decide) hN) rfl rfl ?_
  refine ev_iload d_17_21 rfl ?_
  refine ev_aaload (i := 3) d_17_23 (ltk (by decide) hN) rfl (vpi (by decide)) (by decide) ?_
  show Ev N L xs (17, 24, [(0, .ref 0), (1, .int s), (2, .int d), (3, .long w), (5, .int (3 : Int32))], [.ref 32], 0, σ) _
  refine ev_cvJ (As := []) (t := []) (e' := 0) d_17_24 ml_6_184 rfl rfl rfl rfl rfl (by decide) rfl (ltk (by decide) hN) rfl rfl rfl (ev_n_passTick hN 3 σ (by decide)) ?_
  refine ev_lstore (lv' := [(6, .long ((sp_n_passTick 3 σ).1)), (0, .ref 0), (1, .int s), (2, .int d), (3, .long w), (5, .int (3 : Int32))]) d_17_27 (by decide) rfl ?_
  refine ev_lload d_17_29 rfl ?_
  refine ev_ldc2 d_17_31 kl_6_18 ?_
  refine ev_lcmp d_17_34 ?_
  refine ev_if_eq mmSV (tgt := 47) d_17_35 rfl (fun _h35 => ?_) (fun _h35 => ?_)
  · refine ev_iinc (lv' := [(5, .int (4 : Int32)), (6, .long ((sp_n_passTick 3 σ).1)), (0, .ref 0), (1, .int s), (2, .int d), (3, .long w)]) (v := (4 : Int32)) d_17_47 rfl (by decide) (by decide) rfl ?_
    refine ev_goto (tgt := 11) d_17_50 rfl ?_
    refine ev_sub (lv' := [(0, .ref 0), (1, .int s), (2, .int d), (3, .long w), (5, .int (4 : Int32))]) (by simp) ?_
    exact ev_b_passTick_L4 hN s d w ((sp_n_passTick 3 σ).2)
  · refine ev_iinc (lv' := [(1, .int (s + Int32.ofInt (1))), (6, .long ((sp_n_passTick 3 σ).1)), (0, .ref 0), (2, .int d), (3, .long w), (5, .int (3 : Int32))]) (v := (s + Int32.ofInt (1))) d_17_38 rfl rfl (by decide) rfl ?_
    refine ev_iload d_17_41 rfl ?_
    refine ev_istore_n (lv' := [(2, .int (3 : Int32)), (1, .int (s + Int32.ofInt (1))), (6, .long ((sp_n_passTick 3 σ).1)), (0, .ref 0), (3, .long w), (5, .int (3 : Int32))]) d_17_43 (by decide) rfl ?_
    refine ev_lload d_17_44 rfl ?_
    refine ev_lstore_n (lv' := [(3, .long ((sp_n_passTick 3 σ).1)), (2, .int (3 : Int32)), (1, .int (s + Int32.ofInt (1))), (6, .long ((sp_n_passTick 3 σ).1)), (0, .ref 0), (5, .int (3 : Int32))]) d_17_46 (by decide) rfl ?_
    refine ev_iinc (lv' := [(5, .int (4 : Int32)), (3, .long ((sp_n_passTick 3 σ).1)), (2, .int (3 : Int32)), (1, .int (s + Int32.ofInt (1))), (6, .long ((sp_n_passTick 3 σ).1)), (0, .ref 0)]) (v := (4 : Int32)) d_17_47 rfl (by decide) (by decide) rfl ?_
    refine ev_goto (tgt := 11) d_17_50 rfl ?_
    refine ev_sub (lv' := [(0, .ref 0), (1, .int (s + Int32.ofInt (1))), (2, .int (3 : Int32)), (3, .long ((sp_n_passTick 3 σ).1)), (5, .int (4 : Int32))]) (by simp) ?_
    exact ev_b_passTick_L4 hN (s + Int32.ofInt (1)) (3 : Int32) ((sp_n_passTick 3 σ).1) ((sp_n_passTick 3 σ).2)
def sp_b_passTick_L2 (s : Int32) (d : Int32) (w : Int64) (σ : mmS) : mmS :=
if (lg_cmp ((sp_n_passTick 2 σ).1) (-1 : Int64)) = 0 then
  (sp_b_passTick_L3 s d w ((sp_n_passTick 2 σ).2))
else
  (sp_b_passTick_L3 (s + Int32.ofInt (1)) (2 : Int32) ((sp_n_passTick 2 σ).1) ((sp_n_passTick 2 σ).2))
theorem ev_b_passTick_L2 (hN : 65 ≤ N) (s : Int32) (d : Int32) (w : Int64) (σ : mmS)  : Ev N L xs (17, 11, [(0, .ref 0), (1, .int s), (2, .int d), (3, .long w), (5, .int (2 : Int32))], [], 0, σ) (mmSV (sp_b_passTick_L2 s d w σ)) := by
  unfold sp_b_passTick_L2
  refine ev_iload d_17_11 rfl ?_
  refine ev_iconst d_17_13 ci_4 ?_
  refine ev_icmpF (tgt := 53) d_17_14 rfl (show ¬ ((4 : Int32) ≤ (2 : Int32)) by decide) ?_
  refine ev_aload_n d_17_17 rfl ?_
  refine ev_getf (v := .ref 1) d_17_18 fl_6_11 (ltk (by decide) hN) rfl rfl ?_
  refine ev_iload d_17_21 rfl ?_
  refine ev_aaload (i := 2) d_17_23 (ltk (by decide) hN) rfl (vpi (by decide)) (by decide) ?_
  show Ev N L xs (17, 24, [(0, .ref 0), (1, .int s), (2, .int d), (3, .long w), (5, .int (2 : Int32))], [.ref 22], 0, σ) _
  refine ev_cvJ (As := []) (t := []) (e' := 0) d_17_24 ml_6_184 rfl rfl rfl rfl rfl (by decide) rfl (ltk (by decide) hN) rfl rfl rfl (ev_n_passTick hN 2 σ (by decide)) ?_
  refine ev_lstore (lv' := [(6, .long ((sp_n_passTick 2 σ).1)), (0, .ref 0), (1, .int s), (2, .int d), (3, .long w), (5, .int (2 : Int32))]) d_17_27 (by decide) rfl ?_
  refine ev_lload d_17_29 rfl ?_
  refine ev_ldc2 d_17_31 kl_6_18 ?_
  refine ev_lcmp d_17_34 ?_
  refine ev_if_eq mmSV (tgt := 47) d_17_35 rfl (fun _h35 => ?_) (fun _h35 => ?_)
  · refine ev_iinc (lv' := [(5, .int (3 : Int32)), (6, .long ((sp_n_passTick 2 σ).1)), (0, .ref 0), (1, .int s), (2, .int d), (3, .long w)]) (v := (3 : Int32)) d_17_47 rfl (by decide) (by decide) rfl ?_
    refine ev_goto (tgt := 11) d_17_50 rfl ?_
    refine ev_sub (lv' := [(0, .ref 0), (1, .int s), (2, .int d), (3, .long w), (5, .int (3 : Int32))]) (by simp) ?_
    exact ev_b_passTick_L3 hN s d w ((sp_n_passTick 2 σ).2)
  · refine ev_iinc (lv' := [(1, .int (s + Int32.ofInt (1))), (6, .long ((sp_n_passTick 2 σ).1)), (0, .ref 0), (2, .int d), (3, .long w), (5, .int (2 : Int32))]) (v := (s + Int32.ofInt (1))) d_17_38 rfl rfl (by decide) rfl ?_
    refine ev_iload d_17_41 rfl ?_
    refine ev_istore_n (lv' := [(2, .int (2 : Int32)), (1, .int (s + Int32.ofInt (1))), (6, .long ((sp_n_passTick 2 σ).1)), (0, .ref 0), (3, .long w), (5, .int (2 : Int32))]) d_17_43 (by decide) rfl ?_
    refine ev_lload d_17_44 rfl ?_
    refine ev_lstore_n (lv' := [(3, .long ((sp_n_passTick 2 σ).1)), (2, .int (2 : Int32)), (1, .int (s + Int32.ofInt (1))), (6, .long ((sp_n_passTick 2 σ).1)), (0, .ref 0), (5, .int (2 : Int32))]) d_17_46 (by decide) rfl ?_
    refine ev_iinc (lv' := [(5, .int (3 : Int32)), (3, .long ((sp_n_passTick 2 σ).1)), (2, .int (2 : Int32)), (1, .int (s + Int32.ofInt (1))), (6, .long ((sp_n_passTick 2 σ).1)), (0, .ref 0)]) (v := (3 : Int32)) d_17_47 rfl (by decide) (by decide) rfl ?_
    refine ev_goto (tgt := 11) d_17_50 rfl ?_
    refine ev_sub (lv' := [(0, .ref 0), (1, .int (s + Int32.ofInt (1))), (2, .int (2 : Int32)), (3, .long ((sp_n_passTick 2 σ).1)), (5, .int (3 : Int32))]) (by simp) ?_
    exact ev_b_passTick_L3 hN (s + Int32.ofInt (1)) (2 : Int32) ((sp_n_passTick 2 σ).1) ((sp_n_passTick 2 σ).2)
def sp_b_passTick_L1 (s : Int32) (d : Int32) (w : Int64) (σ : mmS) : mmS :=
if (lg_cmp ((sp_n_passTick 1 σ).1) (-1 : Int64)) = 0 then
  (sp_b_passTick_L2 s d w ((sp_n_passTick 1 σ).2))
else
  (sp_b_passTick_L2 (s + Int32.ofInt (1)) (1 : Int32) ((sp_n_passTick 1 σ).1) ((sp_n_passTick 1 σ).2))
theorem ev_b_passTick_L1 (hN : 65 ≤ N) (s : Int32) (d : Int32) (w : Int64) (σ : mmS)  : Ev N L xs (17, 11, [(0, .ref 0), (1, .int s), (2, .int d), (3, .long w), (5, .int (1 : Int32))], [], 0, σ) (mmSV (sp_b_passTick_L1 s d w σ)) := by
  unfold sp_b_passTick_L1
  refine ev_iload d_17_11 rfl ?_
  refine ev_iconst d_17_13 ci_4 ?_
  refine ev_icmpF (tgt := 53) d_17_14 rfl (show ¬ ((4 : Int32) ≤ (1 : Int32)) by decide) ?_
  refine ev_aload_n d_17_17 rfl ?_
  refine ev_getf (v := .ref 1) d_17_18 fl_6_11 (ltk (by decide) hN) rfl rfl ?_
  refine ev_iload d_17_21 rfl ?_
  refine ev_aaload (i := 1) d_17_23 (ltk (by decide) hN) rfl (vpi (by decide)) (by decide) ?_
  show Ev N L xs (17, 24, [(0, .ref 0), (1, .int s), (2, .int d), (3, .long w), (5, .int (1 : Int32))], [.ref 12], 0, σ) _
  refine ev_cvJ (As := []) (t := []) (e' := 0) d_17_24 ml_6_184 rfl rfl rfl rfl rfl (by decide) rfl (ltk (by decide) hN) rfl rfl rfl (ev_n_passTick hN 1 σ (by decide)) ?_
  refine ev_lstore (lv' := [(6, .long ((sp_n_passTick 1 σ).1)), (0, .ref 0), (1, .int s), (2, .int d), (3, .long w), (5, .int (1 : Int32))]) d_17_27 (by decide) rfl ?_
  refine ev_lload d_17_29 rfl ?_
  refine ev_ldc2 d_17_31 kl_6_18 ?_
  refine ev_lcmp d_17_34 ?_
  refine ev_if_eq mmSV (tgt := 47) d_17_35 rfl (fun _h35 => ?_) (fun _h35 => ?_)
  · refine ev_iinc (lv' := [(5, .int (2 : Int32)), (6, .long ((sp_n_passTick 1 σ).1)), (0, .ref 0), (1, .int s), (2, .int d), (3, .long w)]) (v := (2 : Int32)) d_17_47 rfl (by decide) (by decide) rfl ?_
    refine ev_goto (tgt := 11) d_17_50 rfl ?_
    refine ev_sub (lv' := [(0, .ref 0), (1, .int s), (2, .int d), (3, .long w), (5, .int (2 : Int32))]) (by simp) ?_
    exact ev_b_passTick_L2 hN s d w ((sp_n_passTick 1 σ).2)
  · refine ev_iinc (lv' := [(1, .int (s + Int32.ofInt (1))), (6, .long ((sp_n_passTick 1 σ).1)), (0, .ref 0), (2, .int d), (3, .long w), (5, .int (1 : Int32))]) (v := (s + Int32.ofInt (1))) d_17_38 rfl rfl (by decide) rfl ?_
    refine ev_iload d_17_41 rfl ?_
    refine ev_istore_n (lv' := [(2, .int (1 : Int32)), (1, .int (s + Int32.ofInt (1))), (6, .long ((sp_n_passTick 1 σ).1)), (0, .ref 0), (3, .long w), (5, .int (1 : Int32))]) d_17_43 (by decide) rfl ?_
    refine ev_lload d_17_44 rfl ?_
    refine ev_lstore_n (lv' := [(3, .long ((sp_n_passTick 1 σ).1)), (2, .int (1 : Int32)), (1, .int (s + Int32.ofInt (1))), (6, .long ((sp_n_passTick 1 σ).1)), (0, .ref 0), (5, .int (1 : Int32))]) d_17_46 (by decide) rfl ?_
    refine ev_iinc (lv' := [(5, .int (2 : Int32)), (3, .long ((sp_n_passTick 1 σ).1)), (2, .int (1 : Int32)), (1, .int (s + Int32.ofInt (1))), (6, .long ((sp_n_passTick 1 σ).1)), (0, .ref 0)]) (v := (2 : Int32)) d_17_47 rfl (by decide) (by decide) rfl ?_
    refine ev_goto (tgt := 11) d_17_50 rfl ?_
    refine ev_sub (lv' := [(0, .ref 0), (1, .int (s + Int32.ofInt (1))), (2, .int (1 : Int32)), (3, .long ((sp_n_passTick 1 σ).1)), (5, .int (2 : Int32))]) (by simp) ?_
    exact ev_b_passTick_L2 hN (s + Int32.ofInt (1)) (1 : Int32) ((sp_n_passTick 1 σ).1) ((sp_n_passTick 1 σ).2)
def sp_b_passTick_L0 (s : Int32) (d : Int32) (w : Int64) (σ : mmS) : mmS :=
if (lg_cmp ((sp_n_passTick 0 σ).1) (-1 : Int64)) = 0 then
  (sp_b_passTick_L1 s d w ((sp_n_passTick 0 σ).2))
else
  (sp_b_passTick_L1 (s + Int32.ofInt (1)) (0 : Int32) ((sp_n_passTick 0 σ).1) ((sp_n_passTick 0 σ).2))
theorem ev_b_passTick_L0 (hN : 65 ≤ N) (s : Int32) (d : Int32) (w : Int64) (σ : mmS)  : Ev N L xs (17, 11, [(0, .ref 0), (1, .int s), (2, .int d), (3, .long w), (5, .int (0 : Int32))], [], 0, σ) (mmSV (sp_b_passTick_L0 s d w σ)) := by
  unfold sp_b_passTick_L0
  refine ev_iload d_17_11 rfl ?_
  refine ev_iconst d_17_13 ci_4 ?_
  refine ev_icmpF (tgt := 53) d_17_14 rfl (show ¬ ((4 : Int32) ≤ (0 : Int32)) by decide) ?_
  refine ev_aload_n d_17_17 rfl ?_
  refine ev_getf (v := .ref 1) d_17_18 fl_6_11 (ltk (by decide) hN) rfl rfl ?_
  refine ev_iload d_17_21 rfl ?_
  refine ev_aaload (i := 0) d_17_23 (ltk (by decide) hN) rfl (vpi (by decide)) (by decide) ?_
  show Ev N L xs (17, 24, [(0, .ref 0), (1, .int s), (2, .int d), (3, .long w), (5, .int (0 : Int32))], [.ref 2], 0, σ) _
  refine ev_cvJ (As := []) (t := []) (e' := 0) d_17_24 ml_6_184 rfl rfl rfl rfl rfl (by decide) rfl (ltk (by decide) hN) rfl rfl rfl (ev_n_passTick hN 0 σ (by decide)) ?_
  refine ev_lstore (lv' := [(6, .long ((sp_n_passTick 0 σ).1)), (0, .ref 0), (1, .int s), (2, .int d), (3, .long w), (5, .int (0 : Int32))]) d_17_27 (by decide) rfl ?_
  refine ev_lload d_17_29 rfl ?_
  refine ev_ldc2 d_17_31 kl_6_18 ?_
  refine ev_lcmp d_17_34 ?_
  refine ev_if_eq mmSV (tgt := 47) d_17_35 rfl (fun _h35 => ?_) (fun _h35 => ?_)
  · refine ev_iinc (lv' := [(5, .int (1 : Int32)), (6, .long ((sp_n_passTick 0 σ).1)), (0, .ref 0), (1, .int s), (2, .int d), (3, .long w)]) (v := (1 : Int32)) d_17_47 rfl (by decide) (by decide) rfl ?_
    refine ev_goto (tgt := 11) d_17_50 rfl ?_
    refine ev_sub (lv' := [(0, .ref 0), (1, .int s), (2, .int d), (3, .long w), (5, .int (1 : Int32))]) (by simp) ?_
    exact ev_b_passTick_L1 hN s d w ((sp_n_passTick 0 σ).2)
  · refine ev_iinc (lv' := [(1, .int (s + Int32.ofInt (1))), (6, .long ((sp_n_passTick 0 σ).1)), (0, .ref 0), (2, .int d), (3, .long w), (5, .int (0 : Int32))]) (v := (s + Int32.ofInt (1))) d_17_38 rfl rfl (by decide) rfl ?_
    refine ev_iload d_17_41 rfl ?_
    refine ev_istore_n (lv' := [(2, .int (0 : Int32)), (1, .int (s + Int32.ofInt (1))), (6, .long ((sp_n_passTick 0 σ).1)), (0, .ref 0), (3, .long w), (5, .int (0 : Int32))]) d_17_43 (by decide) rfl ?_
    refine ev_lload d_17_44 rfl ?_
    refine ev_lstore_n (lv' := [(3, .long ((sp_n_passTick 0 σ).1)), (2, .int (0 : Int32)), (1, .int (s + Int32.ofInt (1))), (6, .long ((sp_n_passTick 0 σ).1)), (0, .ref 0), (5, .int (0 : Int32))]) d_17_46 (by decide) rfl ?_
    refine ev_iinc (lv' := [(5, .int (1 : Int32)), (3, .long ((sp_n_passTick 0 σ).1)), (2, .int (0 : Int32)), (1, .int (s + Int32.ofInt (1))), (6, .long ((sp_n_passTick 0 σ).1)), (0, .ref 0)]) (v := (1 : Int32)) d_17_47 rfl (by decide) (by decide) rfl ?_
    refine ev_goto (tgt := 11) d_17_50 rfl ?_
    refine ev_sub (lv' := [(0, .ref 0), (1, .int (s + Int32.ofInt (1))), (2, .int (0 : Int32)), (3, .long ((sp_n_passTick 0 σ).1)), (5, .int (1 : Int32))]) (by simp) ?_
    exact ev_b_passTick_L1 hN (s + Int32.ofInt (1)) (0 : Int32) ((sp_n_passTick 0 σ).1) ((sp_n_passTick 0 σ).2)
def sp_b_passTick (σ : mmS) : mmS :=
(sp_b_passTick_L0 (0 : Int32) (0 : Int32) (-1 : Int64) σ)
theorem ev_b_passTick (hN : 65 ≤ N) (σ : mmS) : Ev N L xs (17, 0, lv_args 0 [.ref 0], [], 0, σ) (mmSV (sp_b_passTick σ)) := by
  unfold sp_b_passTick
  show Ev N L xs (17, 0, [(0, .ref 0)], [], 0, σ) _
  refine ev_iconst d_17_0 ci_0 ?_
  refine ev_istore_n (lv' := [(1, .int (0 : Int32)), (0, .ref 0)]) d_17_1 (by decide) rfl ?_
  refine ev_iconst d_17_2 ci_0 ?_
  refine ev_istore_n (lv' := [(2, .int (0 : Int32)), (1, .int (0 : Int32)), (0, .ref 0)]) d_17_3 (by decide) rfl ?_
  refine ev_ldc2 d_17_4 kl_6_18 ?_
  refine ev_lstore_n (lv' := [(3, .long (-1 : Int64)), (2, .int (0 : Int32)), (1, .int (0 : Int32)), (0, .ref 0)]) d_17_7 (by decide) rfl ?_
  refine ev_iconst d_17_8 ci_0 ?_
  refine ev_istore (lv' := [(5, .int (0 : Int32)), (3, .long (-1 : Int64)), (2, .int (0 : Int32)), (1, .int (0 : Int32)), (0, .ref 0)]) d_17_9 (by decide) rfl ?_
  refine ev_sub (lv' := [(0, .ref 0), (1, .int (0 : Int32)), (2, .int (0 : Int32)), (3, .long (-1 : Int64)), (5, .int (0 : Int32))]) (by simp) ?_
  exact ev_b_passTick_L0 hN (0 : Int32) (0 : Int32) (-1 : Int64) σ
theorem nat_s2 : ∀ i, i < 202 → (Int32.ofNat i).toNatClampNeg = i ∧ ¬ Int32.ofNat i < 0 ∧ Int32.ofNat i + Int32.ofInt 1 = Int32.ofNat (i + 1) ∧ (Int32.ofNat i).toInt = i := by decide +kernel
theorem rn_of {a : Int32} (h1 : ¬ a < 1) (h2 : ¬ (200 : Int32) < a) : ∃ n, n < 201 ∧ a = Int32.ofNat n := by
  rw [Int32.lt_iff_toInt_lt] at h1 h2
  have e1 : (1 : Int32).toInt = 1 := by decide
  have e2 : (200 : Int32).toInt = 200 := by decide
  rw [e1] at h1
  rw [e2] at h2
  refine ⟨a.toInt.toNat, by omega, Int32.toInt_inj.mp ?_⟩
  rw [(nat_s2 a.toInt.toNat (by omega)).2.2.2]
  omega
theorem rw_of {a : Int32} {σ : mmS} (h : ¬ sp_b_isWithin a 1 200 σ = 0) : ∃ n, n < 201 ∧ a = Int32.ofNat n := by
  unfold sp_b_isWithin at h
  by_cases h0 : a < 1
  · rw [if_pos h0] at h; exact absurd rfl h
  · rw [if_neg h0] at h
    by_cases h3 : (200 : Int32) < a
    · rw [if_pos h3] at h; exact absurd rfl h
    · exact rn_of h0 h3
def runB : Nat → mmS → mmS
  | 0, σ => σ
  | n + 1, σ => runB n (sp_b_passTick σ)
theorem ev_b_run_18 (hN : 65 ≤ N) (b : Int32) (n : Nat) (hn : n < 201) : ∀ d i, i + d = n → ∀ σ : mmS, Ev N L xs (15, 18, [(0, .ref 0), (1, .int (Int32.ofNat n)), (2, .int b), (3, .int (Int32.ofNat i))], [], 1, σ) (mmPI (runB d σ) ((runB d σ).1 0 3 - b))
  | 0, i, h, σ => by
    have hi : i = n := by omega
    subst hi
    refine ev_iload_n d_15_18 rfl ?_
    refine ev_iload_n d_15_19 rfl ?_
    refine ev_icmpT (tgt := 33) d_15_20 rfl (show Int32.ofNat i ≤ Int32.ofNat i from Int32.le_refl _) ?_
    refine ev_aload_n d_15_33 rfl ?_
    refine ev_getf (v := .int (σ.1 0 3)) d_15_34 fl_6_54 (ltk (by decide) hN) rfl rfl ?_
    refine ev_iload_n d_15_37 rfl ?_
    refine ev_isub (v := σ.1 0 3 - b) d_15_38 rfl ?_
    exact ev_iret d_15_39 rfl
  | d + 1, i, h, σ => by
    obtain ⟨e1, e2, e3, e4⟩ := nat_s2 i (by omega)
    obtain ⟨f1, f2, f3, f4⟩ := nat_s2 n (by omega)
    refine ev_iload_n d_15_18 rfl ?_
    refine ev_iload_n d_15_19 rfl ?_
    refine ev_icmpF (tgt := 33) d_15_20 rfl (show ¬ Int32.ofNat n ≤ Int32.ofNat i by rw [Int32.le_iff_toInt_le, e4, f4]; omega) ?_
    refine ev_aload_n d_15_23 rfl ?_
    refine ev_cvV (As := []) (t := []) (e' := 1) d_15_24 ml_6_57 rfl rfl rfl rfl rfl (by decide) rfl (ltk (by decide) hN) rfl rfl rfl (ev_b_passTick hN σ) ?_
    refine ev_iinc (lv' := [(3, .int (Int32.ofNat (i + 1))), (0, .ref 0), (1, .int (Int32.ofNat n)), (2, .int b)]) (v := Int32.ofNat (i + 1)) d_15_27 rfl e3 (by decide) rfl ?_
    refine ev_goto (tgt := 18) d_15_30 rfl ?_
    refine ev_sub (lv' := [(0, .ref 0), (1, .int (Int32.ofNat n)), (2, .int b), (3, .int (Int32.ofNat (i + 1)))]) (by simp) ?_
    exact ev_b_run_18 hN b n hn d (i + 1) (by omega) _
def sp_b_run (a0 : Int32) (σ : mmS) : mmR := if (cx_b_require (sp_b_isWithin a0 1 200 σ) σ) then (.inr "java/lang/IllegalArgumentException", σ) else (.inl (some (.int ((runB a0.toNatClampNeg σ).1 0 3 - σ.1 0 3))), runB a0.toNatClampNeg σ)
theorem ev_b_run (hN : 65 ≤ N) (a0 : Int32) (σ : mmS) : Ev N L xs (15, 0, lv_args 0 [.ref 0, .int a0], [], 0, σ) (sp_b_run a0 σ) := by
  show Ev N L xs (15, 0, [(0, .ref 0), (1, .int a0)], [], 0, σ) _
  unfold sp_b_run
  refine ev_iload_n d_15_0 rfl ?_
  refine ev_iconst d_15_1 ci_1 ?_
  refine ev_sipush d_15_2 cs_200 ?_
  refine ev_csI (As := [.int a0, .int (1 : Int32), .int (200 : Int32)]) (t := []) (e' := 0) d_15_5 ml_6_46 rfl rfl rfl rfl rfl (by decide) rfl rfl (ev_b_isWithin hN a0 (1 : Int32) (200 : Int32) σ) ?_
  by_cases _hx8 : (cx_b_require (sp_b_isWithin a0 (1 : Int32) (200 : Int32) σ) σ)
  · rw [if_pos _hx8]; exact ev_callsX (As := [.int (sp_b_isWithin a0 (1 : Int32) (200 : Int32) σ)]) (t := []) d_15_8 ml_6_50 rfl rfl rfl rfl rfl (by decide) rfl rfl (ex_b_require hN (sp_b_isWithin a0 (1 : Int32) (200 : Int32) σ) σ _hx8)
  · rw [if_neg _hx8]
    refine ev_csV (As := [.int (sp_b_isWithin a0 (1 : Int32) (200 : Int32) σ)]) (t := []) (e' := 1) d_15_8 ml_6_50 rfl rfl rfl rfl rfl (by decide) rfl rfl (eo_b_require hN (sp_b_isWithin a0 (1 : Int32) (200 : Int32) σ) σ _hx8) ?_
    refine ev_aload_n d_15_11 rfl ?_
    refine ev_getf (v := .int (σ.1 0 3)) d_15_12 fl_6_54 (ltk (by decide) hN) rfl rfl ?_
    refine ev_istore_n (lv' := [(2, .int (σ.1 0 3)), (0, .ref 0), (1, .int a0)]) d_15_15 (by decide) rfl ?_
    refine ev_iconst d_15_16 ci_0 ?_
    refine ev_istore_n (lv' := [(3, .int (0 : Int32)), (2, .int (σ.1 0 3)), (0, .ref 0), (1, .int a0)]) d_15_17 (by decide) rfl ?_
    refine ev_sub (lv' := [(0, .ref 0), (1, .int a0), (2, .int (σ.1 0 3)), (3, .int (0 : Int32))]) (by simp) ?_
    obtain ⟨n, hn, rfl⟩ := rw_of _hx8
    rw [(nat_s2 n (by omega)).1]
    exact ev_b_run_18 hN _ n hn n 0 (by omega) σ
theorem tabO {x : Int32} (h0 : ¬ x = 0) (h1 : ¬ x = 1) (h2 : ¬ x = 2) (h3 : ¬ x = 3) (h4 : ¬ x = 4) : x.toInt < 0 ∨ 4 < x.toInt := by
  have g0 : x.toInt ≠ 0 := fun q => h0 (Int32.toInt_inj.mp (q.trans (by decide)))
  have g1 : x.toInt ≠ 1 := fun q => h1 (Int32.toInt_inj.mp (q.trans (by decide)))
  have g2 : x.toInt ≠ 2 := fun q => h2 (Int32.toInt_inj.mp (q.trans (by decide)))
  have g3 : x.toInt ≠ 3 := fun q => h3 (Int32.toInt_inj.mp (q.trans (by decide)))
  have g4 : x.toInt ≠ 4 := fun q => h4 (Int32.toInt_inj.mp (q.trans (by decide)))
  omega
def sp_b_clock (a0 : Int32) (a1 : Int32) (σ : mmS) : mmR :=
if (cx_b_requireNode a0 σ) then
  ((.inr "java/lang/IllegalArgumentException", σ) : mmR)
else
  if (cx_b_require (sp_b_isWithin a1 (0 : Int32) (5 : Int32) σ) σ) then
    ((.inr "java/lang/IllegalArgumentException", σ) : mmR)
  else
    if (sp_n_isInTime a0.toNatClampNeg σ) = 0 then
      ((.inr "java/lang/IllegalStateException", σ) : mmR)
    else
      if a1 = 0 then
        ((.inl (some (.int (σ.1 (10 * a0.toNatClampNeg + 3) 0))), σ) : mmR)
      else
        if a1 = 1 then
          ((.inl (some (.int (σ.1 (10 * a0.toNatClampNeg + 3) 1))), σ) : mmR)
        else
          if a1 = 2 then
            ((.inl (some (.int (σ.1 (10 * a0.toNatClampNeg + 3) 2))), σ) : mmR)
          else
            if a1 = 3 then
              ((.inl (some (.int (σ.1 (10 * a0.toNatClampNeg + 3) 4))), σ) : mmR)
            else
              if a1 = 4 then
                ((.inl (some (.int (σ.1 (10 * a0.toNatClampNeg + 2) 9))), σ) : mmR)
              else
                ((.inl (some (.int (σ.1 (10 * a0.toNatClampNeg + 2) 10))), σ) : mmR)
theorem ev_b_clock (hN : 65 ≤ N) (a0 : Int32) (a1 : Int32) (σ : mmS) : Ev N L xs (80, 0, lv_args 0 [.ref 0, .int a0, .int a1], [], 0, σ) ((fun r : mmR => r) (sp_b_clock a0 a1 σ)) := by
  unfold sp_b_clock
  show Ev N L xs (80, 0, [(0, .ref 0), (1, .int a0), (2, .int a1)], [], 0, σ) _
  refine ev_iload_n d_80_0 rfl ?_
  by_cases _hx1 : (cx_b_requireNode a0 σ)
  · rw [if_pos _hx1]; exact ev_callsX (As := [.int a0]) (t := []) d_80_1 ml_6_24 rfl rfl rfl rfl rfl (by decide) rfl rfl (ex_b_requireNode hN a0 σ _hx1)
  · rw [if_neg _hx1]
    refine ev_csV (As := [.int a0]) (t := []) (e' := 1) d_80_1 ml_6_24 rfl rfl rfl rfl rfl (by decide) rfl rfl (eo_b_requireNode hN a0 σ _hx1) ?_
    refine ev_iload_n d_80_4 rfl ?_
    refine ev_iconst d_80_5 ci_0 ?_
    refine ev_iconst d_80_6 ci_5 ?_
    refine ev_csI (As := [.int a1, .int (0 : Int32), .int (5 : Int32)]) (t := []) (e' := 1) d_80_7 ml_6_46 rfl rfl rfl rfl rfl (by decide) rfl rfl (ev_b_isWithin hN a1 (0 : Int32) (5 : Int32) σ) ?_
    by_cases _hx10 : (cx_b_require (sp_b_isWithin a1 (0 : Int32) (5 : Int32) σ) σ)
    · rw [if_pos _hx10]; exact ev_callsX (As := [.int (sp_b_isWithin a1 (0 : Int32) (5 : Int32) σ)]) (t := []) d_80_10 ml_6_50 rfl rfl rfl rfl rfl (by decide) rfl rfl (ex_b_require hN (sp_b_isWithin a1 (0 : Int32) (5 : Int32) σ) σ _hx10)
    · rw [if_neg _hx10]
      refine ev_csV (As := [.int (sp_b_isWithin a1 (0 : Int32) (5 : Int32) σ)]) (t := []) (e' := 2) d_80_10 ml_6_50 rfl rfl rfl rfl rfl (by decide) rfl rfl (eo_b_require hN (sp_b_isWithin a1 (0 : Int32) (5 : Int32) σ) σ _hx10) ?_
      refine ev_aload_n d_80_13 rfl ?_
      refine ev_getf (v := .ref 1) d_80_14 fl_6_11 (ltk (by decide) hN) rfl rfl ?_
      refine ev_iload_n d_80_17 rfl ?_
      refine ev_aaload (i := a0.toNatClampNeg) d_80_18 (ltk (by decide) hN) rfl (vn_of _hx1) rfl ?_
      refine ev_astore_n (lv' := [(3, .ref (10 * a0.toNatClampNeg + 2)), (0, .ref 0), (1, .int a0), (2, .int a1)]) d_80_19 (by decide) rfl ?_
      refine ev_aload_n d_80_20 rfl ?_
      refine ev_cvI (As := []) (t := []) (e' := 2) d_80_21 ml_6_94 rfl rfl rfl rfl rfl (by decide) rfl (ltn (by decide) (n4_lt (vn_of _hx1)) hN) (shq_2 (n4_lt (vn_of _hx1))) rfl rfl (ev_n_isInTime hN a0.toNatClampNeg σ (n4_lt (vn_of _hx1))) ?_
      refine ev_if_ne (fun r : mmR => r) (tgt := 37) d_80_24 rfl (fun _h24 => ?_) (fun _h24 => ?_)
      · refine ev_iload_n d_80_37 rfl ?_
        by_cases _t38_0 : a1 = 0
        · rw [if_pos _t38_0]
          refine ev_tabIn (off := 34) (tgt := 72) d_80_38 (by rw [_t38_0]; decide) (by rw [_t38_0]; decide) (by rw [_t38_0]; decide) rfl ?_
          refine ev_aload_n d_80_72 rfl ?_
          refine ev_getf (v := .ref (10 * a0.toNatClampNeg + 3)) d_80_73 fl_6_99 (ltn (by decide) (n4_lt (vn_of _hx1)) hN) (shq_2 (n4_lt (vn_of _hx1))) rfl ?_
          refine ev_getf (v := .int (σ.1 (10 * a0.toNatClampNeg + 3) 0)) d_80_76 fl_6_103 (ltn (by decide) (n4_lt (vn_of _hx1)) hN) (shq_3 (n4_lt (vn_of _hx1))) rfl ?_
          exact ev_iret d_80_79 rfl
        · rw [if_neg _t38_0]
          by_cases _t38_1 : a1 = 1
          · rw [if_pos _t38_1]
            refine ev_tabIn (off := 42) (tgt := 80) d_80_38 (by rw [_t38_1]; decide) (by rw [_t38_1]; decide) (by rw [_t38_1]; decide) rfl ?_
            refine ev_aload_n d_80_80 rfl ?_
            refine ev_getf (v := .ref (10 * a0.toNatClampNeg + 3)) d_80_81 fl_6_99 (ltn (by decide) (n4_lt (vn_of _hx1)) hN) (shq_2 (n4_lt (vn_of _hx1))) rfl ?_
            refine ev_getf (v := .int (σ.1 (10 * a0.toNatClampNeg + 3) 1)) d_80_84 fl_6_108 (ltn (by decide) (n4_lt (vn_of _hx1)) hN) (shq_3 (n4_lt (vn_of _hx1))) rfl ?_
            exact ev_iret d_80_87 rfl
          · rw [if_neg _t38_1]
            by_cases _t38_2 : a1 = 2
            · rw [if_pos _t38_2]
              refine ev_tabIn (off := 50) (tgt := 88) d_80_38 (by rw [_t38_2]; decide) (by rw [_t38_2]; decide) (by rw [_t38_2]; decide) rfl ?_
              refine ev_aload_n d_80_88 rfl ?_
              refine ev_getf (v := .ref (10 * a0.toNatClampNeg + 3)) d_80_89 fl_6_99 (ltn (by decide) (n4_lt (vn_of _hx1)) hN) (shq_2 (n4_lt (vn_of _hx1))) rfl ?_
              refine ev_getf (v := .int (σ.1 (10 * a0.toNatClampNeg + 3) 2)) d_80_92 fl_6_111 (ltn (by decide) (n4_lt (vn_of _hx1)) hN) (shq_3 (n4_lt (vn_of _hx1))) rfl ?_
              exact ev_iret d_80_95 rfl
            · rw [if_neg _t38_2]
              by_cases _t38_3 : a1 = 3
              · rw [if_pos _t38_3]
                refine ev_tabIn (off := 58) (tgt := 96) d_80_38 (by rw [_t38_3]; decide) (by rw [_t38_3]; decide) (by rw [_t38_3]; decide) rfl ?_
                refine ev_aload_n d_80_96 rfl ?_
                refine ev_getf (v := .ref (10 * a0.toNatClampNeg + 3)) d_80_97 fl_6_99 (ltn (by decide) (n4_lt (vn_of _hx1)) hN) (shq_2 (n4_lt (vn_of _hx1))) rfl ?_
                refine ev_getf (v := .int (σ.1 (10 * a0.toNatClampNeg + 3) 4)) d_80_100 fl_6_114 (ltn (by decide) (n4_lt (vn_of _hx1)) hN) (shq_3 (n4_lt (vn_of _hx1))) rfl ?_
                exact ev_iret d_80_103 rfl
              · rw [if_neg _t38_3]
                by_cases _t38_4 : a1 = 4
                · rw [if_pos _t38_4]
                  refine ev_tabIn (off := 66) (tgt := 104) d_80_38 (by rw [_t38_4]; decide) (by rw [_t38_4]; decide) (by rw [_t38_4]; decide) rfl ?_
                  refine ev_aload_n d_80_104 rfl ?_
                  refine ev_getf (v := .int (σ.1 (10 * a0.toNatClampNeg + 2) 9)) d_80_105 fl_6_117 (ltn (by decide) (n4_lt (vn_of _hx1)) hN) (shq_2 (n4_lt (vn_of _hx1))) rfl ?_
                  exact ev_iret d_80_108 rfl
                · rw [if_neg _t38_4]
                  refine ev_tabOut (tgt := 109) d_80_38 (tabO _t38_0 _t38_1 _t38_2 _t38_3 _t38_4) rfl ?_
                  refine ev_aload_n d_80_109 rfl ?_
                  refine ev_getf (v := .int (σ.1 (10 * a0.toNatClampNeg + 2) 10)) d_80_110 fl_6_120 (ltn (by decide) (n4_lt (vn_of _hx1)) hN) (shq_2 (n4_lt (vn_of _hx1))) rfl ?_
                  exact ev_iret d_80_113 rfl
      · exact ev_throw d_80_27 xm_80_27 (by decide) rfl rfl
end SP
