section SP
variable {N L : Nat} {xs : Nat → Int32}
def sp_b_power (a0 : Int32) (σ : mmS) : mmR :=
if (cx_b_requireNode a0 σ) then
  ((.inr "java/lang/IllegalArgumentException", σ) : mmR)
else
  if (sp_n_isAwake a0.toNatClampNeg σ) = 0 then
    ((.inl none, (sp_n_switchOn a0.toNatClampNeg σ)) : mmR)
  else
    ((.inr "java/lang/IllegalStateException", σ) : mmR)
theorem ev_b_power (hN : 65 ≤ N) (a0 : Int32) (σ : mmS) : Ev N L xs (4, 0, lv_args 0 [.ref 0, .int a0], [], 0, σ) ((fun r : mmR => r) (sp_b_power a0 σ)) := by
  unfold sp_b_power
  show Ev N L xs (4, 0, [(0, .ref 0), (1, .int a0)], [], 0, σ) _
  refine ev_iload_n d_4_0 rfl ?_
  by_cases _hx1 : (cx_b_requireNode a0 σ)
  · rw [if_pos _hx1]; exact ev_callsX (As := [.int a0]) (t := []) d_4_1 ml_6_24 rfl rfl rfl rfl rfl (by decide) rfl rfl (ex_b_requireNode hN a0 σ _hx1)
  · rw [if_neg _hx1]
    refine ev_csV (As := [.int a0]) (t := []) (e' := 1) d_4_1 ml_6_24 rfl rfl rfl rfl rfl (by decide) rfl rfl (eo_b_requireNode hN a0 σ _hx1) ?_
    refine ev_aload_n d_4_4 rfl ?_
    refine ev_getf (v := .ref 1) d_4_5 fl_6_11 (ltk (by decide) hN) rfl rfl ?_
    refine ev_iload_n d_4_8 rfl ?_
    refine ev_aaload (i := a0.toNatClampNeg) d_4_9 (ltk (by decide) hN) rfl (vn_of _hx1) rfl ?_
    refine ev_cvI (As := []) (t := []) (e' := 1) d_4_10 ml_6_28 rfl rfl rfl rfl rfl (by decide) rfl (ltn (by decide) (n4_lt (vn_of _hx1)) hN) (shq_2 (n4_lt (vn_of _hx1))) rfl rfl (ev_n_isAwake hN a0.toNatClampNeg σ (n4_lt (vn_of _hx1))) ?_
    refine ev_if_eq (fun r : mmR => r) (tgt := 26) d_4_13 rfl (fun _h13 => ?_) (fun _h13 => ?_)
    · refine ev_aload_n d_4_26 rfl ?_
      refine ev_getf (v := .ref 1) d_4_27 fl_6_11 (ltk (by decide) hN) rfl rfl ?_
      refine ev_iload_n d_4_30 rfl ?_
      refine ev_aaload (i := a0.toNatClampNeg) d_4_31 (ltk (by decide) hN) rfl (vn_of _hx1) rfl ?_
      refine ev_cvV (As := []) (t := []) (e' := 1) d_4_32 ml_6_39 rfl rfl rfl rfl rfl (by decide) rfl (ltn (by decide) (n4_lt (vn_of _hx1)) hN) (shq_2 (n4_lt (vn_of _hx1))) rfl rfl (ev_n_switchOn hN a0.toNatClampNeg σ (n4_lt (vn_of _hx1))) ?_
      exact ev_vret d_4_35 rfl
    · exact ev_throw d_4_16 xm_4_16 (by decide) rfl rfl
def sp_b_off (a0 : Int32) (σ : mmS) : mmR :=
if (cx_b_requireNode a0 σ) then
  ((.inr "java/lang/IllegalArgumentException", σ) : mmR)
else
  ((.inl (some (.int (σ.1 (10 * a0.toNatClampNeg + 2) 7))), (mmI σ (10 * a0.toNatClampNeg + 2) 7 (0 : Int32))) : mmR)
theorem ev_b_off (hN : 65 ≤ N) (a0 : Int32) (σ : mmS) : Ev N L xs (13, 0, lv_args 0 [.ref 0, .int a0], [], 0, σ) ((fun r : mmR => r) (sp_b_off a0 σ)) := by
  unfold sp_b_off
  show Ev N L xs (13, 0, [(0, .ref 0), (1, .int a0)], [], 0, σ) _
  refine ev_iload_n d_13_0 rfl ?_
  by_cases _hx1 : (cx_b_requireNode a0 σ)
  · rw [if_pos _hx1]; exact ev_callsX (As := [.int a0]) (t := []) d_13_1 ml_6_24 rfl rfl rfl rfl rfl (by decide) rfl rfl (ex_b_requireNode hN a0 σ _hx1)
  · rw [if_neg _hx1]
    refine ev_csV (As := [.int a0]) (t := []) (e' := 1) d_13_1 ml_6_24 rfl rfl rfl rfl rfl (by decide) rfl rfl (eo_b_requireNode hN a0 σ _hx1) ?_
    refine ev_aload_n d_13_4 rfl ?_
    refine ev_getf (v := .ref 1) d_13_5 fl_6_11 (ltk (by decide) hN) rfl rfl ?_
    refine ev_iload_n d_13_8 rfl ?_
    refine ev_aaload (i := a0.toNatClampNeg) d_13_9 (ltk (by decide) hN) rfl (vn_of _hx1) rfl ?_
    refine ev_getf (v := .int (σ.1 (10 * a0.toNatClampNeg + 2) 7)) d_13_10 fl_6_42 (ltn (by decide) (n4_lt (vn_of _hx1)) hN) (shq_2 (n4_lt (vn_of _hx1))) rfl ?_
    refine ev_istore_n (lv' := [(2, .int (σ.1 (10 * a0.toNatClampNeg + 2) 7)), (0, .ref 0), (1, .int a0)]) d_13_13 (by decide) rfl ?_
    refine ev_aload_n d_13_14 rfl ?_
    refine ev_getf (v := .ref 1) d_13_15 fl_6_11 (ltk (by decide) hN) rfl rfl ?_
    refine ev_iload_n d_13_18 rfl ?_
    refine ev_aaload (i := a0.toNatClampNeg) d_13_19 (ltk (by decide) hN) rfl (vn_of _hx1) rfl ?_
    refine ev_iconst d_13_20 ci_0 ?_
    refine ev_putf d_13_21 fl_6_42 (ltn (by decide) (n4_lt (vn_of _hx1)) hN) (shq_2 (n4_lt (vn_of _hx1))) rfl (Or.inl rfl) ?_
    refine ev_iload_n d_13_24 rfl ?_
    exact ev_iret d_13_25 rfl
def sp_b_value (a0 : Int32) (a1 : Int32) (σ : mmS) : mmR :=
if (cx_b_requireNode a0 σ) then
  ((.inr "java/lang/IllegalArgumentException", σ) : mmR)
else
  if (cx_b_require (sp_b_isWithin a1 (0 : Int32) (1023 : Int32) σ) σ) then
    ((.inr "java/lang/IllegalArgumentException", σ) : mmR)
  else
    if (cx_b_requireNotOff a0 σ) then
      ((.inr "java/lang/IllegalStateException", σ) : mmR)
    else
      ((.inl none, (mmI σ (10 * a0.toNatClampNeg + 2) 12 a1)) : mmR)
theorem ev_b_value (hN : 65 ≤ N) (a0 : Int32) (a1 : Int32) (σ : mmS) : Ev N L xs (67, 0, lv_args 0 [.ref 0, .int a0, .int a1], [], 0, σ) ((fun r : mmR => r) (sp_b_value a0 a1 σ)) := by
  unfold sp_b_value
  show Ev N L xs (67, 0, [(0, .ref 0), (1, .int a0), (2, .int a1)], [], 0, σ) _
  refine ev_iload_n d_67_0 rfl ?_
  by_cases _hx1 : (cx_b_requireNode a0 σ)
  · rw [if_pos _hx1]; exact ev_callsX (As := [.int a0]) (t := []) d_67_1 ml_6_24 rfl rfl rfl rfl rfl (by decide) rfl rfl (ex_b_requireNode hN a0 σ _hx1)
  · rw [if_neg _hx1]
    refine ev_csV (As := [.int a0]) (t := []) (e' := 1) d_67_1 ml_6_24 rfl rfl rfl rfl rfl (by decide) rfl rfl (eo_b_requireNode hN a0 σ _hx1) ?_
    refine ev_iload_n d_67_4 rfl ?_
    refine ev_iconst d_67_5 ci_0 ?_
    refine ev_sipush d_67_6 cs_1023 ?_
    refine ev_csI (As := [.int a1, .int (0 : Int32), .int (1023 : Int32)]) (t := []) (e' := 1) d_67_9 ml_6_46 rfl rfl rfl rfl rfl (by decide) rfl rfl (ev_b_isWithin hN a1 (0 : Int32) (1023 : Int32) σ) ?_
    by_cases _hx12 : (cx_b_require (sp_b_isWithin a1 (0 : Int32) (1023 : Int32) σ) σ)
    · rw [if_pos _hx12]; exact ev_callsX (As := [.int (sp_b_isWithin a1 (0 : Int32) (1023 : Int32) σ)]) (t := []) d_67_12 ml_6_50 rfl rfl rfl rfl rfl (by decide) rfl rfl (ex_b_require hN (sp_b_isWithin a1 (0 : Int32) (1023 : Int32) σ) σ _hx12)
    · rw [if_neg _hx12]
      refine ev_csV (As := [.int (sp_b_isWithin a1 (0 : Int32) (1023 : Int32) σ)]) (t := []) (e' := 2) d_67_12 ml_6_50 rfl rfl rfl rfl rfl (by decide) rfl rfl (eo_b_require hN (sp_b_isWithin a1 (0 : Int32) (1023 : Int32) σ) σ _hx12) ?_
      refine ev_aload_n d_67_15 rfl ?_
      refine ev_iload_n d_67_16 rfl ?_
      by_cases _hx17 : (cx_b_requireNotOff a0 σ)
      · rw [if_pos _hx17]; exact ev_callvX (As := [.int a0]) (t := []) d_67_17 ml_6_60 rfl rfl rfl rfl rfl (by decide) rfl (ltk (by decide) hN) rfl rfl rfl (ex_b_requireNotOff hN a0 σ (vn_of _hx1) _hx17)
      · rw [if_neg _hx17]
        refine ev_cvV (As := [.int a0]) (t := []) (e' := 3) d_67_17 ml_6_60 rfl rfl rfl rfl rfl (by decide) rfl (ltk (by decide) hN) rfl rfl rfl (eo_b_requireNotOff hN a0 σ (vn_of _hx1) _hx17) ?_
        refine ev_aload_n d_67_20 rfl ?_
        refine ev_getf (v := .ref 1) d_67_21 fl_6_11 (ltk (by decide) hN) rfl rfl ?_
        refine ev_iload_n d_67_24 rfl ?_
        refine ev_aaload (i := a0.toNatClampNeg) d_67_25 (ltk (by decide) hN) rfl (vn_of _hx1) rfl ?_
        refine ev_iload_n d_67_26 rfl ?_
        refine ev_putf d_67_27 fl_6_63 (ltn (by decide) (n4_lt (vn_of _hx1)) hN) (shq_2 (n4_lt (vn_of _hx1))) rfl (Or.inl rfl) ?_
        exact ev_vret d_67_30 rfl
def sp_b_disturb (a0 : Int64) (σ : mmS) : mmR :=
if (cx_b_require (sp_w_fits a0 σ) σ) then
  ((.inr "java/lang/IllegalArgumentException", σ) : mmR)
else
  ((.inl none, (mmJ σ 0 1 ((σ.2 0 1) ^^^ a0))) : mmR)
theorem ev_b_disturb (hN : 65 ≤ N) (a0 : Int64) (σ : mmS) : Ev N L xs (73, 0, lv_args 0 [.ref 0, .long a0], [], 0, σ) ((fun r : mmR => r) (sp_b_disturb a0 σ)) := by
  unfold sp_b_disturb
  show Ev N L xs (73, 0, [(0, .ref 0), (1, .long a0)], [], 0, σ) _
  refine ev_lload_n d_73_0 rfl ?_
  refine ev_csI (As := [.long a0]) (t := []) (e' := 0) d_73_1 ml_6_82 rfl rfl rfl rfl rfl (by decide) rfl rfl (ev_w_fits hN a0 σ) ?_
  by_cases _hx4 : (cx_b_require (sp_w_fits a0 σ) σ)
  · rw [if_pos _hx4]; exact ev_callsX (As := [.int (sp_w_fits a0 σ)]) (t := []) d_73_4 ml_6_50 rfl rfl rfl rfl rfl (by decide) rfl rfl (ex_b_require hN (sp_w_fits a0 σ) σ _hx4)
  · rw [if_neg _hx4]
    refine ev_csV (As := [.int (sp_w_fits a0 σ)]) (t := []) (e' := 1) d_73_4 ml_6_50 rfl rfl rfl rfl rfl (by decide) rfl rfl (eo_b_require hN (sp_w_fits a0 σ) σ _hx4) ?_
    refine ev_aload_n d_73_7 rfl ?_
    refine ev_dup d_73_8 rfl ?_
    refine ev_getf (v := .long (σ.2 0 1)) d_73_9 fl_6_88 (ltk (by decide) hN) rfl rfl ?_
    refine ev_lload_n d_73_12 rfl ?_
    refine ev_lxor (v := ((σ.2 0 1) ^^^ a0)) d_73_13 rfl ?_
    refine ev_putl d_73_14 fl_6_88 (ltk (by decide) hN) rfl rfl rfl ?_
    exact ev_vret d_73_17 rfl
def sp_b_lose (a0 : Int32) (σ : mmS) : mmR :=
if (cx_b_require (sp_b_isWithin a0 (0 : Int32) ((1000 : Int32) - (σ.1 0 2)) σ) σ) then
  ((.inr "java/lang/IllegalArgumentException", σ) : mmR)
else
  ((.inl (some (.int ((σ.1 0 2) + a0))), (mmI σ 0 2 ((σ.1 0 2) + a0))) : mmR)
theorem ev_b_lose (hN : 65 ≤ N) (a0 : Int32) (σ : mmS) : Ev N L xs (76, 0, lv_args 0 [.ref 0, .int a0], [], 0, σ) ((fun r : mmR => r) (sp_b_lose a0 σ)) := by
  unfold sp_b_lose
  show Ev N L xs (76, 0, [(0, .ref 0), (1, .int a0)], [], 0, σ) _
  refine ev_iload_n d_76_0 rfl ?_
  refine ev_iconst d_76_1 ci_0 ?_
  refine ev_sipush d_76_2 cs_1000 ?_
  refine ev_aload_n d_76_5 rfl ?_
  refine ev_getf (v := .int (σ.1 0 2)) d_76_6 fl_6_91 (ltk (by decide) hN) rfl rfl ?_
  refine ev_isub (v := ((1000 : Int32) - (σ.1 0 2))) d_76_9 rfl ?_
  refine ev_csI (As := [.int a0, .int (0 : Int32), .int ((1000 : Int32) - (σ.1 0 2))]) (t := []) (e' := 0) d_76_10 ml_6_46 rfl rfl rfl rfl rfl (by decide) rfl rfl (ev_b_isWithin hN a0 (0 : Int32) ((1000 : Int32) - (σ.1 0 2)) σ) ?_
  by_cases _hx13 : (cx_b_require (sp_b_isWithin a0 (0 : Int32) ((1000 : Int32) - (σ.1 0 2)) σ) σ)
  · rw [if_pos _hx13]; exact ev_callsX (As := [.int (sp_b_isWithin a0 (0 : Int32) ((1000 : Int32) - (σ.1 0 2)) σ)]) (t := []) d_76_13 ml_6_50 rfl rfl rfl rfl rfl (by decide) rfl rfl (ex_b_require hN (sp_b_isWithin a0 (0 : Int32) ((1000 : Int32) - (σ.1 0 2)) σ) σ _hx13)
  · rw [if_neg _hx13]
    refine ev_csV (As := [.int (sp_b_isWithin a0 (0 : Int32) ((1000 : Int32) - (σ.1 0 2)) σ)]) (t := []) (e' := 1) d_76_13 ml_6_50 rfl rfl rfl rfl rfl (by decide) rfl rfl (eo_b_require hN (sp_b_isWithin a0 (0 : Int32) ((1000 : Int32) - (σ.1 0 2)) σ) σ _hx13) ?_
    refine ev_aload_n d_76_16 rfl ?_
    refine ev_dup d_76_17 rfl ?_
    refine ev_getf (v := .int (σ.1 0 2)) d_76_18 fl_6_91 (ltk (by decide) hN) rfl rfl ?_
    refine ev_iload_n d_76_21 rfl ?_
    refine ev_iadd (v := ((σ.1 0 2) + a0)) d_76_22 rfl ?_
    refine ev_putf d_76_23 fl_6_91 (ltk (by decide) hN) rfl rfl (Or.inl rfl) ?_
    refine ev_aload_n d_76_26 rfl ?_
    refine ev_getf (v := .int ((σ.1 0 2) + a0)) d_76_27 fl_6_91 (ltk (by decide) hN) rfl rfl ?_
    exact ev_iret d_76_30 rfl
def sp_b_state (a0 : Int32) (σ : mmS) : mmR :=
if (cx_b_requireNode a0 σ) then
  ((.inr "java/lang/IllegalArgumentException", σ) : mmR)
else
  ((.inl (some (.int (σ.1 (10 * a0.toNatClampNeg + 2) 7))), σ) : mmR)
theorem ev_b_state (hN : 65 ≤ N) (a0 : Int32) (σ : mmS) : Ev N L xs (78, 0, lv_args 0 [.ref 0, .int a0], [], 0, σ) ((fun r : mmR => r) (sp_b_state a0 σ)) := by
  unfold sp_b_state
  show Ev N L xs (78, 0, [(0, .ref 0), (1, .int a0)], [], 0, σ) _
  refine ev_iload_n d_78_0 rfl ?_
  by_cases _hx1 : (cx_b_requireNode a0 σ)
  · rw [if_pos _hx1]; exact ev_callsX (As := [.int a0]) (t := []) d_78_1 ml_6_24 rfl rfl rfl rfl rfl (by decide) rfl rfl (ex_b_requireNode hN a0 σ _hx1)
  · rw [if_neg _hx1]
    refine ev_csV (As := [.int a0]) (t := []) (e' := 1) d_78_1 ml_6_24 rfl rfl rfl rfl rfl (by decide) rfl rfl (eo_b_requireNode hN a0 σ _hx1) ?_
    refine ev_aload_n d_78_4 rfl ?_
    refine ev_getf (v := .ref 1) d_78_5 fl_6_11 (ltk (by decide) hN) rfl rfl ?_
    refine ev_iload_n d_78_8 rfl ?_
    refine ev_aaload (i := a0.toNatClampNeg) d_78_9 (ltk (by decide) hN) rfl (vn_of _hx1) rfl ?_
    refine ev_getf (v := .int (σ.1 (10 * a0.toNatClampNeg + 2) 7)) d_78_10 fl_6_42 (ltn (by decide) (n4_lt (vn_of _hx1)) hN) (shq_2 (n4_lt (vn_of _hx1))) rfl ?_
    exact ev_iret d_78_13 rfl
def sp_b_frames (σ : mmS) : Int32 :=
(σ.1 0 3)
theorem ev_b_frames (hN : 65 ≤ N) (σ : mmS) : Ev N L xs (1, 0, lv_args 0 [.ref 0], [], 0, σ) ((mmPI σ) (sp_b_frames σ)) := by
  unfold sp_b_frames
  show Ev N L xs (1, 0, [(0, .ref 0)], [], 0, σ) _
  refine ev_aload_n d_1_0 rfl ?_
  refine ev_getf (v := .int (σ.1 0 3)) d_1_1 fl_6_54 (ltk (by decide) hN) rfl rfl ?_
  exact ev_iret d_1_4 rfl
def sp_b_last (σ : mmS) : mmR :=
if (lg_cmp (σ.2 0 4) (-1 : Int64)) = 0 then
  ((.inr "java/util/NoSuchElementException", σ) : mmR)
else
  ((.inl (some (.long (σ.2 0 4))), σ) : mmR)
theorem ev_b_last (hN : 65 ≤ N) (σ : mmS) : Ev N L xs (89, 0, lv_args 0 [.ref 0], [], 0, σ) ((fun r : mmR => r) (sp_b_last σ)) := by
  unfold sp_b_last
  show Ev N L xs (89, 0, [(0, .ref 0)], [], 0, σ) _
  refine ev_aload_n d_89_0 rfl ?_
  refine ev_getf (v := .long (σ.2 0 4)) d_89_1 fl_6_20 (ltk (by decide) hN) rfl rfl ?_
  refine ev_ldc2 d_89_4 kl_6_18 ?_
  refine ev_lcmp d_89_7 ?_
  refine ev_if_ne (fun r : mmR => r) (tgt := 21) d_89_8 rfl (fun _h8 => ?_) (fun _h8 => ?_)
  · refine ev_aload_n d_89_21 rfl ?_
    refine ev_getf (v := .long (σ.2 0 4)) d_89_22 fl_6_20 (ltk (by decide) hN) rfl rfl ?_
    exact ev_lret d_89_25 rfl
  · exact ev_throw d_89_11 xm_89_11 (by decide) rfl rfl
def sp_b_encode (a0 : Int32) (a1 : Int32) (a2 : Int32) (a3 : Int32) (σ : mmS) : mmR :=
if (cx_b_require (sp_b_isWithin a0 (0 : Int32) (31 : Int32) σ) σ) then
  ((.inr "java/lang/IllegalArgumentException", σ) : mmR)
else
  if (cx_b_require (sp_b_isWithin a1 (0 : Int32) (63 : Int32) σ) σ) then
    ((.inr "java/lang/IllegalArgumentException", σ) : mmR)
  else
    if (cx_b_require (sp_b_isWithin a3 (0 : Int32) (1023 : Int32) σ) σ) then
      ((.inr "java/lang/IllegalArgumentException", σ) : mmR)
    else
      ((.inl (some (.long (sp_w_make a0 a1 a2 a3 σ))), σ) : mmR)
theorem ev_b_encode (hN : 65 ≤ N) (a0 : Int32) (a1 : Int32) (a2 : Int32) (a3 : Int32) (σ : mmS) : Ev N L xs (91, 0, lv_args 0 [.ref 0, .int a0, .int a1, .int a2, .int a3], [], 0, σ) ((fun r : mmR => r) (sp_b_encode a0 a1 a2 a3 σ)) := by
  unfold sp_b_encode
  show Ev N L xs (91, 0, [(0, .ref 0), (1, .int a0), (2, .int a1), (3, .int a2), (4, .int a3)], [], 0, σ) _
  refine ev_iload_n d_91_0 rfl ?_
  refine ev_iconst d_91_1 ci_0 ?_
  refine ev_bipush d_91_2 cb_31 ?_
  refine ev_csI (As := [.int a0, .int (0 : Int32), .int (31 : Int32)]) (t := []) (e' := 0) d_91_4 ml_6_46 rfl rfl rfl rfl rfl (by decide) rfl rfl (ev_b_isWithin hN a0 (0 : Int32) (31 : Int32) σ) ?_
  by_cases _hx7 : (cx_b_require (sp_b_isWithin a0 (0 : Int32) (31 : Int32) σ) σ)
  · rw [if_pos _hx7]; exact ev_callsX (As := [.int (sp_b_isWithin a0 (0 : Int32) (31 : Int32) σ)]) (t := []) d_91_7 ml_6_50 rfl rfl rfl rfl rfl (by decide) rfl rfl (ex_b_require hN (sp_b_isWithin a0 (0 : Int32) (31 : Int32) σ) σ _hx7)
  · rw [if_neg _hx7]
    refine ev_csV (As := [.int (sp_b_isWithin a0 (0 : Int32) (31 : Int32) σ)]) (t := []) (e' := 1) d_91_7 ml_6_50 rfl rfl rfl rfl rfl (by decide) rfl rfl (eo_b_require hN (sp_b_isWithin a0 (0 : Int32) (31 : Int32) σ) σ _hx7) ?_
    refine ev_iload_n d_91_10 rfl ?_
    refine ev_iconst d_91_11 ci_0 ?_
    refine ev_bipush d_91_12 cb_63 ?_
    refine ev_csI (As := [.int a1, .int (0 : Int32), .int (63 : Int32)]) (t := []) (e' := 1) d_91_14 ml_6_46 rfl rfl rfl rfl rfl (by decide) rfl rfl (ev_b_isWithin hN a1 (0 : Int32) (63 : Int32) σ) ?_
    by_cases _hx17 : (cx_b_require (sp_b_isWithin a1 (0 : Int32) (63 : Int32) σ) σ)
    · rw [if_pos _hx17]; exact ev_callsX (As := [.int (sp_b_isWithin a1 (0 : Int32) (63 : Int32) σ)]) (t := []) d_91_17 ml_6_50 rfl rfl rfl rfl rfl (by decide) rfl rfl (ex_b_require hN (sp_b_isWithin a1 (0 : Int32) (63 : Int32) σ) σ _hx17)
    · rw [if_neg _hx17]
      refine ev_csV (As := [.int (sp_b_isWithin a1 (0 : Int32) (63 : Int32) σ)]) (t := []) (e' := 2) d_91_17 ml_6_50 rfl rfl rfl rfl rfl (by decide) rfl rfl (eo_b_require hN (sp_b_isWithin a1 (0 : Int32) (63 : Int32) σ) σ _hx17) ?_
      refine ev_iload d_91_20 rfl ?_
      refine ev_iconst d_91_22 ci_0 ?_
      refine ev_sipush d_91_23 cs_1023 ?_
      refine ev_csI (As := [.int a3, .int (0 : Int32), .int (1023 : Int32)]) (t := []) (e' := 2) d_91_26 ml_6_46 rfl rfl rfl rfl rfl (by decide) rfl rfl (ev_b_isWithin hN a3 (0 : Int32) (1023 : Int32) σ) ?_
      by_cases _hx29 : (cx_b_require (sp_b_isWithin a3 (0 : Int32) (1023 : Int32) σ) σ)
      · rw [if_pos _hx29]; exact ev_callsX (As := [.int (sp_b_isWithin a3 (0 : Int32) (1023 : Int32) σ)]) (t := []) d_91_29 ml_6_50 rfl rfl rfl rfl rfl (by decide) rfl rfl (ex_b_require hN (sp_b_isWithin a3 (0 : Int32) (1023 : Int32) σ) σ _hx29)
      · rw [if_neg _hx29]
        refine ev_csV (As := [.int (sp_b_isWithin a3 (0 : Int32) (1023 : Int32) σ)]) (t := []) (e' := 3) d_91_29 ml_6_50 rfl rfl rfl rfl rfl (by decide) rfl rfl (eo_b_require hN (sp_b_isWithin a3 (0 : Int32) (1023 : Int32) σ) σ _hx29) ?_
        refine ev_iload_n d_91_32 rfl ?_
        refine ev_iload_n d_91_33 rfl ?_
        refine ev_iload_n d_91_34 rfl ?_
        refine ev_iload d_91_35 rfl ?_
        refine ev_csJ (As := [.int a0, .int a1, .int a2, .int a3]) (t := []) (e' := 3) d_91_37 ml_6_150 rfl rfl rfl rfl rfl (by decide) rfl rfl (ev_w_make hN a0 a1 a2 a3 σ) ?_
        exact ev_lret d_91_40 rfl
def sp_b_decode (a0 : Int64) (σ : mmS) : mmR :=
if (sp_w_fits a0 σ) = 0 then
  ((.inr "java/lang/IllegalArgumentException", σ) : mmR)
else
  if (sp_w_isHeadRight a0 σ) = 0 then
    ((.inr "java/lang/IllegalArgumentException", σ) : mmR)
  else
    if (sp_w_isWholeRight a0 σ) = 0 then
      ((.inr "java/lang/IllegalStateException", σ) : mmR)
    else
      if (sp_w_startupIn a0 σ) = 0 then
        ((.inl (some (.int ((((sp_w_idIn a0 σ) + ((32 : Int32) * (sp_w_cycleIn a0 σ))) + (0 : Int32)) + ((4096 : Int32) * (sp_w_valueIn a0 σ))))), σ) : mmR)
      else
        ((.inl (some (.int ((((sp_w_idIn a0 σ) + ((32 : Int32) * (sp_w_cycleIn a0 σ))) + (2048 : Int32)) + ((4096 : Int32) * (sp_w_valueIn a0 σ))))), σ) : mmR)
theorem ev_b_decode (hN : 65 ≤ N) (a0 : Int64) (σ : mmS) : Ev N L xs (93, 0, lv_args 0 [.ref 0, .long a0], [], 0, σ) ((fun r : mmR => r) (sp_b_decode a0 σ)) := by
  unfold sp_b_decode
  show Ev N L xs (93, 0, [(0, .ref 0), (1, .long a0)], [], 0, σ) _
  refine ev_lload_n d_93_0 rfl ?_
  refine ev_csI (As := [.long a0]) (t := []) (e' := 0) d_93_1 ml_6_82 rfl rfl rfl rfl rfl (by decide) rfl rfl (ev_w_fits hN a0 σ) ?_
  refine ev_if_eq (fun r : mmR => r) (tgt := 18) d_93_4 rfl (fun _h4 => ?_) (fun _h4 => ?_)
  · refine ev_iconst d_93_18 ci_0 ?_
    exact ev_callsX (As := [.int (0 : Int32)]) (t := []) d_93_19 ml_6_50 rfl rfl rfl rfl rfl (by decide) rfl rfl (ex_b_require hN 0 σ rfl)
  · refine ev_lload_n d_93_7 rfl ?_
    refine ev_csI (As := [.long a0]) (t := []) (e' := 0) d_93_8 ml_6_154 rfl rfl rfl rfl rfl (by decide) rfl rfl (ev_w_isHeadRight hN a0 σ) ?_
    refine ev_if_eq (fun r : mmR => r) (tgt := 18) d_93_11 rfl (fun _h11 => ?_) (fun _h11 => ?_)
    · refine ev_iconst d_93_18 ci_0 ?_
      exact ev_callsX (As := [.int (0 : Int32)]) (t := []) d_93_19 ml_6_50 rfl rfl rfl rfl rfl (by decide) rfl rfl (ex_b_require hN 0 σ rfl)
    · refine ev_iconst d_93_14 ci_1 ?_
      refine ev_goto (tgt := 19) d_93_15 rfl ?_
      refine ev_csV (As := [.int (1 : Int32)]) (t := []) (e' := 1) d_93_19 ml_6_50 rfl rfl rfl rfl rfl (by decide) rfl rfl (eo_b_require hN 1 σ (show ¬ (1 : Int32) = 0 by decide)) ?_
      refine ev_lload_n d_93_22 rfl ?_
      refine ev_csI (As := [.long a0]) (t := []) (e' := 1) d_93_23 ml_6_157 rfl rfl rfl rfl rfl (by decide) rfl rfl (ev_w_isWholeRight hN a0 σ) ?_
      refine ev_if_ne (fun r : mmR => r) (tgt := 39) d_93_26 rfl (fun _h26 => ?_) (fun _h26 => ?_)
      · refine ev_lload_n d_93_39 rfl ?_
        refine ev_csI (As := [.long a0]) (t := []) (e' := 1) d_93_40 ml_6_162 rfl rfl rfl rfl rfl (by decide) rfl rfl (ev_w_startupIn hN a0 σ) ?_
        refine ev_if_eq (fun r : mmR => r) (tgt := 50) d_93_43 rfl (fun _h43 => ?_) (fun _h43 => ?_)
        · refine ev_iconst d_93_50 ci_0 ?_
          refine ev_istore_n (lv' := [(3, .int (0 : Int32)), (0, .ref 0), (1, .long a0)]) d_93_51 (by decide) rfl ?_
          refine ev_lload_n d_93_52 rfl ?_
          refine ev_csI (As := [.long a0]) (t := []) (e' := 1) d_93_53 ml_6_165 rfl rfl rfl rfl rfl (by decide) rfl rfl (ev_w_idIn hN a0 σ) ?_
          refine ev_bipush d_93_56 cb_32 ?_
          refine ev_lload_n d_93_58 rfl ?_
          refine ev_csI (As := [.long a0]) (t := [.int (32 : Int32), .int (sp_w_idIn a0 σ)]) (e' := 1) d_93_59 ml_6_169 rfl rfl rfl rfl rfl (by decide) rfl rfl (ev_w_cycleIn hN a0 σ) ?_
          refine ev_imul (v := ((32 : Int32) * (sp_w_cycleIn a0 σ))) d_93_62 rfl ?_
          refine ev_iadd (v := ((sp_w_idIn a0 σ) + ((32 : Int32) * (sp_w_cycleIn a0 σ)))) d_93_63 rfl ?_
          refine ev_sipush d_93_64 cs_2048 ?_
          refine ev_iload_n d_93_67 rfl ?_
          refine ev_imul (v := (0 : Int32)) d_93_68 (by decide) ?_
          refine ev_iadd (v := (((sp_w_idIn a0 σ) + ((32 : Int32) * (sp_w_cycleIn a0 σ))) + (0 : Int32))) d_93_69 rfl ?_
          refine ev_sipush d_93_70 cs_4096 ?_
          refine ev_lload_n d_93_73 rfl ?_
          refine ev_csI (As := [.long a0]) (t := [.int (4096 : Int32), .int (((sp_w_idIn a0 σ) + ((32 : Int32) * (sp_w_cycleIn a0 σ))) + (0 : Int32))]) (e' := 1) d_93_74 ml_6_172 rfl rfl rfl rfl rfl (by decide) rfl rfl (ev_w_valueIn hN a0 σ) ?_
          refine ev_imul (v := ((4096 : Int32) * (sp_w_valueIn a0 σ))) d_93_77 rfl ?_
          refine ev_iadd (v := ((((sp_w_idIn a0 σ) + ((32 : Int32) * (sp_w_cycleIn a0 σ))) + (0 : Int32)) + ((4096 : Int32) * (sp_w_valueIn a0 σ)))) d_93_78 rfl ?_
          exact ev_iret d_93_79 rfl
        · refine ev_iconst d_93_46 ci_1 ?_
          refine ev_goto (tgt := 51) d_93_47 rfl ?_
          refine ev_istore_n (lv' := [(3, .int (1 : Int32)), (0, .ref 0), (1, .long a0)]) d_93_51 (by decide) rfl ?_
          refine ev_lload_n d_93_52 rfl ?_
          refine ev_csI (As := [.long a0]) (t := []) (e' := 1) d_93_53 ml_6_165 rfl rfl rfl rfl rfl (by decide) rfl rfl (ev_w_idIn hN a0 σ) ?_
          refine ev_bipush d_93_56 cb_32 ?_
          refine ev_lload_n d_93_58 rfl ?_
          refine ev_csI (As := [.long a0]) (t := [.int (32 : Int32), .int (sp_w_idIn a0 σ)]) (e' := 1) d_93_59 ml_6_169 rfl rfl rfl rfl rfl (by decide) rfl rfl (ev_w_cycleIn hN a0 σ) ?_
          refine ev_imul (v := ((32 : Int32) * (sp_w_cycleIn a0 σ))) d_93_62 rfl ?_
          refine ev_iadd (v := ((sp_w_idIn a0 σ) + ((32 : Int32) * (sp_w_cycleIn a0 σ)))) d_93_63 rfl ?_
          refine ev_sipush d_93_64 cs_2048 ?_
          refine ev_iload_n d_93_67 rfl ?_
          refine ev_imul (v := (2048 : Int32)) d_93_68 (by decide) ?_
          refine ev_iadd (v := (((sp_w_idIn a0 σ) + ((32 : Int32) * (sp_w_cycleIn a0 σ))) + (2048 : Int32))) d_93_69 rfl ?_
          refine ev_sipush d_93_70 cs_4096 ?_
          refine ev_lload_n d_93_73 rfl ?_
          refine ev_csI (As := [.long a0]) (t := [.int (4096 : Int32), .int (((sp_w_idIn a0 σ) + ((32 : Int32) * (sp_w_cycleIn a0 σ))) + (2048 : Int32))]) (e' := 1) d_93_74 ml_6_172 rfl rfl rfl rfl rfl (by decide) rfl rfl (ev_w_valueIn hN a0 σ) ?_
          refine ev_imul (v := ((4096 : Int32) * (sp_w_valueIn a0 σ))) d_93_77 rfl ?_
          refine ev_iadd (v := ((((sp_w_idIn a0 σ) + ((32 : Int32) * (sp_w_cycleIn a0 σ))) + (2048 : Int32)) + ((4096 : Int32) * (sp_w_valueIn a0 σ)))) d_93_78 rfl ?_
          exact ev_iret d_93_79 rfl
      · exact ev_throw d_93_29 xm_93_29 (by decide) rfl rfl
theorem vi_of {a : Int32} {σ : mmS} (h : ¬ sp_b_isWithin a 1 9 σ = 0) : vp_in a 10 := by
  unfold sp_b_isWithin at h
  unfold vp_in
  by_cases h0 : a < 1
  · rw [if_pos h0] at h; exact absurd rfl h
  · rw [if_neg h0] at h
    by_cases h3 : (9 : Int32) < a
    · rw [if_pos h3] at h; exact absurd rfl h
    · rw [Int32.lt_iff_toInt_lt] at h3 h0
      have e3 : (9 : Int32).toInt = 9 := by decide
      have e1 : (1 : Int32).toInt = 1 := by decide
      rw [e3] at h3
      rw [e1] at h0
      rintro (h1 | h1)
      · rw [Int32.lt_iff_toInt_lt] at h1
        have e0 : (0 : Int32).toInt = 0 := by decide
        rw [e0] at h1
        omega
      · have h2 : 10 ≤ a.toInt.toNat := h1
        omega
def sp_b_got (a0 : Int32) (a1 : Int32) (σ : mmS) : mmR :=
if (cx_b_requireNode a0 σ) then
  ((.inr "java/lang/IllegalArgumentException", σ) : mmR)
else
  if (cx_b_require (sp_b_isWithin a1 (1 : Int32) (9 : Int32) σ) σ) then
    ((.inr "java/lang/IllegalArgumentException", σ) : mmR)
  else
    if (σ.1 (10 * a0.toNatClampNeg + 11) a1.toNatClampNeg) = (-1 : Int32) then
      ((.inr "java/util/NoSuchElementException", σ) : mmR)
    else
      ((.inl (some (.int (σ.1 (10 * a0.toNatClampNeg + 11) a1.toNatClampNeg))), σ) : mmR)
theorem ev_b_got (hN : 65 ≤ N) (a0 : Int32) (a1 : Int32) (σ : mmS) : Ev N L xs (87, 0, lv_args 0 [.ref 0, .int a0, .int a1], [], 0, σ) ((fun r : mmR => r) (sp_b_got a0 a1 σ)) := by
  unfold sp_b_got
  show Ev N L xs (87, 0, [(0, .ref 0), (1, .int a0), (2, .int a1)], [], 0, σ) _
  refine ev_iload_n d_87_0 rfl ?_
  by_cases _hx1 : (cx_b_requireNode a0 σ)
  · rw [if_pos _hx1]; exact ev_callsX (As := [.int a0]) (t := []) d_87_1 ml_6_24 rfl rfl rfl rfl rfl (by decide) rfl rfl (ex_b_requireNode hN a0 σ _hx1)
  · rw [if_neg _hx1]
    refine ev_csV (As := [.int a0]) (t := []) (e' := 1) d_87_1 ml_6_24 rfl rfl rfl rfl rfl (by decide) rfl rfl (eo_b_requireNode hN a0 σ _hx1) ?_
    refine ev_iload_n d_87_4 rfl ?_
    refine ev_iconst d_87_5 ci_1 ?_
    refine ev_bipush d_87_6 cb_9 ?_
    refine ev_csI (As := [.int a1, .int (1 : Int32), .int (9 : Int32)]) (t := []) (e' := 1) d_87_8 ml_6_46 rfl rfl rfl rfl rfl (by decide) rfl rfl (ev_b_isWithin hN a1 (1 : Int32) (9 : Int32) σ) ?_
    by_cases _hx11 : (cx_b_require (sp_b_isWithin a1 (1 : Int32) (9 : Int32) σ) σ)
    · rw [if_pos _hx11]; exact ev_callsX (As := [.int (sp_b_isWithin a1 (1 : Int32) (9 : Int32) σ)]) (t := []) d_87_11 ml_6_50 rfl rfl rfl rfl rfl (by decide) rfl rfl (ex_b_require hN (sp_b_isWithin a1 (1 : Int32) (9 : Int32) σ) σ _hx11)
    · rw [if_neg _hx11]
      refine ev_csV (As := [.int (sp_b_isWithin a1 (1 : Int32) (9 : Int32) σ)]) (t := []) (e' := 2) d_87_11 ml_6_50 rfl rfl rfl rfl rfl (by decide) rfl rfl (eo_b_require hN (sp_b_isWithin a1 (1 : Int32) (9 : Int32) σ) σ _hx11) ?_
      refine ev_aload_n d_87_14 rfl ?_
      refine ev_getf (v := .ref 1) d_87_15 fl_6_11 (ltk (by decide) hN) rfl rfl ?_
      refine ev_iload_n d_87_18 rfl ?_
      refine ev_aaload (i := a0.toNatClampNeg) d_87_19 (ltk (by decide) hN) rfl (vn_of _hx1) rfl ?_
      refine ev_getf (v := .ref (10 * a0.toNatClampNeg + 11)) d_87_20 fl_6_142 (ltn (by decide) (n4_lt (vn_of _hx1)) hN) (shq_2 (n4_lt (vn_of _hx1))) rfl ?_
      refine ev_iload_n d_87_23 rfl ?_
      refine ev_iald (i := a1.toNatClampNeg) d_87_24 (ltn (by decide) (n4_lt (vn_of _hx1)) hN) (shq_11 (n4_lt (vn_of _hx1))) (vi_of _hx11) rfl ?_
      refine ev_istore_n (lv' := [(3, .int (σ.1 (10 * a0.toNatClampNeg + 11) a1.toNatClampNeg)), (0, .ref 0), (1, .int a0), (2, .int a1)]) d_87_25 (by decide) rfl ?_
      refine ev_iload_n d_87_26 rfl ?_
      refine ev_iconst d_87_27 ci_m1 ?_
      refine ev_icmp_ne (fun r : mmR => r) (tgt := 41) d_87_28 rfl (fun _h28 => ?_) (fun _h28 => ?_)
      · refine ev_iload_n d_87_41 rfl ?_
        exact ev_iret d_87_42 rfl
      · exact ev_throw d_87_31 xm_87_31 (by decide) rfl rfl
def sp_b_deviation (a0 : Int32) (a1 : Int32) (a2 : Int32) (σ : mmS) : mmR :=
if (cx_b_requireNode a0 σ) then
  ((.inr "java/lang/IllegalArgumentException", σ) : mmR)
else
  if (cx_b_requireNode a1 σ) then
    ((.inr "java/lang/IllegalArgumentException", σ) : mmR)
  else
    if a0 = a1 then
      ((.inr "java/util/NoSuchElementException", σ) : mmR)
    else
      if (sp_d_has a0.toNatClampNeg a1 a2 σ) = 0 then
        ((.inr "java/util/NoSuchElementException", σ) : mmR)
      else
        ((.inl (some (.int (sp_d_of a0.toNatClampNeg a1 a2 σ))), σ) : mmR)
theorem ev_b_deviation (hN : 65 ≤ N) (a0 : Int32) (a1 : Int32) (a2 : Int32) (σ : mmS) : Ev N L xs (83, 0, lv_args 0 [.ref 0, .int a0, .int a1, .int a2], [], 0, σ) ((fun r : mmR => r) (sp_b_deviation a0 a1 a2 σ)) := by
  unfold sp_b_deviation
  show Ev N L xs (83, 0, [(0, .ref 0), (1, .int a0), (2, .int a1), (3, .int a2)], [], 0, σ) _
  refine ev_iload_n d_83_0 rfl ?_
  by_cases _hx1 : (cx_b_requireNode a0 σ)
  · rw [if_pos _hx1]; exact ev_callsX (As := [.int a0]) (t := []) d_83_1 ml_6_24 rfl rfl rfl rfl rfl (by decide) rfl rfl (ex_b_requireNode hN a0 σ _hx1)
  · rw [if_neg _hx1]
    refine ev_csV (As := [.int a0]) (t := []) (e' := 1) d_83_1 ml_6_24 rfl rfl rfl rfl rfl (by decide) rfl rfl (eo_b_requireNode hN a0 σ _hx1) ?_
    refine ev_iload_n d_83_4 rfl ?_
    by_cases _hx5 : (cx_b_requireNode a1 σ)
    · rw [if_pos _hx5]; exact ev_callsX (As := [.int a1]) (t := []) d_83_5 ml_6_24 rfl rfl rfl rfl rfl (by decide) rfl rfl (ex_b_requireNode hN a1 σ _hx5)
    · rw [if_neg _hx5]
      refine ev_csV (As := [.int a1]) (t := []) (e' := 2) d_83_5 ml_6_24 rfl rfl rfl rfl rfl (by decide) rfl rfl (eo_b_requireNode hN a1 σ _hx5) ?_
      refine ev_aload_n d_83_8 rfl ?_
      refine ev_getf (v := .ref 1) d_83_9 fl_6_11 (ltk (by decide) hN) rfl rfl ?_
      refine ev_iload_n d_83_12 rfl ?_
      refine ev_aaload (i := a0.toNatClampNeg) d_83_13 (ltk (by decide) hN) rfl (vn_of _hx1) rfl ?_
      refine ev_getf (v := .ref (10 * a0.toNatClampNeg + 5)) d_83_14 fl_6_123 (ltn (by decide) (n4_lt (vn_of _hx1)) hN) (shq_2 (n4_lt (vn_of _hx1))) rfl ?_
      refine ev_astore (lv' := [(4, .ref (10 * a0.toNatClampNeg + 5)), (0, .ref 0), (1, .int a0), (2, .int a1), (3, .int a2)]) d_83_17 (by decide) rfl ?_
      refine ev_iload_n d_83_19 rfl ?_
      refine ev_iload_n d_83_20 rfl ?_
      refine ev_icmp_eq (fun r : mmR => r) (tgt := 34) d_83_21 rfl (fun _h21 => ?_) (fun _h21 => ?_)
      · exact ev_throw d_83_34 xm_83_34 (by decide) rfl rfl
      · refine ev_aload d_83_24 rfl ?_
        refine ev_iload_n d_83_26 rfl ?_
        refine ev_iload_n d_83_27 rfl ?_
        refine ev_cvI (As := [.int a1, .int a2]) (t := []) (e' := 2) d_83_28 ml_6_127 rfl rfl rfl rfl rfl (by decide) rfl (ltn (by decide) (n4_lt (vn_of _hx1)) hN) (shq_5 (n4_lt (vn_of _hx1))) rfl rfl (ev_d_has hN a0.toNatClampNeg a1 a2 σ (n4_lt (vn_of _hx1)) (vn_of _hx5)) ?_
        refine ev_if_ne (fun r : mmR => r) (tgt := 44) d_83_31 rfl (fun _h31 => ?_) (fun _h31 => ?_)
        · refine ev_aload d_83_44 rfl ?_
          refine ev_iload_n d_83_46 rfl ?_
          refine ev_iload_n d_83_47 rfl ?_
          refine ev_cvI (As := [.int a1, .int a2]) (t := []) (e' := 2) d_83_48 ml_6_138 rfl rfl rfl rfl rfl (by decide) rfl (ltn (by decide) (n4_lt (vn_of _hx1)) hN) (shq_5 (n4_lt (vn_of _hx1))) rfl rfl (ev_d_of hN a0.toNatClampNeg a1 a2 σ (n4_lt (vn_of _hx1)) (vn_of _hx5)) ?_
          exact ev_iret d_83_51 rfl
        · exact ev_throw d_83_34 xm_83_34 (by decide) rfl rfl
def sp_b_post (a0 : Int32) (a1 : Int32) (a2 : Int32) (a3 : Int32) (a4 : Int32) (σ : mmS) : mmR :=
if (cx_b_requireNode a0 σ) then
  ((.inr "java/lang/IllegalArgumentException", σ) : mmR)
else
  if (cx_b_require (sp_b_isWithin a1 (5 : Int32) (9 : Int32) σ) σ) then
    ((.inr "java/lang/IllegalArgumentException", σ) : mmR)
  else
    if (cx_b_require (sp_b_isWithin a2 (0 : Int32) (1023 : Int32) σ) σ) then
      ((.inr "java/lang/IllegalArgumentException", σ) : mmR)
    else
      if a4 = (1 : Int32) then
        if (cx_b_require (sp_b_isWithin a3 (0 : Int32) (a4 - (1 : Int32)) σ) σ) then
          ((.inr "java/lang/IllegalArgumentException", σ) : mmR)
        else
          if (cx_b_requireNotOff a0 σ) then
            ((.inr "java/lang/IllegalStateException", σ) : mmR)
          else
            if (σ.1 (10 * a0.toNatClampNeg + 10) 0) = 0 then
              ((.inl none, (sp_g_put a0.toNatClampNeg a1 a2 a3 a4 σ)) : mmR)
            else
              ((.inr "java/lang/IllegalStateException", σ) : mmR)
      else
        if a4 = (2 : Int32) then
          if (cx_b_require (sp_b_isWithin a3 (0 : Int32) (a4 - (1 : Int32)) σ) σ) then
            ((.inr "java/lang/IllegalArgumentException", σ) : mmR)
          else
            if (cx_b_requireNotOff a0 σ) then
              ((.inr "java/lang/IllegalStateException", σ) : mmR)
            else
              if (σ.1 (10 * a0.toNatClampNeg + 10) 0) = 0 then
                ((.inl none, (sp_g_put a0.toNatClampNeg a1 a2 a3 a4 σ)) : mmR)
              else
                ((.inr "java/lang/IllegalStateException", σ) : mmR)
        else
          if a4 = (4 : Int32) then
            if (cx_b_require (sp_b_isWithin a3 (0 : Int32) (a4 - (1 : Int32)) σ) σ) then
              ((.inr "java/lang/IllegalArgumentException", σ) : mmR)
            else
              if (cx_b_requireNotOff a0 σ) then
                ((.inr "java/lang/IllegalStateException", σ) : mmR)
              else
                if (σ.1 (10 * a0.toNatClampNeg + 10) 0) = 0 then
                  ((.inl none, (sp_g_put a0.toNatClampNeg a1 a2 a3 a4 σ)) : mmR)
                else
                  ((.inr "java/lang/IllegalStateException", σ) : mmR)
          else
            ((.inr "java/lang/IllegalArgumentException", σ) : mmR)
theorem ev_b_post (hN : 65 ≤ N) (a0 : Int32) (a1 : Int32) (a2 : Int32) (a3 : Int32) (a4 : Int32) (σ : mmS) : Ev N L xs (70, 0, lv_args 0 [.ref 0, .int a0, .int a1, .int a2, .int a3, .int a4], [], 0, σ) ((fun r : mmR => r) (sp_b_post a0 a1 a2 a3 a4 σ)) := by
  unfold sp_b_post
  show Ev N L xs (70, 0, [(0, .ref 0), (1, .int a0), (2, .int a1), (3, .int a2), (4, .int a3), (5, .int a4)], [], 0, σ) _
  refine ev_iload_n d_70_0 rfl ?_
  by_cases _hx1 : (cx_b_requireNode a0 σ)
  · rw [if_pos _hx1]; exact ev_callsX (As := [.int a0]) (t := []) d_70_1 ml_6_24 rfl rfl rfl rfl rfl (by decide) rfl rfl (ex_b_requireNode hN a0 σ _hx1)
  · rw [if_neg _hx1]
    refine ev_csV (As := [.int a0]) (t := []) (e' := 1) d_70_1 ml_6_24 rfl rfl rfl rfl rfl (by decide) rfl rfl (eo_b_requireNode hN a0 σ _hx1) ?_
    refine ev_iload_n d_70_4 rfl ?_
    refine ev_iconst d_70_5 ci_5 ?_
    refine ev_bipush d_70_6 cb_9 ?_
    refine ev_csI (As := [.int a1, .int (5 : Int32), .int (9 : Int32)]) (t := []) (e' := 1) d_70_8 ml_6_46 rfl rfl rfl rfl rfl (by decide) rfl rfl (ev_b_isWithin hN a1 (5 : Int32) (9 : Int32) σ) ?_
    by_cases _hx11 : (cx_b_require (sp_b_isWithin a1 (5 : Int32) (9 : Int32) σ) σ)
    · rw [if_pos _hx11]; exact ev_callsX (As := [.int (sp_b_isWithin a1 (5 : Int32) (9 : Int32) σ)]) (t := []) d_70_11 ml_6_50 rfl rfl rfl rfl rfl (by decide) rfl rfl (ex_b_require hN (sp_b_isWithin a1 (5 : Int32) (9 : Int32) σ) σ _hx11)
    · rw [if_neg _hx11]
      refine ev_csV (As := [.int (sp_b_isWithin a1 (5 : Int32) (9 : Int32) σ)]) (t := []) (e' := 2) d_70_11 ml_6_50 rfl rfl rfl rfl rfl (by decide) rfl rfl (eo_b_require hN (sp_b_isWithin a1 (5 : Int32) (9 : Int32) σ) σ _hx11) ?_
      refine ev_iload_n d_70_14 rfl ?_
      refine ev_iconst d_70_15 ci_0 ?_
      refine ev_sipush d_70_16 cs_1023 ?_
      refine ev_csI (As := [.int a2, .int (0 : Int32), .int (1023 : Int32)]) (t := []) (e' := 2) d_70_19 ml_6_46 rfl rfl rfl rfl rfl (by decide) rfl rfl (ev_b_isWithin hN a2 (0 : Int32) (1023 : Int32) σ) ?_
      by_cases _hx22 : (cx_b_require (sp_b_isWithin a2 (0 : Int32) (1023 : Int32) σ) σ)
      · rw [if_pos _hx22]; exact ev_callsX (As := [.int (sp_b_isWithin a2 (0 : Int32) (1023 : Int32) σ)]) (t := []) d_70_22 ml_6_50 rfl rfl rfl rfl rfl (by decide) rfl rfl (ex_b_require hN (sp_b_isWithin a2 (0 : Int32) (1023 : Int32) σ) σ _hx22)
      · rw [if_neg _hx22]
        refine ev_csV (As := [.int (sp_b_isWithin a2 (0 : Int32) (1023 : Int32) σ)]) (t := []) (e' := 3) d_70_22 ml_6_50 rfl rfl rfl rfl rfl (by decide) rfl rfl (eo_b_require hN (sp_b_isWithin a2 (0 : Int32) (1023 : Int32) σ) σ _hx22) ?_
        refine ev_iload d_70_25 rfl ?_
        refine ev_iconst d_70_27 ci_1 ?_
        refine ev_icmp_eq (fun r : mmR => r) (tgt := 43) d_70_28 rfl (fun _h28 => ?_) (fun _h28 => ?_)
        · refine ev_iconst d_70_43 ci_1 ?_
          refine ev_goto (tgt := 48) d_70_44 rfl ?_
          refine ev_csV (As := [.int (1 : Int32)]) (t := []) (e' := 4) d_70_48 ml_6_50 rfl rfl rfl rfl rfl (by decide) rfl rfl (eo_b_require hN 1 σ (show ¬ (1 : Int32) = 0 by decide)) ?_
          refine ev_iload d_70_51 rfl ?_
          refine ev_iconst d_70_53 ci_0 ?_
          refine ev_iload d_70_54 rfl ?_
          refine ev_iconst d_70_56 ci_1 ?_
          refine ev_isub (v := (a4 - (1 : Int32))) d_70_57 rfl ?_
          refine ev_csI (As := [.int a3, .int (0 : Int32), .int (a4 - (1 : Int32))]) (t := []) (e' := 4) d_70_58 ml_6_46 rfl rfl rfl rfl rfl (by decide) rfl rfl (ev_b_isWithin hN a3 (0 : Int32) (a4 - (1 : Int32)) σ) ?_
          by_cases _hx61 : (cx_b_require (sp_b_isWithin a3 (0 : Int32) (a4 - (1 : Int32)) σ) σ)
          · rw [if_pos _hx61]; exact ev_callsX (As := [.int (sp_b_isWithin a3 (0 : Int32) (a4 - (1 : Int32)) σ)]) (t := []) d_70_61 ml_6_50 rfl rfl rfl rfl rfl (by decide) rfl rfl (ex_b_require hN (sp_b_isWithin a3 (0 : Int32) (a4 - (1 : Int32)) σ) σ _hx61)
          · rw [if_neg _hx61]
            refine ev_csV (As := [.int (sp_b_isWithin a3 (0 : Int32) (a4 - (1 : Int32)) σ)]) (t := []) (e' := 5) d_70_61 ml_6_50 rfl rfl rfl rfl rfl (by decide) rfl rfl (eo_b_require hN (sp_b_isWithin a3 (0 : Int32) (a4 - (1 : Int32)) σ) σ _hx61) ?_
            refine ev_aload_n d_70_64 rfl ?_
            refine ev_iload_n d_70_65 rfl ?_
            by_cases _hx66 : (cx_b_requireNotOff a0 σ)
            · rw [if_pos _hx66]; exact ev_callvX (As := [.int a0]) (t := []) d_70_66 ml_6_60 rfl rfl rfl rfl rfl (by decide) rfl (ltk (by decide) hN) rfl rfl rfl (ex_b_requireNotOff hN a0 σ (vn_of _hx1) _hx66)
            · rw [if_neg _hx66]
              refine ev_cvV (As := [.int a0]) (t := []) (e' := 6) d_70_66 ml_6_60 rfl rfl rfl rfl rfl (by decide) rfl (ltk (by decide) hN) rfl rfl rfl (eo_b_requireNotOff hN a0 σ (vn_of _hx1) _hx66) ?_
              refine ev_aload_n d_70_69 rfl ?_
              refine ev_getf (v := .ref 1) d_70_70 fl_6_11 (ltk (by decide) hN) rfl rfl ?_
              refine ev_iload_n d_70_73 rfl ?_
              refine ev_aaload (i := a0.toNatClampNeg) d_70_74 (ltk (by decide) hN) rfl (vn_of _hx1) rfl ?_
              refine ev_getf (v := .ref (10 * a0.toNatClampNeg + 10)) d_70_75 fl_6_66 (ltn (by decide) (n4_lt (vn_of _hx1)) hN) (shq_2 (n4_lt (vn_of _hx1))) rfl ?_
              refine ev_astore (lv' := [(6, .ref (10 * a0.toNatClampNeg + 10)), (0, .ref 0), (1, .int a0), (2, .int a1), (3, .int a2), (4, .int a3), (5, .int a4)]) d_70_78 (by decide) rfl ?_
              refine ev_aload d_70_80 rfl ?_
              refine ev_getf (v := .int (σ.1 (10 * a0.toNatClampNeg + 10) 0)) d_70_82 fl_6_70 (ltn (by decide) (n4_lt (vn_of _hx1)) hN) (shq_10 (n4_lt (vn_of _hx1))) rfl ?_
              refine ev_if_eq (fun r : mmR => r) (tgt := 98) d_70_85 rfl (fun _h85 => ?_) (fun _h85 => ?_)
              · refine ev_aload d_70_98 rfl ?_
                refine ev_iload_n d_70_100 rfl ?_
                refine ev_iload_n d_70_101 rfl ?_
                refine ev_iload d_70_102 rfl ?_
                refine ev_iload d_70_104 rfl ?_
                refine ev_cvV (As := [.int a1, .int a2, .int a3, .int a4]) (t := []) (e' := 6) d_70_106 ml_6_78 rfl rfl rfl rfl rfl (by decide) rfl (ltn (by decide) (n4_lt (vn_of _hx1)) hN) (shq_10 (n4_lt (vn_of _hx1))) rfl rfl (ev_g_put hN a0.toNatClampNeg a1 a2 a3 a4 σ (n4_lt (vn_of _hx1))) ?_
                exact ev_vret d_70_109 rfl
              · exact ev_throw d_70_88 xm_70_88 (by decide) rfl rfl
        · refine ev_iload d_70_31 rfl ?_
          refine ev_iconst d_70_33 ci_2 ?_
          refine ev_icmp_eq (fun r : mmR => r) (tgt := 43) d_70_34 rfl (fun _h34 => ?_) (fun _h34 => ?_)
          · refine ev_iconst d_70_43 ci_1 ?_
            refine ev_goto (tgt := 48) d_70_44 rfl ?_
            refine ev_csV (As := [.int (1 : Int32)]) (t := []) (e' := 4) d_70_48 ml_6_50 rfl rfl rfl rfl rfl (by decide) rfl rfl (eo_b_require hN 1 σ (show ¬ (1 : Int32) = 0 by decide)) ?_
            refine ev_iload d_70_51 rfl ?_
            refine ev_iconst d_70_53 ci_0 ?_
            refine ev_iload d_70_54 rfl ?_
            refine ev_iconst d_70_56 ci_1 ?_
            refine ev_isub (v := (a4 - (1 : Int32))) d_70_57 rfl ?_
            refine ev_csI (As := [.int a3, .int (0 : Int32), .int (a4 - (1 : Int32))]) (t := []) (e' := 4) d_70_58 ml_6_46 rfl rfl rfl rfl rfl (by decide) rfl rfl (ev_b_isWithin hN a3 (0 : Int32) (a4 - (1 : Int32)) σ) ?_
            by_cases _hx61 : (cx_b_require (sp_b_isWithin a3 (0 : Int32) (a4 - (1 : Int32)) σ) σ)
            · rw [if_pos _hx61]; exact ev_callsX (As := [.int (sp_b_isWithin a3 (0 : Int32) (a4 - (1 : Int32)) σ)]) (t := []) d_70_61 ml_6_50 rfl rfl rfl rfl rfl (by decide) rfl rfl (ex_b_require hN (sp_b_isWithin a3 (0 : Int32) (a4 - (1 : Int32)) σ) σ _hx61)
            · rw [if_neg _hx61]
              refine ev_csV (As := [.int (sp_b_isWithin a3 (0 : Int32) (a4 - (1 : Int32)) σ)]) (t := []) (e' := 5) d_70_61 ml_6_50 rfl rfl rfl rfl rfl (by decide) rfl rfl (eo_b_require hN (sp_b_isWithin a3 (0 : Int32) (a4 - (1 : Int32)) σ) σ _hx61) ?_
              refine ev_aload_n d_70_64 rfl ?_
              refine ev_iload_n d_70_65 rfl ?_
              by_cases _hx66 : (cx_b_requireNotOff a0 σ)
              · rw [if_pos _hx66]; exact ev_callvX (As := [.int a0]) (t := []) d_70_66 ml_6_60 rfl rfl rfl rfl rfl (by decide) rfl (ltk (by decide) hN) rfl rfl rfl (ex_b_requireNotOff hN a0 σ (vn_of _hx1) _hx66)
              · rw [if_neg _hx66]
                refine ev_cvV (As := [.int a0]) (t := []) (e' := 6) d_70_66 ml_6_60 rfl rfl rfl rfl rfl (by decide) rfl (ltk (by decide) hN) rfl rfl rfl (eo_b_requireNotOff hN a0 σ (vn_of _hx1) _hx66) ?_
                refine ev_aload_n d_70_69 rfl ?_
                refine ev_getf (v := .ref 1) d_70_70 fl_6_11 (ltk (by decide) hN) rfl rfl ?_
                refine ev_iload_n d_70_73 rfl ?_
                refine ev_aaload (i := a0.toNatClampNeg) d_70_74 (ltk (by decide) hN) rfl (vn_of _hx1) rfl ?_
                refine ev_getf (v := .ref (10 * a0.toNatClampNeg + 10)) d_70_75 fl_6_66 (ltn (by decide) (n4_lt (vn_of _hx1)) hN) (shq_2 (n4_lt (vn_of _hx1))) rfl ?_
                refine ev_astore (lv' := [(6, .ref (10 * a0.toNatClampNeg + 10)), (0, .ref 0), (1, .int a0), (2, .int a1), (3, .int a2), (4, .int a3), (5, .int a4)]) d_70_78 (by decide) rfl ?_
                refine ev_aload d_70_80 rfl ?_
                refine ev_getf (v := .int (σ.1 (10 * a0.toNatClampNeg + 10) 0)) d_70_82 fl_6_70 (ltn (by decide) (n4_lt (vn_of _hx1)) hN) (shq_10 (n4_lt (vn_of _hx1))) rfl ?_
                refine ev_if_eq (fun r : mmR => r) (tgt := 98) d_70_85 rfl (fun _h85 => ?_) (fun _h85 => ?_)
                · refine ev_aload d_70_98 rfl ?_
                  refine ev_iload_n d_70_100 rfl ?_
                  refine ev_iload_n d_70_101 rfl ?_
                  refine ev_iload d_70_102 rfl ?_
                  refine ev_iload d_70_104 rfl ?_
                  refine ev_cvV (As := [.int a1, .int a2, .int a3, .int a4]) (t := []) (e' := 6) d_70_106 ml_6_78 rfl rfl rfl rfl rfl (by decide) rfl (ltn (by decide) (n4_lt (vn_of _hx1)) hN) (shq_10 (n4_lt (vn_of _hx1))) rfl rfl (ev_g_put hN a0.toNatClampNeg a1 a2 a3 a4 σ (n4_lt (vn_of _hx1))) ?_
                  exact ev_vret d_70_109 rfl
                · exact ev_throw d_70_88 xm_70_88 (by decide) rfl rfl
          · refine ev_iload d_70_37 rfl ?_
            refine ev_iconst d_70_39 ci_4 ?_
            refine ev_icmp_ne (fun r : mmR => r) (tgt := 47) d_70_40 rfl (fun _h40 => ?_) (fun _h40 => ?_)
            · refine ev_iconst d_70_47 ci_0 ?_
              exact ev_callsX (As := [.int (0 : Int32)]) (t := []) d_70_48 ml_6_50 rfl rfl rfl rfl rfl (by decide) rfl rfl (ex_b_require hN 0 σ rfl)
            · refine ev_iconst d_70_43 ci_1 ?_
              refine ev_goto (tgt := 48) d_70_44 rfl ?_
              refine ev_csV (As := [.int (1 : Int32)]) (t := []) (e' := 4) d_70_48 ml_6_50 rfl rfl rfl rfl rfl (by decide) rfl rfl (eo_b_require hN 1 σ (show ¬ (1 : Int32) = 0 by decide)) ?_
              refine ev_iload d_70_51 rfl ?_
              refine ev_iconst d_70_53 ci_0 ?_
              refine ev_iload d_70_54 rfl ?_
              refine ev_iconst d_70_56 ci_1 ?_
              refine ev_isub (v := (a4 - (1 : Int32))) d_70_57 rfl ?_
              refine ev_csI (As := [.int a3, .int (0 : Int32), .int (a4 - (1 : Int32))]) (t := []) (e' := 4) d_70_58 ml_6_46 rfl rfl rfl rfl rfl (by decide) rfl rfl (ev_b_isWithin hN a3 (0 : Int32) (a4 - (1 : Int32)) σ) ?_
              by_cases _hx61 : (cx_b_require (sp_b_isWithin a3 (0 : Int32) (a4 - (1 : Int32)) σ) σ)
              · rw [if_pos _hx61]; exact ev_callsX (As := [.int (sp_b_isWithin a3 (0 : Int32) (a4 - (1 : Int32)) σ)]) (t := []) d_70_61 ml_6_50 rfl rfl rfl rfl rfl (by decide) rfl rfl (ex_b_require hN (sp_b_isWithin a3 (0 : Int32) (a4 - (1 : Int32)) σ) σ _hx61)
              · rw [if_neg _hx61]
                refine ev_csV (As := [.int (sp_b_isWithin a3 (0 : Int32) (a4 - (1 : Int32)) σ)]) (t := []) (e' := 5) d_70_61 ml_6_50 rfl rfl rfl rfl rfl (by decide) rfl rfl (eo_b_require hN (sp_b_isWithin a3 (0 : Int32) (a4 - (1 : Int32)) σ) σ _hx61) ?_
                refine ev_aload_n d_70_64 rfl ?_
                refine ev_iload_n d_70_65 rfl ?_
                by_cases _hx66 : (cx_b_requireNotOff a0 σ)
                · rw [if_pos _hx66]; exact ev_callvX (As := [.int a0]) (t := []) d_70_66 ml_6_60 rfl rfl rfl rfl rfl (by decide) rfl (ltk (by decide) hN) rfl rfl rfl (ex_b_requireNotOff hN a0 σ (vn_of _hx1) _hx66)
                · rw [if_neg _hx66]
                  refine ev_cvV (As := [.int a0]) (t := []) (e' := 6) d_70_66 ml_6_60 rfl rfl rfl rfl rfl (by decide) rfl (ltk (by decide) hN) rfl rfl rfl (eo_b_requireNotOff hN a0 σ (vn_of _hx1) _hx66) ?_
                  refine ev_aload_n d_70_69 rfl ?_
                  refine ev_getf (v := .ref 1) d_70_70 fl_6_11 (ltk (by decide) hN) rfl rfl ?_
                  refine ev_iload_n d_70_73 rfl ?_
                  refine ev_aaload (i := a0.toNatClampNeg) d_70_74 (ltk (by decide) hN) rfl (vn_of _hx1) rfl ?_
                  refine ev_getf (v := .ref (10 * a0.toNatClampNeg + 10)) d_70_75 fl_6_66 (ltn (by decide) (n4_lt (vn_of _hx1)) hN) (shq_2 (n4_lt (vn_of _hx1))) rfl ?_
                  refine ev_astore (lv' := [(6, .ref (10 * a0.toNatClampNeg + 10)), (0, .ref 0), (1, .int a0), (2, .int a1), (3, .int a2), (4, .int a3), (5, .int a4)]) d_70_78 (by decide) rfl ?_
                  refine ev_aload d_70_80 rfl ?_
                  refine ev_getf (v := .int (σ.1 (10 * a0.toNatClampNeg + 10) 0)) d_70_82 fl_6_70 (ltn (by decide) (n4_lt (vn_of _hx1)) hN) (shq_10 (n4_lt (vn_of _hx1))) rfl ?_
                  refine ev_if_eq (fun r : mmR => r) (tgt := 98) d_70_85 rfl (fun _h85 => ?_) (fun _h85 => ?_)
                  · refine ev_aload d_70_98 rfl ?_
                    refine ev_iload_n d_70_100 rfl ?_
                    refine ev_iload_n d_70_101 rfl ?_
                    refine ev_iload d_70_102 rfl ?_
                    refine ev_iload d_70_104 rfl ?_
                    refine ev_cvV (As := [.int a1, .int a2, .int a3, .int a4]) (t := []) (e' := 6) d_70_106 ml_6_78 rfl rfl rfl rfl rfl (by decide) rfl (ltn (by decide) (n4_lt (vn_of _hx1)) hN) (shq_10 (n4_lt (vn_of _hx1))) rfl rfl (ev_g_put hN a0.toNatClampNeg a1 a2 a3 a4 σ (n4_lt (vn_of _hx1))) ?_
                    exact ev_vret d_70_109 rfl
                  · exact ev_throw d_70_88 xm_70_88 (by decide) rfl rfl
end SP
