section SP
variable {N L : Nat} {xs : Nat → Int32}
def sp_b_isWithin (a0 : Int32) (a1 : Int32) (a2 : Int32) (σ : mmS) : Int32 :=
if a0 < a1 then
  (0 : Int32)
else
  if a2 < a0 then
    (0 : Int32)
  else
    (1 : Int32)
theorem ev_b_isWithin (hN : 65 ≤ N) (a0 : Int32) (a1 : Int32) (a2 : Int32) (σ : mmS) : Ev N L xs (6, 0, lv_args 0 [.int a0, .int a1, .int a2], [], 0, σ) ((mmPI σ) (sp_b_isWithin a0 a1 a2 σ)) := by
  unfold sp_b_isWithin
  show Ev N L xs (6, 0, [(0, .int a0), (1, .int a1), (2, .int a2)], [], 0, σ) _
  refine ev_iload_n d_6_0 rfl ?_
  refine ev_iload_n d_6_1 rfl ?_
  refine ev_icmp_lt (mmPI σ) (tgt := 14) d_6_2 rfl (fun _h2 => ?_) (fun _h2 => ?_)
  · refine ev_iconst d_6_14 ci_0 ?_
    exact ev_zret d_6_15 rfl (Or.inl rfl)
  · refine ev_iload_n d_6_5 rfl ?_
    refine ev_iload_n d_6_6 rfl ?_
    refine ev_icmp_gt (mmPI σ) (tgt := 14) d_6_7 rfl (fun _h7 => ?_) (fun _h7 => ?_)
    · refine ev_iconst d_6_14 ci_0 ?_
      exact ev_zret d_6_15 rfl (Or.inl rfl)
    · refine ev_iconst d_6_10 ci_1 ?_
      refine ev_goto (tgt := 15) d_6_11 rfl ?_
      exact ev_zret d_6_15 rfl (Or.inr rfl)
theorem bz_b_isWithin (a0 a1 a2 : Int32) (σ : mmS) : sp_b_isWithin a0 a1 a2 σ = 0 ∨ sp_b_isWithin a0 a1 a2 σ = 1 := by
  unfold sp_b_isWithin
  split
  · exact Or.inl rfl
  · split
    · exact Or.inl rfl
    · exact Or.inr rfl
def sp_b_requireNode (a0 : Int32) (σ : mmS) : mmR :=
if (sp_b_isWithin a0 (0 : Int32) (3 : Int32) σ) = 0 then
  ((.inr "java/lang/IllegalArgumentException", σ) : mmR)
else
  ((.inl none, σ) : mmR)
theorem ev_b_requireNode (hN : 65 ≤ N) (a0 : Int32) (σ : mmS) : Ev N L xs (5, 0, lv_args 0 [.int a0], [], 0, σ) ((fun r : mmR => r) (sp_b_requireNode a0 σ)) := by
  unfold sp_b_requireNode
  show Ev N L xs (5, 0, [(0, .int a0)], [], 0, σ) _
  refine ev_iload_n d_5_0 rfl ?_
  refine ev_iconst d_5_1 ci_0 ?_
  refine ev_iconst d_5_2 ci_3 ?_
  refine ev_csI (As := [.int a0, .int (0 : Int32), .int (3 : Int32)]) (t := []) (e' := 0) d_5_3 ml_6_46 rfl rfl rfl rfl rfl (by decide) rfl rfl (ev_b_isWithin hN a0 (0 : Int32) (3 : Int32) σ) ?_
  refine ev_if_ne (fun r : mmR => r) (tgt := 19) d_5_6 rfl (fun _h6 => ?_) (fun _h6 => ?_)
  · exact ev_vret d_5_19 rfl
  · exact ev_throw d_5_9 xm_5_9 (by decide) rfl rfl
abbrev cx_b_requireNode (a0 : Int32) (σ : mmS) : Prop := sp_b_isWithin a0 0 3 σ = 0
theorem ex_b_requireNode (hN : 65 ≤ N) (a0 : Int32) (σ : mmS) (h : cx_b_requireNode a0 σ) : Ev N L xs (5, 0, lv_args 0 [.int a0], [], 0, σ) (.inr "java/lang/IllegalArgumentException", σ) := by
  have h9 := ev_b_requireNode (L := L) (xs := xs) hN a0 σ
  unfold sp_b_requireNode at h9
  rw [if_pos h] at h9
  exact h9
theorem eo_b_requireNode (hN : 65 ≤ N) (a0 : Int32) (σ : mmS) (h : ¬ cx_b_requireNode a0 σ) : Ev N L xs (5, 0, lv_args 0 [.int a0], [], 0, σ) (.inl none, σ) := by
  have h9 := ev_b_requireNode (L := L) (xs := xs) hN a0 σ
  unfold sp_b_requireNode at h9
  rw [if_neg h] at h9
  exact h9
theorem vn_of {a0 : Int32} {σ : mmS} (h : ¬ cx_b_requireNode a0 σ) : vp_in a0 4 := by
  unfold cx_b_requireNode sp_b_isWithin at h
  unfold vp_in
  rintro (h1 | h1)
  · rw [if_pos h1] at h; exact h rfl
  · by_cases h0 : a0 < 0
    · rw [if_pos h0] at h; exact h rfl
    · rw [if_neg h0] at h
      by_cases h3 : (3 : Int32) < a0
      · rw [if_pos h3] at h; exact h rfl
      · rw [Int32.lt_iff_toInt_lt] at h3
        have e3 : (3 : Int32).toInt = 3 := by decide
        rw [e3] at h3
        have h2 : 4 ≤ a0.toInt.toNat := h1
        omega
def sp_b_require (a0 : Int32) (σ : mmS) : mmR :=
if a0 = 0 then
  ((.inr "java/lang/IllegalArgumentException", σ) : mmR)
else
  ((.inl none, σ) : mmR)
theorem ev_b_require (hN : 65 ≤ N) (a0 : Int32) (σ : mmS) : Ev N L xs (16, 0, lv_args 0 [.int a0], [], 0, σ) ((fun r : mmR => r) (sp_b_require a0 σ)) := by
  unfold sp_b_require
  show Ev N L xs (16, 0, [(0, .int a0)], [], 0, σ) _
  refine ev_iload_n d_16_0 rfl ?_
  refine ev_if_ne (fun r : mmR => r) (tgt := 14) d_16_1 rfl (fun _h1 => ?_) (fun _h1 => ?_)
  · exact ev_vret d_16_14 rfl
  · exact ev_throw d_16_4 xm_16_4 (by decide) rfl rfl
abbrev cx_b_require (a0 : Int32) (_σ : mmS) : Prop := a0 = 0
theorem ex_b_require (hN : 65 ≤ N) (a0 : Int32) (σ : mmS) (h : cx_b_require a0 σ) : Ev N L xs (16, 0, lv_args 0 [.int a0], [], 0, σ) (.inr "java/lang/IllegalArgumentException", σ) := by
  have h9 := ev_b_require (L := L) (xs := xs) hN a0 σ
  unfold sp_b_require at h9
  rw [if_pos h] at h9
  exact h9
theorem eo_b_require (hN : 65 ≤ N) (a0 : Int32) (σ : mmS) (h : ¬ cx_b_require a0 σ) : Ev N L xs (16, 0, lv_args 0 [.int a0], [], 0, σ) (.inl none, σ) := by
  have h9 := ev_b_require (L := L) (xs := xs) hN a0 σ
  unfold sp_b_require at h9
  rw [if_neg h] at h9
  exact h9
def sp_b_requireNotOff (a0 : Int32) (σ : mmS) : mmR :=
if (σ.1 (10 * a0.toNatClampNeg + 2) 7) = 0 then
  ((.inr "java/lang/IllegalStateException", σ) : mmR)
else
  ((.inl none, σ) : mmR)
theorem ev_b_requireNotOff (hN : 65 ≤ N) (a0 : Int32) (σ : mmS) (hn : vp_in a0 4) : Ev N L xs (68, 0, lv_args 0 [.ref 0, .int a0], [], 0, σ) ((fun r : mmR => r) (sp_b_requireNotOff a0 σ)) := by
  unfold sp_b_requireNotOff
  show Ev N L xs (68, 0, [(0, .ref 0), (1, .int a0)], [], 0, σ) _
  refine ev_aload_n d_68_0 rfl ?_
  refine ev_getf (v := .ref 1) d_68_1 fl_6_11 (ltk (by decide) hN) rfl rfl ?_
  refine ev_iload_n d_68_4 rfl ?_
  refine ev_aaload (i := a0.toNatClampNeg) d_68_5 (ltk (by decide) hN) rfl hn rfl ?_
  refine ev_getf (v := .int (σ.1 (10 * a0.toNatClampNeg + 2) 7)) d_68_6 fl_6_42 (ltn (by decide) (n4_lt hn) hN) (shq_2 (n4_lt hn)) rfl ?_
  refine ev_if_ne (fun r : mmR => r) (tgt := 22) d_68_9 rfl (fun _h9 => ?_) (fun _h9 => ?_)
  · exact ev_vret d_68_22 rfl
  · exact ev_throw d_68_12 xm_68_12 (by decide) rfl rfl
abbrev cx_b_requireNotOff (a0 : Int32) (σ : mmS) : Prop := (σ.1 (10 * a0.toNatClampNeg + 2) 7) = 0
theorem ex_b_requireNotOff (hN : 65 ≤ N) (a0 : Int32) (σ : mmS) (hn : vp_in a0 4) (h : cx_b_requireNotOff a0 σ) : Ev N L xs (68, 0, lv_args 0 [.ref 0, .int a0], [], 0, σ) (.inr "java/lang/IllegalStateException", σ) := by
  have h9 := ev_b_requireNotOff (L := L) (xs := xs) hN a0 σ hn
  unfold sp_b_requireNotOff at h9
  rw [if_pos h] at h9
  exact h9
theorem eo_b_requireNotOff (hN : 65 ≤ N) (a0 : Int32) (σ : mmS) (hn : vp_in a0 4) (h : ¬ cx_b_requireNotOff a0 σ) : Ev N L xs (68, 0, lv_args 0 [.ref 0, .int a0], [], 0, σ) (.inl none, σ) := by
  have h9 := ev_b_requireNotOff (L := L) (xs := xs) hN a0 σ hn
  unfold sp_b_requireNotOff at h9
  rw [if_neg h] at h9
  exact h9
def sp_n_isAwake (j : Nat) (σ : mmS) : Int32 :=
if (σ.1 (10 * j + 2) 7) = 0 then
  (0 : Int32)
else
  if (σ.1 (10 * j + 2) 7) = (6 : Int32) then
    (0 : Int32)
  else
    (1 : Int32)
theorem ev_n_isAwake (hN : 65 ≤ N) (j : Nat) (σ : mmS) (hj : j < 4) : Ev N L xs (7, 0, lv_args 0 [.ref (10 * j + 2)], [], 0, σ) ((mmPI σ) (sp_n_isAwake j σ)) := by
  unfold sp_n_isAwake
  show Ev N L xs (7, 0, [(0, .ref (10 * j + 2))], [], 0, σ) _
  refine ev_aload_n d_7_0 rfl ?_
  refine ev_getf (v := .int (σ.1 (10 * j + 2) 7)) d_7_1 fl_3_56 (ltn (by decide) hj hN) (shq_2 hj) rfl ?_
  refine ev_if_eq (mmPI σ) (tgt := 20) d_7_4 rfl (fun _h4 => ?_) (fun _h4 => ?_)
  · refine ev_iconst d_7_20 ci_0 ?_
    exact ev_zret d_7_21 rfl (Or.inl rfl)
  · refine ev_aload_n d_7_7 rfl ?_
    refine ev_getf (v := .int (σ.1 (10 * j + 2) 7)) d_7_8 fl_3_56 (ltn (by decide) hj hN) (shq_2 hj) rfl ?_
    refine ev_bipush d_7_11 cb_6 ?_
    refine ev_icmp_eq (mmPI σ) (tgt := 20) d_7_13 rfl (fun _h13 => ?_) (fun _h13 => ?_)
    · refine ev_iconst d_7_20 ci_0 ?_
      exact ev_zret d_7_21 rfl (Or.inl rfl)
    · refine ev_iconst d_7_16 ci_1 ?_
      refine ev_goto (tgt := 21) d_7_17 rfl ?_
      exact ev_zret d_7_21 rfl (Or.inr rfl)
def sp_n_isInTime (j : Nat) (σ : mmS) : Int32 :=
if (sp_n_isAwake j σ) = 0 then
  (0 : Int32)
else
  if (σ.1 (10 * j + 2) 7) = (1 : Int32) then
    (0 : Int32)
  else
    (1 : Int32)
theorem ev_n_isInTime (hN : 65 ≤ N) (j : Nat) (σ : mmS) (hj : j < 4) : Ev N L xs (81, 0, lv_args 0 [.ref (10 * j + 2)], [], 0, σ) ((mmPI σ) (sp_n_isInTime j σ)) := by
  unfold sp_n_isInTime
  show Ev N L xs (81, 0, [(0, .ref (10 * j + 2))], [], 0, σ) _
  refine ev_aload_n d_81_0 rfl ?_
  refine ev_cvI (As := []) (t := []) (e' := 0) d_81_1 ml_3_59 rfl rfl rfl rfl rfl (by decide) rfl (ltn (by decide) hj hN) (shq_2 hj) rfl rfl (ev_n_isAwake hN j σ hj) ?_
  refine ev_if_eq (mmPI σ) (tgt := 19) d_81_4 rfl (fun _h4 => ?_) (fun _h4 => ?_)
  · refine ev_iconst d_81_19 ci_0 ?_
    exact ev_zret d_81_20 rfl (Or.inl rfl)
  · refine ev_aload_n d_81_7 rfl ?_
    refine ev_getf (v := .int (σ.1 (10 * j + 2) 7)) d_81_8 fl_3_56 (ltn (by decide) hj hN) (shq_2 hj) rfl ?_
    refine ev_iconst d_81_11 ci_1 ?_
    refine ev_icmp_eq (mmPI σ) (tgt := 19) d_81_12 rfl (fun _h12 => ?_) (fun _h12 => ?_)
    · refine ev_iconst d_81_19 ci_0 ?_
      exact ev_zret d_81_20 rfl (Or.inl rfl)
    · refine ev_iconst d_81_15 ci_1 ?_
      refine ev_goto (tgt := 20) d_81_16 rfl ?_
      exact ev_zret d_81_20 rfl (Or.inr rfl)
def sp_s_begin (j : Nat) (σ : mmS) : mmS :=
(mmI (mmI (mmI σ (10 * j + 4) 0 (0 : Int32)) (10 * j + 4) 1 (0 : Int32)) (10 * j + 4) 2 (0 : Int32))
theorem ev_s_begin (hN : 65 ≤ N) (j : Nat) (σ : mmS) (hj : j < 4) : Ev N L xs (10, 0, lv_args 0 [.ref (10 * j + 4)], [], 0, σ) (mmSV (sp_s_begin j σ)) := by
  unfold sp_s_begin
  show Ev N L xs (10, 0, [(0, .ref (10 * j + 4))], [], 0, σ) _
  refine ev_aload_n d_10_0 rfl ?_
  refine ev_iconst d_10_1 ci_0 ?_
  refine ev_putf d_10_2 fl_4_7 (ltn (by decide) hj hN) (shq_4 hj) rfl (Or.inl rfl) ?_
  refine ev_aload_n d_10_5 rfl ?_
  refine ev_iconst d_10_6 ci_0 ?_
  refine ev_putf d_10_7 fl_4_13 (ltn (by decide) hj hN) (shq_4 hj) rfl (Or.inl rfl) ?_
  refine ev_aload_n d_10_10 rfl ?_
  refine ev_iconst d_10_11 ci_0 ?_
  refine ev_putf d_10_12 fl_4_16 (ltn (by decide) hj hN) (shq_4 hj) rfl (Or.inl rfl) ?_
  exact ev_vret d_10_15 rfl
def sp_d_forget (j : Nat) (σ : mmS) : mmS :=
(sp_fill (10 * j + 7) 4 (1000 : Int32) (sp_fill (10 * j + 6) 4 (1000 : Int32) σ))
theorem ev_d_forget (hN : 65 ≤ N) (j : Nat) (σ : mmS) (hj : j < 4) : Ev N L xs (11, 0, lv_args 0 [.ref (10 * j + 5)], [], 0, σ) (mmSV (sp_d_forget j σ)) := by
  unfold sp_d_forget
  show Ev N L xs (11, 0, [(0, .ref (10 * j + 5))], [], 0, σ) _
  refine ev_aload_n d_11_0 rfl ?_
  refine ev_getf (v := .ref (10 * j + 6)) d_11_1 fl_0_9 (ltn (by decide) hj hN) (shq_5 hj) rfl ?_
  refine ev_sipush d_11_4 cs_1000 ?_
  refine ev_csV (As := [.ref (10 * j + 6), .int (1000 : Int32)]) (t := []) (e' := 0) d_11_7 ml_0_18 rfl rfl rfl rfl rfl (by decide) rfl rfl (ev_fill (ltn (by decide) hj hN) (shq_6 hj) (by decide) (1000 : Int32) σ) ?_
  refine ev_aload_n d_11_10 rfl ?_
  refine ev_getf (v := .ref (10 * j + 7)) d_11_11 fl_0_15 (ltn (by decide) hj hN) (shq_5 hj) rfl ?_
  refine ev_sipush d_11_14 cs_1000 ?_
  refine ev_csV (As := [.ref (10 * j + 7), .int (1000 : Int32)]) (t := []) (e' := 0) d_11_17 ml_0_18 rfl rfl rfl rfl rfl (by decide) rfl rfl (ev_fill (ltn (by decide) hj hN) (shq_7 hj) (by decide) (1000 : Int32) (sp_fill (10 * j + 6) 4 (1000 : Int32) σ)) ?_
  exact ev_vret d_11_20 rfl
def sp_n_listen (j : Nat) (σ : mmS) : mmS :=
(sp_d_forget j (sp_s_begin j (mmI σ (10 * j + 2) 7 (1 : Int32))))
theorem ev_n_listen (hN : 65 ≤ N) (j : Nat) (σ : mmS) (hj : j < 4) : Ev N L xs (9, 0, lv_args 0 [.ref (10 * j + 2)], [], 0, σ) (mmSV (sp_n_listen j σ)) := by
  unfold sp_n_listen
  show Ev N L xs (9, 0, [(0, .ref (10 * j + 2))], [], 0, σ) _
  refine ev_aload_n d_9_0 rfl ?_
  refine ev_iconst d_9_1 ci_1 ?_
  refine ev_putf d_9_2 fl_3_56 (ltn (by decide) hj hN) (shq_2 hj) rfl (Or.inl rfl) ?_
  refine ev_aload_n d_9_5 rfl ?_
  refine ev_getf (v := .ref (10 * j + 4)) d_9_6 fl_3_28 (ltn (by decide) hj hN) (shq_2 hj) rfl ?_
  refine ev_cvV (As := []) (t := []) (e' := 0) d_9_9 ml_3_112 rfl rfl rfl rfl rfl (by decide) rfl (ltn (by decide) hj hN) (shq_4 hj) rfl rfl (ev_s_begin hN j (mmI σ (10 * j + 2) 7 (1 : Int32)) hj) ?_
  refine ev_aload_n d_9_12 rfl ?_
  refine ev_getf (v := .ref (10 * j + 5)) d_9_13 fl_3_35 (ltn (by decide) hj hN) (shq_2 hj) rfl ?_
  refine ev_cvV (As := []) (t := []) (e' := 0) d_9_16 ml_3_115 rfl rfl rfl rfl rfl (by decide) rfl (ltn (by decide) hj hN) (shq_5 hj) rfl rfl (ev_d_forget hN j (sp_s_begin j (mmI σ (10 * j + 2) 7 (1 : Int32))) hj) ?_
  exact ev_vret d_9_19 rfl
def sp_n_switchOn (j : Nat) (σ : mmS) : mmS :=
(sp_n_listen j (sp_fill (10 * j + 11) 10 (-1 : Int32) (mmI (mmI (mmI σ (10 * j + 2) 8 (0 : Int32)) (10 * j + 2) 12 (0 : Int32)) (10 * j + 10) 0 (0 : Int32))))
theorem ev_n_switchOn (hN : 65 ≤ N) (j : Nat) (σ : mmS) (hj : j < 4) : Ev N L xs (8, 0, lv_args 0 [.ref (10 * j + 2)], [], 0, σ) (mmSV (sp_n_switchOn j σ)) := by
  unfold sp_n_switchOn
  show Ev N L xs (8, 0, [(0, .ref (10 * j + 2))], [], 0, σ) _
  refine ev_aload_n d_8_0 rfl ?_
  refine ev_iconst d_8_1 ci_0 ?_
  refine ev_putf d_8_2 fl_3_63 (ltn (by decide) hj hN) (shq_2 hj) rfl (Or.inl rfl) ?_
  refine ev_aload_n d_8_5 rfl ?_
  refine ev_iconst d_8_6 ci_0 ?_
  refine ev_putf d_8_7 fl_3_66 (ltn (by decide) hj hN) (shq_2 hj) rfl (Or.inl rfl) ?_
  refine ev_aload_n d_8_10 rfl ?_
  refine ev_getf (v := .ref (10 * j + 10)) d_8_11 fl_3_42 (ltn (by decide) hj hN) (shq_2 hj) rfl ?_
  refine ev_iconst d_8_14 ci_0 ?_
  refine ev_putf d_8_15 fl_3_69 (ltn (by decide) hj hN) (shq_10 hj) rfl (Or.inr ⟨rfl, (Or.inl rfl)⟩) ?_
  refine ev_aload_n d_8_18 rfl ?_
  refine ev_getf (v := .ref (10 * j + 11)) d_8_19 fl_3_46 (ltn (by decide) hj hN) (shq_2 hj) rfl ?_
  refine ev_iconst d_8_22 ci_m1 ?_
  refine ev_csV (As := [.ref (10 * j + 11), .int (-1 : Int32)]) (t := []) (e' := 0) d_8_23 ml_3_50 rfl rfl rfl rfl rfl (by decide) rfl rfl (ev_fill (ltn (by decide) hj hN) (shq_11 hj) (by decide) (-1 : Int32) (mmI (mmI (mmI σ (10 * j + 2) 8 (0 : Int32)) (10 * j + 2) 12 (0 : Int32)) (10 * j + 10) 0 (0 : Int32))) ?_
  refine ev_aload_n d_8_26 rfl ?_
  refine ev_cvV (As := []) (t := []) (e' := 0) d_8_27 ml_3_73 rfl rfl rfl rfl rfl (by decide) rfl (ltn (by decide) hj hN) (shq_2 hj) rfl rfl (ev_n_listen hN j (sp_fill (10 * j + 11) 10 (-1 : Int32) (mmI (mmI (mmI σ (10 * j + 2) 8 (0 : Int32)) (10 * j + 2) 12 (0 : Int32)) (10 * j + 10) 0 (0 : Int32))) hj) ?_
  exact ev_vret d_8_30 rfl
def sp_g_put (j : Nat) (a0 : Int32) (a1 : Int32) (a2 : Int32) (a3 : Int32) (σ : mmS) : mmS :=
(mmI (mmI (mmI (mmI (mmI σ (10 * j + 10) 0 (1 : Int32)) (10 * j + 10) 1 a0) (10 * j + 10) 2 a1) (10 * j + 10) 3 a2) (10 * j + 10) 4 a3)
theorem ev_g_put (hN : 65 ≤ N) (j : Nat) (a0 : Int32) (a1 : Int32) (a2 : Int32) (a3 : Int32) (σ : mmS) (hj : j < 4) : Ev N L xs (71, 0, lv_args 0 [.ref (10 * j + 10), .int a0, .int a1, .int a2, .int a3], [], 0, σ) (mmSV (sp_g_put j a0 a1 a2 a3 σ)) := by
  unfold sp_g_put
  show Ev N L xs (71, 0, [(0, .ref (10 * j + 10)), (1, .int a0), (2, .int a1), (3, .int a2), (4, .int a3)], [], 0, σ) _
  refine ev_aload_n d_71_0 rfl ?_
  refine ev_iconst d_71_1 ci_1 ?_
  refine ev_putf d_71_2 fl_1_7 (ltn (by decide) hj hN) (shq_10 hj) rfl (Or.inr ⟨rfl, (Or.inr rfl)⟩) ?_
  refine ev_aload_n d_71_5 rfl ?_
  refine ev_iload_n d_71_6 rfl ?_
  refine ev_putf d_71_7 fl_1_13 (ltn (by decide) hj hN) (shq_10 hj) rfl (Or.inl rfl) ?_
  refine ev_aload_n d_71_10 rfl ?_
  refine ev_iload_n d_71_11 rfl ?_
  refine ev_putf d_71_12 fl_1_17 (ltn (by decide) hj hN) (shq_10 hj) rfl (Or.inl rfl) ?_
  refine ev_aload_n d_71_15 rfl ?_
  refine ev_iload_n d_71_16 rfl ?_
  refine ev_putf d_71_17 fl_1_20 (ltn (by decide) hj hN) (shq_10 hj) rfl (Or.inl rfl) ?_
  refine ev_aload_n d_71_20 rfl ?_
  refine ev_iload d_71_21 rfl ?_
  refine ev_putf d_71_23 fl_1_23 (ltn (by decide) hj hN) (shq_10 hj) rfl (Or.inl rfl) ?_
  exact ev_vret d_71_26 rfl
def sp_d_of (j : Nat) (a0 : Int32) (a1 : Int32) (σ : mmS) : Int32 :=
if a1 = 0 then
  (σ.1 (10 * j + 6) a0.toNatClampNeg)
else
  (σ.1 (10 * j + 7) a0.toNatClampNeg)
theorem ev_d_of (hN : 65 ≤ N) (j : Nat) (a0 : Int32) (a1 : Int32) (σ : mmS) (hj : j < 4) (hn : vp_in a0 4) : Ev N L xs (85, 0, lv_args 0 [.ref (10 * j + 5), .int a0, .int a1], [], 0, σ) ((mmPI σ) (sp_d_of j a0 a1 σ)) := by
  unfold sp_d_of
  show Ev N L xs (85, 0, [(0, .ref (10 * j + 5)), (1, .int a0), (2, .int a1)], [], 0, σ) _
  refine ev_iload_n d_85_0 rfl ?_
  refine ev_if_eq (mmPI σ) (tgt := 13) d_85_1 rfl (fun _h1 => ?_) (fun _h1 => ?_)
  · refine ev_aload_n d_85_13 rfl ?_
    refine ev_getf (v := .ref (10 * j + 6)) d_85_14 fl_0_9 (ltn (by decide) hj hN) (shq_5 hj) rfl ?_
    refine ev_iload_n d_85_17 rfl ?_
    refine ev_iald (i := a0.toNatClampNeg) d_85_18 (ltn (by decide) hj hN) (shq_6 hj) (by first | assumption | (rcases n4 hn with rfl | rfl | rfl | rfl <;> exact vpi (by decide))) rfl ?_
    exact ev_iret d_85_19 rfl
  · refine ev_aload_n d_85_4 rfl ?_
    refine ev_getf (v := .ref (10 * j + 7)) d_85_5 fl_0_15 (ltn (by decide) hj hN) (shq_5 hj) rfl ?_
    refine ev_iload_n d_85_8 rfl ?_
    refine ev_iald (i := a0.toNatClampNeg) d_85_9 (ltn (by decide) hj hN) (shq_7 hj) (by first | assumption | (rcases n4 hn with rfl | rfl | rfl | rfl <;> exact vpi (by decide))) rfl ?_
    refine ev_goto (tgt := 19) d_85_10 rfl ?_
    exact ev_iret d_85_19 rfl
def sp_d_has (j : Nat) (a0 : Int32) (a1 : Int32) (σ : mmS) : Int32 :=
if (sp_d_of j a0 a1 σ) = (1000 : Int32) then
  (0 : Int32)
else
  (1 : Int32)
theorem ev_d_has (hN : 65 ≤ N) (j : Nat) (a0 : Int32) (a1 : Int32) (σ : mmS) (hj : j < 4) (hn : vp_in a0 4) : Ev N L xs (84, 0, lv_args 0 [.ref (10 * j + 5), .int a0, .int a1], [], 0, σ) ((mmPI σ) (sp_d_has j a0 a1 σ)) := by
  unfold sp_d_has
  show Ev N L xs (84, 0, [(0, .ref (10 * j + 5)), (1, .int a0), (2, .int a1)], [], 0, σ) _
  refine ev_aload_n d_84_0 rfl ?_
  refine ev_iload_n d_84_1 rfl ?_
  refine ev_iload_n d_84_2 rfl ?_
  refine ev_cvI (As := [.int a0, .int a1]) (t := []) (e' := 0) d_84_3 ml_0_31 rfl rfl rfl rfl rfl (by decide) rfl (ltn (by decide) hj hN) (shq_5 hj) rfl rfl (ev_d_of hN j a0 a1 σ hj hn) ?_
  refine ev_sipush d_84_6 cs_1000 ?_
  refine ev_icmp_eq (mmPI σ) (tgt := 16) d_84_9 rfl (fun _h9 => ?_) (fun _h9 => ?_)
  · refine ev_iconst d_84_16 ci_0 ?_
    exact ev_zret d_84_17 rfl (Or.inl rfl)
  · refine ev_iconst d_84_12 ci_1 ?_
    refine ev_goto (tgt := 17) d_84_13 rfl ?_
    exact ev_zret d_84_17 rfl (Or.inr rfl)
end SP
