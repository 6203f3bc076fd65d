section SP
variable {N L : Nat} {xs : Nat → Int32}
def sp_g_isDue (j : Nat) (a0 : Int32) (a1 : Int32) (σ : mmS) : Int32 :=
if (σ.1 (10 * j + 10) 0) = 0 then
  (0 : Int32)
else
  if (σ.1 (10 * j + 10) 1) = a0 then
    if (σ.1 (10 * j + 10) 4) ≤ 0 then
      (0 : Int32)
    else
      if (a1 - a1 / (σ.1 (10 * j + 10) 4) * (σ.1 (10 * j + 10) 4)) = (σ.1 (10 * j + 10) 3) then
        (1 : Int32)
      else
        (0 : Int32)
  else
    (0 : Int32)
theorem ev_g_isDue (hN : 65 ≤ N) (j : Nat) (a0 : Int32) (a1 : Int32) (σ : mmS) (hj : j < 4) : Ev N L xs (51, 0, lv_args 0 [.ref (10 * j + 10), .int a0, .int a1], [], 0, σ) ((mmPI σ) (sp_g_isDue j a0 a1 σ)) := by
  unfold sp_g_isDue
  show Ev N L xs (51, 0, [(0, .ref (10 * j + 10)), (1, .int a0), (2, .int a1)], [], 0, σ) _
  refine ev_aload_n d_51_0 rfl ?_
  refine ev_getf (v := .int (σ.1 (10 * j + 10) 0)) d_51_1 fl_1_7 (ltn (by decide) hj hN) (shq_10 hj) rfl ?_
  refine ev_if_eq (mmPI σ) (tgt := 39) d_51_4 rfl (fun _h4 => ?_) (fun _h4 => ?_)
  · refine ev_iconst d_51_39 ci_0 ?_
    exact ev_zret d_51_40 rfl (Or.inl rfl)
  · refine ev_aload_n d_51_7 rfl ?_
    refine ev_getf (v := .int (σ.1 (10 * j + 10) 1)) d_51_8 fl_1_13 (ltn (by decide) hj hN) (shq_10 hj) rfl ?_
    refine ev_iload_n d_51_11 rfl ?_
    refine ev_icmp_ne (mmPI σ) (tgt := 39) d_51_12 rfl (fun _h12 => ?_) (fun _h12 => ?_)
    · refine ev_iconst d_51_39 ci_0 ?_
      exact ev_zret d_51_40 rfl (Or.inl rfl)
    · refine ev_aload_n d_51_15 rfl ?_
      refine ev_getf (v := .int (σ.1 (10 * j + 10) 4)) d_51_16 fl_1_23 (ltn (by decide) hj hN) (shq_10 hj) rfl ?_
      refine ev_if_le (mmPI σ) (tgt := 39) d_51_19 rfl (fun _h19 => ?_) (fun _h19 => ?_)
      · refine ev_iconst d_51_39 ci_0 ?_
        exact ev_zret d_51_40 rfl (Or.inl rfl)
      · refine ev_iload_n d_51_22 rfl ?_
        refine ev_aload_n d_51_23 rfl ?_
        refine ev_getf (v := .int (σ.1 (10 * j + 10) 4)) d_51_24 fl_1_23 (ltn (by decide) hj hN) (shq_10 hj) rfl ?_
        refine ev_irem (v := (a1 - a1 / (σ.1 (10 * j + 10) 4) * (σ.1 (10 * j + 10) 4))) d_51_27 (by intro q; rw [q] at _h19; exact _h19 (by decide)) rfl ?_
        refine ev_aload_n d_51_28 rfl ?_
        refine ev_getf (v := .int (σ.1 (10 * j + 10) 3)) d_51_29 fl_1_20 (ltn (by decide) hj hN) (shq_10 hj) rfl ?_
        refine ev_icmp_ne (mmPI σ) (tgt := 39) d_51_32 rfl (fun _h32 => ?_) (fun _h32 => ?_)
        · refine ev_iconst d_51_39 ci_0 ?_
          exact ev_zret d_51_40 rfl (Or.inl rfl)
        · refine ev_iconst d_51_35 ci_1 ?_
          refine ev_goto (tgt := 40) d_51_36 rfl ?_
          exact ev_zret d_51_40 rfl (Or.inr rfl)
def sp_n_isStarter (j : Nat) (σ : mmS) : Int32 :=
if (2 : Int32) ≤ (σ.1 (10 * j + 2) 0) then
  (0 : Int32)
else
  (1 : Int32)
theorem ev_n_isStarter (hN : 65 ≤ N) (j : Nat) (σ : mmS) (hj : j < 4) : Ev N L xs (21, 0, lv_args 0 [.ref (10 * j + 2)], [], 0, σ) ((mmPI σ) (sp_n_isStarter j σ)) := by
  unfold sp_n_isStarter
  show Ev N L xs (21, 0, [(0, .ref (10 * j + 2))], [], 0, σ) _
  refine ev_aload_n d_21_0 rfl ?_
  refine ev_getf (v := .int (σ.1 (10 * j + 2) 0)) d_21_1 fl_3_9 (ltn (by decide) hj hN) (shq_2 hj) rfl ?_
  refine ev_iconst d_21_4 ci_2 ?_
  refine ev_icmp_ge (mmPI σ) (tgt := 12) d_21_5 rfl (fun _h5 => ?_) (fun _h5 => ?_)
  · refine ev_iconst d_21_12 ci_0 ?_
    exact ev_zret d_21_13 rfl (Or.inl rfl)
  · refine ev_iconst d_21_8 ci_1 ?_
    refine ev_goto (tgt := 13) d_21_9 rfl ?_
    exact ev_zret d_21_13 rfl (Or.inr rfl)
def sp_n_dueAt (a0 : Int32) (σ : mmS) : Int32 :=
(((10 : Int32) * a0) + (4 : Int32))
theorem ev_n_dueAt (hN : 65 ≤ N) (a0 : Int32) (σ : mmS) : Ev N L xs (44, 0, lv_args 0 [.int a0], [], 0, σ) ((mmPI σ) (sp_n_dueAt a0 σ)) := by
  unfold sp_n_dueAt
  show Ev N L xs (44, 0, [(0, .int a0)], [], 0, σ) _
  refine ev_bipush d_44_0 cb_10 ?_
  refine ev_iload_n d_44_2 rfl ?_
  refine ev_imul (v := ((10 : Int32) * a0)) d_44_3 rfl ?_
  refine ev_iconst d_44_4 ci_4 ?_
  refine ev_iadd (v := (((10 : Int32) * a0) + (4 : Int32))) d_44_5 rfl ?_
  exact ev_iret d_44_6 rfl
def sp_n_enterTime (j : Nat) (a0 : Int32) (a1 : Int32) (σ : mmS) : mmS :=
(sp_d_forget j (mmI (mmI (mmI (mmI σ (10 * j + 2) 7 a0) (10 * j + 2) 9 a1) (10 * j + 2) 10 (0 : Int32)) (10 * j + 2) 11 (0 : Int32)))
theorem ev_n_enterTime (hN : 65 ≤ N) (j : Nat) (a0 : Int32) (a1 : Int32) (σ : mmS) (hj : j < 4) : Ev N L xs (24, 0, lv_args 0 [.ref (10 * j + 2), .int a0, .int a1], [], 0, σ) (mmSV (sp_n_enterTime j a0 a1 σ)) := by
  unfold sp_n_enterTime
  show Ev N L xs (24, 0, [(0, .ref (10 * j + 2)), (1, .int a0), (2, .int a1)], [], 0, σ) _
  refine ev_aload_n d_24_0 rfl ?_
  refine ev_iload_n d_24_1 rfl ?_
  refine ev_putf d_24_2 fl_3_56 (ltn (by decide) hj hN) (shq_2 hj) rfl (Or.inl rfl) ?_
  refine ev_aload_n d_24_5 rfl ?_
  refine ev_iload_n d_24_6 rfl ?_
  refine ev_putf d_24_7 fl_3_118 (ltn (by decide) hj hN) (shq_2 hj) rfl (Or.inl rfl) ?_
  refine ev_aload_n d_24_10 rfl ?_
  refine ev_iconst d_24_11 ci_0 ?_
  refine ev_putf d_24_12 fl_3_121 (ltn (by decide) hj hN) (shq_2 hj) rfl (Or.inl rfl) ?_
  refine ev_aload_n d_24_15 rfl ?_
  refine ev_iconst d_24_16 ci_0 ?_
  refine ev_putf d_24_17 fl_3_124 (ltn (by decide) hj hN) (shq_2 hj) rfl (Or.inr ⟨rfl, (Or.inl rfl)⟩) ?_
  refine ev_aload_n d_24_20 rfl ?_
  refine ev_getf (v := .ref (10 * j + 5)) d_24_21 fl_3_35 (ltn (by decide) hj hN) (shq_2 hj) rfl ?_
  refine ev_cvV (As := []) (t := []) (e' := 0) d_24_24 ml_3_115 rfl rfl rfl rfl rfl (by decide) rfl (ltn (by decide) hj hN) (shq_5 hj) rfl rfl (ev_d_forget hN j (mmI (mmI (mmI (mmI σ (10 * j + 2) 7 a0) (10 * j + 2) 9 a1) (10 * j + 2) 10 (0 : Int32)) (10 * j + 2) 11 (0 : Int32)) hj) ?_
  exact ev_vret d_24_27 rfl
def sp_n_passListening (j : Nat) (σ : mmS) : mmS :=
if (sp_n_isStarter j (sp_s_passMicrotick j σ)) = 0 then
  (sp_s_passMicrotick j σ)
else
  if ((sp_s_passMicrotick j σ).1 (10 * j + 4) 0) = ((160 : Int32) + ((20 : Int32) * ((sp_s_passMicrotick j σ).1 (10 * j + 2) 0))) then
    (sp_n_enterTime j (2 : Int32) (0 : Int32) (sp_t_begin j (0 : Int32) (0 : Int32) (0 : Int32) (sp_s_passMicrotick j σ)))
  else
    (sp_s_passMicrotick j σ)
theorem ev_n_passListening (hN : 65 ≤ N) (j : Nat) (σ : mmS) (hj : j < 4) : Ev N L xs (19, 0, lv_args 0 [.ref (10 * j + 2)], [], 0, σ) (mmSV (sp_n_passListening j σ)) := by
  unfold sp_n_passListening
  show Ev N L xs (19, 0, [(0, .ref (10 * j + 2))], [], 0, σ) _
  refine ev_aload_n d_19_0 rfl ?_
  refine ev_getf (v := .ref (10 * j + 4)) d_19_1 fl_3_28 (ltn (by decide) hj hN) (shq_2 hj) rfl ?_
  refine ev_cvV (As := []) (t := []) (e' := 0) d_19_4 ml_3_127 rfl rfl rfl rfl rfl (by decide) rfl (ltn (by decide) hj hN) (shq_4 hj) rfl rfl (ev_s_passMicrotick hN j σ hj) ?_
  refine ev_aload_n d_19_7 rfl ?_
  refine ev_cvI (As := []) (t := []) (e' := 0) d_19_8 ml_3_130 rfl rfl rfl rfl rfl (by decide) rfl (ltn (by decide) hj hN) (shq_2 hj) rfl rfl (ev_n_isStarter hN j (sp_s_passMicrotick j σ) hj) ?_
  refine ev_if_eq mmSV (tgt := 51) d_19_11 rfl (fun _h11 => ?_) (fun _h11 => ?_)
  · exact ev_vret d_19_51 rfl
  · refine ev_aload_n d_19_14 rfl ?_
    refine ev_getf (v := .ref (10 * j + 4)) d_19_15 fl_3_28 (ltn (by decide) hj hN) (shq_2 hj) rfl ?_
    refine ev_getf (v := .int ((sp_s_passMicrotick j σ).1 (10 * j + 4) 0)) d_19_18 fl_3_88 (ltn (by decide) hj hN) (shq_4 hj) rfl ?_
    refine ev_sipush d_19_21 cs_160 ?_
    refine ev_bipush d_19_24 cb_20 ?_
    refine ev_aload_n d_19_26 rfl ?_
    refine ev_getf (v := .int ((sp_s_passMicrotick j σ).1 (10 * j + 2) 0)) d_19_27 fl_3_9 (ltn (by decide) hj hN) (shq_2 hj) rfl ?_
    refine ev_imul (v := ((20 : Int32) * ((sp_s_passMicrotick j σ).1 (10 * j + 2) 0))) d_19_30 rfl ?_
    refine ev_iadd (v := ((160 : Int32) + ((20 : Int32) * ((sp_s_passMicrotick j σ).1 (10 * j + 2) 0)))) d_19_31 rfl ?_
    refine ev_icmp_ne mmSV (tgt := 51) d_19_32 rfl (fun _h32 => ?_) (fun _h32 => ?_)
    · exact ev_vret d_19_51 rfl
    · refine ev_aload_n d_19_35 rfl ?_
      refine ev_getf (v := .ref (10 * j + 3)) d_19_36 fl_3_21 (ltn (by decide) hj hN) (shq_2 hj) rfl ?_
      refine ev_iconst d_19_39 ci_0 ?_
      refine ev_iconst d_19_40 ci_0 ?_
      refine ev_iconst d_19_41 ci_0 ?_
      refine ev_cvV (As := [.int (0 : Int32), .int (0 : Int32), .int (0 : Int32)]) (t := []) (e' := 0) d_19_42 ml_3_133 rfl rfl rfl rfl rfl (by decide) rfl (ltn (by decide) hj hN) (shq_3 hj) rfl rfl (ev_t_begin hN j (0 : Int32) (0 : Int32) (0 : Int32) (sp_s_passMicrotick j σ) hj) ?_
      refine ev_aload_n d_19_45 rfl ?_
      refine ev_iconst d_19_46 ci_2 ?_
      refine ev_iconst d_19_47 ci_0 ?_
      refine ev_cvV (As := [.int (2 : Int32), .int (0 : Int32)]) (t := []) (e' := 0) d_19_48 ml_3_136 rfl rfl rfl rfl rfl (by decide) rfl (ltn (by decide) hj hN) (shq_2 hj) rfl rfl (ev_n_enterTime hN j (2 : Int32) (0 : Int32) (sp_t_begin j (0 : Int32) (0 : Int32) (0 : Int32) (sp_s_passMicrotick j σ)) hj) ?_
      exact ev_vret d_19_51 rfl
def sp_n_isInMinislots (j : Nat) (σ : mmS) : Int32 :=
(sp_b_isWithin (σ.1 (10 * j + 3) 0) (40 : Int32) (59 : Int32) σ)
theorem ev_n_isInMinislots (hN : 65 ≤ N) (j : Nat) (σ : mmS) (hj : j < 4) : Ev N L xs (29, 0, lv_args 0 [.ref (10 * j + 2)], [], 0, σ) ((mmPI σ) (sp_n_isInMinislots j σ)) := by
  unfold sp_n_isInMinislots
  show Ev N L xs (29, 0, [(0, .ref (10 * j + 2))], [], 0, σ) _
  refine ev_aload_n d_29_0 rfl ?_
  refine ev_getf (v := .ref (10 * j + 3)) d_29_1 fl_3_21 (ltn (by decide) hj hN) (shq_2 hj) rfl ?_
  refine ev_getf (v := .int (σ.1 (10 * j + 3) 0)) d_29_4 fl_3_144 (ltn (by decide) hj hN) (shq_3 hj) rfl ?_
  refine ev_bipush d_29_7 cb_40 ?_
  refine ev_bipush d_29_9 cb_59 ?_
  refine ev_csI (As := [.int (σ.1 (10 * j + 3) 0), .int (40 : Int32), .int (59 : Int32)]) (t := []) (e' := 0) d_29_11 ml_3_156 rfl rfl rfl rfl rfl (by decide) rfl rfl (ev_b_isWithin hN (σ.1 (10 * j + 3) 0) (40 : Int32) (59 : Int32) σ) ?_
  exact ev_zret d_29_14 rfl (bz_b_isWithin (σ.1 (10 * j + 3) 0) (40 : Int32) (59 : Int32) σ)
def sp_n_beginMinislot (j : Nat) (σ : mmS) : mmS :=
if (σ.1 (10 * j + 3) 0) = (40 : Int32) then
  (mmI (mmI σ (10 * j + 2) 10 (5 : Int32)) (10 * j + 2) 11 (0 : Int32))
else
  if (σ.1 (10 * j + 2) 11) = 0 then
    (mmI (mmI σ (10 * j + 2) 10 ((σ.1 (10 * j + 2) 10) + (1 : Int32))) (10 * j + 2) 11 (0 : Int32))
  else
    (mmI σ (10 * j + 2) 11 (0 : Int32))
theorem ev_n_beginMinislot (hN : 65 ≤ N) (j : Nat) (σ : mmS) (hj : j < 4) : Ev N L xs (30, 0, lv_args 0 [.ref (10 * j + 2)], [], 0, σ) (mmSV (sp_n_beginMinislot j σ)) := by
  unfold sp_n_beginMinislot
  show Ev N L xs (30, 0, [(0, .ref (10 * j + 2))], [], 0, σ) _
  refine ev_aload_n d_30_0 rfl ?_
  refine ev_getf (v := .ref (10 * j + 3)) d_30_1 fl_3_21 (ltn (by decide) hj hN) (shq_2 hj) rfl ?_
  refine ev_getf (v := .int (σ.1 (10 * j + 3) 0)) d_30_4 fl_3_144 (ltn (by decide) hj hN) (shq_3 hj) rfl ?_
  refine ev_bipush d_30_7 cb_40 ?_
  refine ev_icmp_ne mmSV (tgt := 20) d_30_9 rfl (fun _h9 => ?_) (fun _h9 => ?_)
  · refine ev_aload_n d_30_20 rfl ?_
    refine ev_getf (v := .int (σ.1 (10 * j + 2) 11)) d_30_21 fl_3_124 (ltn (by decide) hj hN) (shq_2 hj) rfl ?_
    refine ev_if_ne mmSV (tgt := 37) d_30_24 rfl (fun _h24 => ?_) (fun _h24 => ?_)
    · refine ev_aload_n d_30_37 rfl ?_
      refine ev_iconst d_30_38 ci_0 ?_
      refine ev_putf d_30_39 fl_3_124 (ltn (by decide) hj hN) (shq_2 hj) rfl (Or.inr ⟨rfl, (Or.inl rfl)⟩) ?_
      exact ev_vret d_30_42 rfl
    · refine ev_aload_n d_30_27 rfl ?_
      refine ev_dup d_30_28 rfl ?_
      refine ev_getf (v := .int (σ.1 (10 * j + 2) 10)) d_30_29 fl_3_121 (ltn (by decide) hj hN) (shq_2 hj) rfl ?_
      refine ev_iconst d_30_32 ci_1 ?_
      refine ev_iadd (v := ((σ.1 (10 * j + 2) 10) + (1 : Int32))) d_30_33 rfl ?_
      refine ev_putf d_30_34 fl_3_121 (ltn (by decide) hj hN) (shq_2 hj) rfl (Or.inl rfl) ?_
      refine ev_aload_n d_30_37 rfl ?_
      refine ev_iconst d_30_38 ci_0 ?_
      refine ev_putf d_30_39 fl_3_124 (ltn (by decide) hj hN) (shq_2 hj) rfl (Or.inr ⟨rfl, (Or.inl rfl)⟩) ?_
      exact ev_vret d_30_42 rfl
  · refine ev_aload_n d_30_12 rfl ?_
    refine ev_iconst d_30_13 ci_5 ?_
    refine ev_putf d_30_14 fl_3_121 (ltn (by decide) hj hN) (shq_2 hj) rfl (Or.inl rfl) ?_
    refine ev_goto (tgt := 37) d_30_17 rfl ?_
    refine ev_aload_n d_30_37 rfl ?_
    refine ev_iconst d_30_38 ci_0 ?_
    refine ev_putf d_30_39 fl_3_124 (ltn (by decide) hj hN) (shq_2 hj) rfl (Or.inr ⟨rfl, (Or.inl rfl)⟩) ?_
    exact ev_vret d_30_42 rfl
def sp_n_maySendInSlot (j : Nat) (σ : mmS) : Int32 :=
if (σ.1 (10 * j + 2) 7) = (2 : Int32) then
  (1 : Int32)
else
  if (σ.1 (10 * j + 2) 7) = (4 : Int32) then
    (1 : Int32)
  else
    if (σ.1 (10 * j + 2) 7) = (3 : Int32) then
      if (sp_n_isStarter j σ) = 0 then
        (0 : Int32)
      else
        if (σ.1 (10 * j + 2) 9) ≤ 0 then
          (0 : Int32)
        else
          (1 : Int32)
    else
      (0 : Int32)
theorem ev_n_maySendInSlot (hN : 65 ≤ N) (j : Nat) (σ : mmS) (hj : j < 4) : Ev N L xs (45, 0, lv_args 0 [.ref (10 * j + 2)], [], 0, σ) ((mmPI σ) (sp_n_maySendInSlot j σ)) := by
  unfold sp_n_maySendInSlot
  show Ev N L xs (45, 0, [(0, .ref (10 * j + 2))], [], 0, σ) _
  refine ev_aload_n d_45_0 rfl ?_
  refine ev_getf (v := .int (σ.1 (10 * j + 2) 7)) d_45_1 fl_3_56 (ltn (by decide) hj hN) (shq_2 hj) rfl ?_
  refine ev_iconst d_45_4 ci_2 ?_
  refine ev_icmp_eq (mmPI σ) (tgt := 38) d_45_5 rfl (fun _h5 => ?_) (fun _h5 => ?_)
  · refine ev_iconst d_45_38 ci_1 ?_
    refine ev_goto (tgt := 43) d_45_39 rfl ?_
    exact ev_zret d_45_43 rfl (Or.inr rfl)
  · refine ev_aload_n d_45_8 rfl ?_
    refine ev_getf (v := .int (σ.1 (10 * j + 2) 7)) d_45_9 fl_3_56 (ltn (by decide) hj hN) (shq_2 hj) rfl ?_
    refine ev_iconst d_45_12 ci_4 ?_
    refine ev_icmp_eq (mmPI σ) (tgt := 38) d_45_13 rfl (fun _h13 => ?_) (fun _h13 => ?_)
    · refine ev_iconst d_45_38 ci_1 ?_
      refine ev_goto (tgt := 43) d_45_39 rfl ?_
      exact ev_zret d_45_43 rfl (Or.inr rfl)
    · refine ev_aload_n d_45_16 rfl ?_
      refine ev_getf (v := .int (σ.1 (10 * j + 2) 7)) d_45_17 fl_3_56 (ltn (by decide) hj hN) (shq_2 hj) rfl ?_
      refine ev_iconst d_45_20 ci_3 ?_
      refine ev_icmp_ne (mmPI σ) (tgt := 42) d_45_21 rfl (fun _h21 => ?_) (fun _h21 => ?_)
      · refine ev_iconst d_45_42 ci_0 ?_
        exact ev_zret d_45_43 rfl (Or.inl rfl)
      · refine ev_aload_n d_45_24 rfl ?_
        refine ev_cvI (As := []) (t := []) (e' := 0) d_45_25 ml_3_130 rfl rfl rfl rfl rfl (by decide) rfl (ltn (by decide) hj hN) (shq_2 hj) rfl rfl (ev_n_isStarter hN j σ hj) ?_
        refine ev_if_eq (mmPI σ) (tgt := 42) d_45_28 rfl (fun _h28 => ?_) (fun _h28 => ?_)
        · refine ev_iconst d_45_42 ci_0 ?_
          exact ev_zret d_45_43 rfl (Or.inl rfl)
        · refine ev_aload_n d_45_31 rfl ?_
          refine ev_getf (v := .int (σ.1 (10 * j + 2) 9)) d_45_32 fl_3_118 (ltn (by decide) hj hN) (shq_2 hj) rfl ?_
          refine ev_if_le (mmPI σ) (tgt := 42) d_45_35 rfl (fun _h35 => ?_) (fun _h35 => ?_)
          · refine ev_iconst d_45_42 ci_0 ?_
            exact ev_zret d_45_43 rfl (Or.inl rfl)
          · refine ev_iconst d_45_38 ci_1 ?_
            refine ev_goto (tgt := 43) d_45_39 rfl ?_
            exact ev_zret d_45_43 rfl (Or.inr rfl)
def sp_n_maySendMessage (j : Nat) (σ : mmS) : Int32 :=
if (σ.1 (10 * j + 2) 7) = (4 : Int32) then
  if (σ.1 (10 * j + 2) 11) = 0 then
    if (sp_n_isInMinislots j σ) = 0 then
      (0 : Int32)
    else
      if (((σ.1 (10 * j + 3) 0) - (40 : Int32)) - ((σ.1 (10 * j + 3) 0) - (40 : Int32)) / (4 : Int32) * (4 : Int32)) = (2 : Int32) then
        (1 : Int32)
      else
        (0 : Int32)
  else
    (0 : Int32)
else
  (0 : Int32)
theorem ev_n_maySendMessage (hN : 65 ≤ N) (j : Nat) (σ : mmS) (hj : j < 4) : Ev N L xs (50, 0, lv_args 0 [.ref (10 * j + 2)], [], 0, σ) ((mmPI σ) (sp_n_maySendMessage j σ)) := by
  unfold sp_n_maySendMessage
  show Ev N L xs (50, 0, [(0, .ref (10 * j + 2))], [], 0, σ) _
  refine ev_aload_n d_50_0 rfl ?_
  refine ev_getf (v := .int (σ.1 (10 * j + 2) 7)) d_50_1 fl_3_56 (ltn (by decide) hj hN) (shq_2 hj) rfl ?_
  refine ev_iconst d_50_4 ci_4 ?_
  refine ev_icmp_ne (mmPI σ) (tgt := 42) d_50_5 rfl (fun _h5 => ?_) (fun _h5 => ?_)
  · refine ev_iconst d_50_42 ci_0 ?_
    exact ev_zret d_50_43 rfl (Or.inl rfl)
  · refine ev_aload_n d_50_8 rfl ?_
    refine ev_getf (v := .int (σ.1 (10 * j + 2) 11)) d_50_9 fl_3_124 (ltn (by decide) hj hN) (shq_2 hj) rfl ?_
    refine ev_if_ne (mmPI σ) (tgt := 42) d_50_12 rfl (fun _h12 => ?_) (fun _h12 => ?_)
    · refine ev_iconst d_50_42 ci_0 ?_
      exact ev_zret d_50_43 rfl (Or.inl rfl)
    · refine ev_aload_n d_50_15 rfl ?_
      refine ev_cvI (As := []) (t := []) (e' := 0) d_50_16 ml_3_141 rfl rfl rfl rfl rfl (by decide) rfl (ltn (by decide) hj hN) (shq_2 hj) rfl rfl (ev_n_isInMinislots hN j σ hj) ?_
      refine ev_if_eq (mmPI σ) (tgt := 42) d_50_19 rfl (fun _h19 => ?_) (fun _h19 => ?_)
      · refine ev_iconst d_50_42 ci_0 ?_
        exact ev_zret d_50_43 rfl (Or.inl rfl)
      · refine ev_aload_n d_50_22 rfl ?_
        refine ev_getf (v := .ref (10 * j + 3)) d_50_23 fl_3_21 (ltn (by decide) hj hN) (shq_2 hj) rfl ?_
        refine ev_getf (v := .int (σ.1 (10 * j + 3) 0)) d_50_26 fl_3_144 (ltn (by decide) hj hN) (shq_3 hj) rfl ?_
        refine ev_bipush d_50_29 cb_40 ?_
        refine ev_isub (v := ((σ.1 (10 * j + 3) 0) - (40 : Int32))) d_50_31 rfl ?_
        refine ev_iconst d_50_32 ci_4 ?_
        refine ev_irem (v := (((σ.1 (10 * j + 3) 0) - (40 : Int32)) - ((σ.1 (10 * j + 3) 0) - (40 : Int32)) / (4 : Int32) * (4 : Int32))) d_50_33 (by decide) rfl ?_
        refine ev_iconst d_50_34 ci_2 ?_
        refine ev_icmp_ne (mmPI σ) (tgt := 42) d_50_35 rfl (fun _h35 => ?_) (fun _h35 => ?_)
        · refine ev_iconst d_50_42 ci_0 ?_
          exact ev_zret d_50_43 rfl (Or.inl rfl)
        · refine ev_iconst d_50_38 ci_1 ?_
          refine ev_goto (tgt := 43) d_50_39 rfl ?_
          exact ev_zret d_50_43 rfl (Or.inr rfl)
theorem bz_n_isStarter (j : Nat) (σ : mmS) : sp_n_isStarter j σ = 0 ∨ sp_n_isStarter j σ = 1 := by
  unfold sp_n_isStarter
  repeat (first | exact Or.inl rfl | exact Or.inr rfl | exact bz_b_isWithin _ _ _ _ | split)
def sp_n_wordToSend (j : Nat) (σ : mmS) : Int64 × mmS :=
if (σ.1 (10 * j + 3) 0) = (sp_n_dueAt (σ.1 (10 * j + 2) 0) σ) then
  if (sp_n_maySendInSlot j σ) = 0 then
    if (sp_n_maySendMessage j σ) = 0 then
      ((-1 : Int64), σ)
    else
      if (sp_g_isDue j (σ.1 (10 * j + 2) 10) (σ.1 (10 * j + 3) 1) σ) = 0 then
        ((-1 : Int64), σ)
      else
        ((sp_w_make (σ.1 (10 * j + 10) 1) (σ.1 (10 * j + 3) 1) (0 : Int32) (σ.1 (10 * j + 10) 2) (mmI (mmI σ (10 * j + 10) 0 (0 : Int32)) (10 * j + 2) 11 (1 : Int32))), (mmI (mmI σ (10 * j + 10) 0 (0 : Int32)) (10 * j + 2) 11 (1 : Int32)))
  else
    ((sp_w_make ((σ.1 (10 * j + 2) 0) + (1 : Int32)) (σ.1 (10 * j + 3) 1) (sp_n_isStarter j σ) (σ.1 (10 * j + 2) 12) σ), σ)
else
  if (sp_n_maySendMessage j σ) = 0 then
    ((-1 : Int64), σ)
  else
    if (sp_g_isDue j (σ.1 (10 * j + 2) 10) (σ.1 (10 * j + 3) 1) σ) = 0 then
      ((-1 : Int64), σ)
    else
      ((sp_w_make (σ.1 (10 * j + 10) 1) (σ.1 (10 * j + 3) 1) (0 : Int32) (σ.1 (10 * j + 10) 2) (mmI (mmI σ (10 * j + 10) 0 (0 : Int32)) (10 * j + 2) 11 (1 : Int32))), (mmI (mmI σ (10 * j + 10) 0 (0 : Int32)) (10 * j + 2) 11 (1 : Int32)))
theorem ev_n_wordToSend (hN : 65 ≤ N) (j : Nat) (σ : mmS) (hj : j < 4) : Ev N L xs (43, 0, lv_args 0 [.ref (10 * j + 2)], [], 0, σ) (mmSJ (sp_n_wordToSend j σ)) := by
  unfold sp_n_wordToSend
  show Ev N L xs (43, 0, [(0, .ref (10 * j + 2))], [], 0, σ) _
  refine ev_aload_n d_43_0 rfl ?_
  refine ev_getf (v := .ref (10 * j + 3)) d_43_1 fl_3_21 (ltn (by decide) hj hN) (shq_2 hj) rfl ?_
  refine ev_getf (v := .int (σ.1 (10 * j + 3) 0)) d_43_4 fl_3_144 (ltn (by decide) hj hN) (shq_3 hj) rfl ?_
  refine ev_aload_n d_43_7 rfl ?_
  refine ev_getf (v := .int (σ.1 (10 * j + 2) 0)) d_43_8 fl_3_9 (ltn (by decide) hj hN) (shq_2 hj) rfl ?_
  refine ev_csI (As := [.int (σ.1 (10 * j + 2) 0)]) (t := [.int (σ.1 (10 * j + 3) 0)]) (e' := 0) d_43_11 ml_3_160 rfl rfl rfl rfl rfl (by decide) rfl rfl (ev_n_dueAt hN (σ.1 (10 * j + 2) 0) σ) ?_
  refine ev_icmp_ne mmSJ (tgt := 49) d_43_14 rfl (fun _h14 => ?_) (fun _h14 => ?_)
  · refine ev_aload_n d_43_49 rfl ?_
    refine ev_cvI (As := []) (t := []) (e' := 0) d_43_50 ml_3_174 rfl rfl rfl rfl rfl (by decide) rfl (ltn (by decide) hj hN) (shq_2 hj) rfl rfl (ev_n_maySendMessage hN j σ hj) ?_
    refine ev_if_eq mmSJ (tgt := 116) d_43_53 rfl (fun _h53 => ?_) (fun _h53 => ?_)
    · refine ev_ldc2 d_43_116 kl_3_76 ?_
      exact ev_lret d_43_119 rfl
    · refine ev_aload_n d_43_56 rfl ?_
      refine ev_getf (v := .ref (10 * j + 10)) d_43_57 fl_3_42 (ltn (by decide) hj hN) (shq_2 hj) rfl ?_
      refine ev_aload_n d_43_60 rfl ?_
      refine ev_getf (v := .int (σ.1 (10 * j + 2) 10)) d_43_61 fl_3_121 (ltn (by decide) hj hN) (shq_2 hj) rfl ?_
      refine ev_aload_n d_43_64 rfl ?_
      refine ev_getf (v := .ref (10 * j + 3)) d_43_65 fl_3_21 (ltn (by decide) hj hN) (shq_2 hj) rfl ?_
      refine ev_getf (v := .int (σ.1 (10 * j + 3) 1)) d_43_68 fl_3_167 (ltn (by decide) hj hN) (shq_3 hj) rfl ?_
      refine ev_cvI (As := [.int (σ.1 (10 * j + 2) 10), .int (σ.1 (10 * j + 3) 1)]) (t := []) (e' := 0) d_43_71 ml_3_177 rfl rfl rfl rfl rfl (by decide) rfl (ltn (by decide) hj hN) (shq_10 hj) rfl rfl (ev_g_isDue hN j (σ.1 (10 * j + 2) 10) (σ.1 (10 * j + 3) 1) σ hj) ?_
      refine ev_if_eq mmSJ (tgt := 116) d_43_74 rfl (fun _h74 => ?_) (fun _h74 => ?_)
      · refine ev_ldc2 d_43_116 kl_3_76 ?_
        exact ev_lret d_43_119 rfl
      · refine ev_aload_n d_43_77 rfl ?_
        refine ev_getf (v := .ref (10 * j + 10)) d_43_78 fl_3_42 (ltn (by decide) hj hN) (shq_2 hj) rfl ?_
        refine ev_iconst d_43_81 ci_0 ?_
        refine ev_putf d_43_82 fl_3_69 (ltn (by decide) hj hN) (shq_10 hj) rfl (Or.inr ⟨rfl, (Or.inl rfl)⟩) ?_
        refine ev_aload_n d_43_85 rfl ?_
        refine ev_iconst d_43_86 ci_1 ?_
        refine ev_putf d_43_87 fl_3_124 (ltn (by decide) hj hN) (shq_2 hj) rfl (Or.inr ⟨rfl, (Or.inr rfl)⟩) ?_
        refine ev_aload_n d_43_90 rfl ?_
        refine ev_getf (v := .ref (10 * j + 10)) d_43_91 fl_3_42 (ltn (by decide) hj hN) (shq_2 hj) rfl ?_
        refine ev_getf (v := .int (σ.1 (10 * j + 10) 1)) d_43_94 fl_3_181 (ltn (by decide) hj hN) (shq_10 hj) (rdO ((rdK (rdn (by decide))).trans (rdI (by decide)))) ?_
        refine ev_aload_n d_43_97 rfl ?_
        refine ev_getf (v := .ref (10 * j + 3)) d_43_98 fl_3_21 (ltn (by decide) hj hN) (shq_2 hj) rfl ?_
        refine ev_getf (v := .int (σ.1 (10 * j + 3) 1)) d_43_101 fl_3_167 (ltn (by decide) hj hN) (shq_3 hj) (rdO ((rdK (rdn (by decide))).trans (rdK (rdn (by decide))))) ?_
        refine ev_iconst d_43_104 ci_0 ?_
        refine ev_aload_n d_43_105 rfl ?_
        refine ev_getf (v := .ref (10 * j + 10)) d_43_106 fl_3_42 (ltn (by decide) hj hN) (shq_2 hj) rfl ?_
        refine ev_getf (v := .int (σ.1 (10 * j + 10) 2)) d_43_109 fl_3_184 (ltn (by decide) hj hN) (shq_10 hj) (rdO ((rdK (rdn (by decide))).trans (rdI (by decide)))) ?_
        refine ev_csJ (As := [.int (σ.1 (10 * j + 10) 1), .int (σ.1 (10 * j + 3) 1), .int (0 : Int32), .int (σ.1 (10 * j + 10) 2)]) (t := []) (e' := 0) d_43_112 ml_3_170 rfl rfl rfl rfl rfl (by decide) rfl rfl (ev_w_make hN (σ.1 (10 * j + 10) 1) (σ.1 (10 * j + 3) 1) (0 : Int32) (σ.1 (10 * j + 10) 2) (mmI (mmI σ (10 * j + 10) 0 (0 : Int32)) (10 * j + 2) 11 (1 : Int32))) ?_
        exact ev_lret d_43_115 rfl
  · refine ev_aload_n d_43_17 rfl ?_
    refine ev_cvI (As := []) (t := []) (e' := 0) d_43_18 ml_3_164 rfl rfl rfl rfl rfl (by decide) rfl (ltn (by decide) hj hN) (shq_2 hj) rfl rfl (ev_n_maySendInSlot hN j σ hj) ?_
    refine ev_if_eq mmSJ (tgt := 49) d_43_21 rfl (fun _h21 => ?_) (fun _h21 => ?_)
    · refine ev_aload_n d_43_49 rfl ?_
      refine ev_cvI (As := []) (t := []) (e' := 0) d_43_50 ml_3_174 rfl rfl rfl rfl rfl (by decide) rfl (ltn (by decide) hj hN) (shq_2 hj) rfl rfl (ev_n_maySendMessage hN j σ hj) ?_
      refine ev_if_eq mmSJ (tgt := 116) d_43_53 rfl (fun _h53 => ?_) (fun _h53 => ?_)
      · refine ev_ldc2 d_43_116 kl_3_76 ?_
        exact ev_lret d_43_119 rfl
      · refine ev_aload_n d_43_56 rfl ?_
        refine ev_getf (v := .ref (10 * j + 10)) d_43_57 fl_3_42 (ltn (by decide) hj hN) (shq_2 hj) rfl ?_
        refine ev_aload_n d_43_60 rfl ?_
        refine ev_getf (v := .int (σ.1 (10 * j + 2) 10)) d_43_61 fl_3_121 (ltn (by decide) hj hN) (shq_2 hj) rfl ?_
        refine ev_aload_n d_43_64 rfl ?_
        refine ev_getf (v := .ref (10 * j + 3)) d_43_65 fl_3_21 (ltn (by decide) hj hN) (shq_2 hj) rfl ?_
        refine ev_getf (v := .int (σ.1 (10 * j + 3) 1)) d_43_68 fl_3_167 (ltn (by decide) hj hN) (shq_3 hj) rfl ?_
        refine ev_cvI (As := [.int (σ.1 (10 * j + 2) 10), .int (σ.1 (10 * j + 3) 1)]) (t := []) (e' := 0) d_43_71 ml_3_177 rfl rfl rfl rfl rfl (by decide) rfl (ltn (by decide) hj hN) (shq_10 hj) rfl rfl (ev_g_isDue hN j (σ.1 (10 * j + 2) 10) (σ.1 (10 * j + 3) 1) σ hj) ?_
        refine ev_if_eq mmSJ (tgt := 116) d_43_74 rfl (fun _h74 => ?_) (fun _h74 => ?_)
        · refine ev_ldc2 d_43_116 kl_3_76 ?_
          exact ev_lret d_43_119 rfl
        · refine ev_aload_n d_43_77 rfl ?_
          refine ev_getf (v := .ref (10 * j + 10)) d_43_78 fl_3_42 (ltn (by decide) hj hN) (shq_2 hj) rfl ?_
          refine ev_iconst d_43_81 ci_0 ?_
          refine ev_putf d_43_82 fl_3_69 (ltn (by decide) hj hN) (shq_10 hj) rfl (Or.inr ⟨rfl, (Or.inl rfl)⟩) ?_
          refine ev_aload_n d_43_85 rfl ?_
          refine ev_iconst d_43_86 ci_1 ?_
          refine ev_putf d_43_87 fl_3_124 (ltn (by decide) hj hN) (shq_2 hj) rfl (Or.inr ⟨rfl, (Or.inr rfl)⟩) ?_
          refine ev_aload_n d_43_90 rfl ?_
          refine ev_getf (v := .ref (10 * j + 10)) d_43_91 fl_3_42 (ltn (by decide) hj hN) (shq_2 hj) rfl ?_
          refine ev_getf (v := .int (σ.1 (10 * j + 10) 1)) d_43_94 fl_3_181 (ltn (by decide) hj hN) (shq_10 hj) (rdO ((rdK (rdn (by decide))).trans (rdI (by decide)))) ?_
          refine ev_aload_n d_43_97 rfl ?_
          refine ev_getf (v := .ref (10 * j + 3)) d_43_98 fl_3_21 (ltn (by decide) hj hN) (shq_2 hj) rfl ?_
          refine ev_getf (v := .int (σ.1 (10 * j + 3) 1)) d_43_101 fl_3_167 (ltn (by decide) hj hN) (shq_3 hj) (rdO ((rdK (rdn (by decide))).trans (rdK (rdn (by decide))))) ?_
          refine ev_iconst d_43_104 ci_0 ?_
          refine ev_aload_n d_43_105 rfl ?_
          refine ev_getf (v := .ref (10 * j + 10)) d_43_106 fl_3_42 (ltn (by decide) hj hN) (shq_2 hj) rfl ?_
          refine ev_getf (v := .int (σ.1 (10 * j + 10) 2)) d_43_109 fl_3_184 (ltn (by decide) hj hN) (shq_10 hj) (rdO ((rdK (rdn (by decide))).trans (rdI (by decide)))) ?_
          refine ev_csJ (As := [.int (σ.1 (10 * j + 10) 1), .int (σ.1 (10 * j + 3) 1), .int (0 : Int32), .int (σ.1 (10 * j + 10) 2)]) (t := []) (e' := 0) d_43_112 ml_3_170 rfl rfl rfl rfl rfl (by decide) rfl rfl (ev_w_make hN (σ.1 (10 * j + 10) 1) (σ.1 (10 * j + 3) 1) (0 : Int32) (σ.1 (10 * j + 10) 2) (mmI (mmI σ (10 * j + 10) 0 (0 : Int32)) (10 * j + 2) 11 (1 : Int32))) ?_
          exact ev_lret d_43_115 rfl
    · refine ev_aload_n d_43_24 rfl ?_
      refine ev_getf (v := .int (σ.1 (10 * j + 2) 0)) d_43_25 fl_3_9 (ltn (by decide) hj hN) (shq_2 hj) rfl ?_
      refine ev_iconst d_43_28 ci_1 ?_
      refine ev_iadd (v := ((σ.1 (10 * j + 2) 0) + (1 : Int32))) d_43_29 rfl ?_
      refine ev_aload_n d_43_30 rfl ?_
      refine ev_getf (v := .ref (10 * j + 3)) d_43_31 fl_3_21 (ltn (by decide) hj hN) (shq_2 hj) rfl ?_
      refine ev_getf (v := .int (σ.1 (10 * j + 3) 1)) d_43_34 fl_3_167 (ltn (by decide) hj hN) (shq_3 hj) rfl ?_
      refine ev_aload_n d_43_37 rfl ?_
      refine ev_cvI (As := []) (t := [.int (σ.1 (10 * j + 3) 1), .int ((σ.1 (10 * j + 2) 0) + (1 : Int32))]) (e' := 0) d_43_38 ml_3_130 rfl rfl rfl rfl rfl (by decide) rfl (ltn (by decide) hj hN) (shq_2 hj) rfl rfl (ev_n_isStarter hN j σ hj) ?_
      refine ev_aload_n d_43_41 rfl ?_
      refine ev_getf (v := .int (σ.1 (10 * j + 2) 12)) d_43_42 fl_3_66 (ltn (by decide) hj hN) (shq_2 hj) rfl ?_
      refine ev_csJ (As := [.int ((σ.1 (10 * j + 2) 0) + (1 : Int32)), .int (σ.1 (10 * j + 3) 1), .int (sp_n_isStarter j σ), .int (σ.1 (10 * j + 2) 12)]) (t := []) (e' := 0) d_43_45 ml_3_170 rfl rfl rfl rfl rfl (by decide) rfl rfl (ev_w_make hN ((σ.1 (10 * j + 2) 0) + (1 : Int32)) (σ.1 (10 * j + 3) 1) (sp_n_isStarter j σ) (σ.1 (10 * j + 2) 12) σ) ?_
      exact ev_lret d_43_48 rfl
def sp_n_reflectLeading (j : Nat) (a0 : Int32) (σ : mmS) : mmS :=
if a0 ≤ 0 then
  if (σ.1 (10 * j + 3) 1) < (11 : Int32) then
    σ
  else
    (sp_n_listen j σ)
else
  (mmI σ (10 * j + 2) 7 (4 : Int32))
theorem ev_n_reflectLeading (hN : 65 ≤ N) (j : Nat) (a0 : Int32) (σ : mmS) (hj : j < 4) : Ev N L xs (40, 0, lv_args 0 [.ref (10 * j + 2), .int a0], [], 0, σ) (mmSV (sp_n_reflectLeading j a0 σ)) := by
  unfold sp_n_reflectLeading
  show Ev N L xs (40, 0, [(0, .ref (10 * j + 2)), (1, .int a0)], [], 0, σ) _
  refine ev_iload_n d_40_0 rfl ?_
  refine ev_if_le mmSV (tgt := 12) d_40_1 rfl (fun _h1 => ?_) (fun _h1 => ?_)
  · refine ev_aload_n d_40_12 rfl ?_
    refine ev_getf (v := .ref (10 * j + 3)) d_40_13 fl_3_21 (ltn (by decide) hj hN) (shq_2 hj) rfl ?_
    refine ev_getf (v := .int (σ.1 (10 * j + 3) 1)) d_40_16 fl_3_167 (ltn (by decide) hj hN) (shq_3 hj) rfl ?_
    refine ev_bipush d_40_19 cb_11 ?_
    refine ev_icmp_lt mmSV (tgt := 28) d_40_21 rfl (fun _h21 => ?_) (fun _h21 => ?_)
    · exact ev_vret d_40_28 rfl
    · refine ev_aload_n d_40_24 rfl ?_
      refine ev_cvV (As := []) (t := []) (e' := 0) d_40_25 ml_3_73 rfl rfl rfl rfl rfl (by decide) rfl (ltn (by decide) hj hN) (shq_2 hj) rfl rfl (ev_n_listen hN j σ hj) ?_
      exact ev_vret d_40_28 rfl
  · refine ev_aload_n d_40_4 rfl ?_
    refine ev_iconst d_40_5 ci_4 ?_
    refine ev_putf d_40_6 fl_3_56 (ltn (by decide) hj hN) (shq_2 hj) rfl (Or.inl rfl) ?_
    refine ev_goto (tgt := 28) d_40_9 rfl ?_
    exact ev_vret d_40_28 rfl
def sp_n_reflectJoining (j : Nat) (a0 : Int32) (σ : mmS) : mmS :=
if (σ.1 (10 * j + 2) 9) = (-1 : Int32) then
  (mmI σ (10 * j + 2) 9 (0 : Int32))
else
  if a0 = 0 then
    (sp_n_listen j σ)
  else
    if (sp_n_isStarter j σ) = 0 then
      if a0 ≤ (1 : Int32) then
        σ
      else
        if ((σ.1 (10 * j + 2) 9) + (1 : Int32)) = (2 : Int32) then
          (mmI (mmI σ (10 * j + 2) 9 ((σ.1 (10 * j + 2) 9) + (1 : Int32))) (10 * j + 2) 7 (4 : Int32))
        else
          (mmI σ (10 * j + 2) 9 ((σ.1 (10 * j + 2) 9) + (1 : Int32)))
    else
      if ((σ.1 (10 * j + 2) 9) + (1 : Int32)) = (2 : Int32) then
        (mmI (mmI σ (10 * j + 2) 9 ((σ.1 (10 * j + 2) 9) + (1 : Int32))) (10 * j + 2) 7 (4 : Int32))
      else
        (mmI σ (10 * j + 2) 9 ((σ.1 (10 * j + 2) 9) + (1 : Int32)))
theorem ev_n_reflectJoining (hN : 65 ≤ N) (j : Nat) (a0 : Int32) (σ : mmS) (hj : j < 4) : Ev N L xs (41, 0, lv_args 0 [.ref (10 * j + 2), .int a0], [], 0, σ) (mmSV (sp_n_reflectJoining j a0 σ)) := by
  unfold sp_n_reflectJoining
  show Ev N L xs (41, 0, [(0, .ref (10 * j + 2)), (1, .int a0)], [], 0, σ) _
  refine ev_aload_n d_41_0 rfl ?_
  refine ev_getf (v := .int (σ.1 (10 * j + 2) 9)) d_41_1 fl_3_118 (ltn (by decide) hj hN) (shq_2 hj) rfl ?_
  refine ev_iconst d_41_4 ci_m1 ?_
  refine ev_icmp_ne mmSV (tgt := 16) d_41_5 rfl (fun _h5 => ?_) (fun _h5 => ?_)
  · refine ev_iload_n d_41_16 rfl ?_
    refine ev_if_ne mmSV (tgt := 27) d_41_17 rfl (fun _h17 => ?_) (fun _h17 => ?_)
    · refine ev_aload_n d_41_27 rfl ?_
      refine ev_cvI (As := []) (t := []) (e' := 0) d_41_28 ml_3_130 rfl rfl rfl rfl rfl (by decide) rfl (ltn (by decide) hj hN) (shq_2 hj) rfl rfl (ev_n_isStarter hN j σ hj) ?_
      refine ev_if_ne mmSV (tgt := 39) d_41_31 rfl (fun _h31 => ?_) (fun _h31 => ?_)
      · refine ev_aload_n d_41_39 rfl ?_
        refine ev_dup d_41_40 rfl ?_
        refine ev_getf (v := .int (σ.1 (10 * j + 2) 9)) d_41_41 fl_3_118 (ltn (by decide) hj hN) (shq_2 hj) rfl ?_
        refine ev_iconst d_41_44 ci_1 ?_
        refine ev_iadd (v := ((σ.1 (10 * j + 2) 9) + (1 : Int32))) d_41_45 rfl ?_
        refine ev_putf d_41_46 fl_3_118 (ltn (by decide) hj hN) (shq_2 hj) rfl (Or.inl rfl) ?_
        refine ev_aload_n d_41_49 rfl ?_
        refine ev_getf (v := .int ((σ.1 (10 * j + 2) 9) + (1 : Int32))) d_41_50 fl_3_118 (ltn (by decide) hj hN) (shq_2 hj) (rdO (rdS)) ?_
        refine ev_iconst d_41_53 ci_2 ?_
        refine ev_icmp_ne mmSV (tgt := 62) d_41_54 rfl (fun _h54 => ?_) (fun _h54 => ?_)
        · exact ev_vret d_41_62 rfl
        · refine ev_aload_n d_41_57 rfl ?_
          refine ev_iconst d_41_58 ci_4 ?_
          refine ev_putf d_41_59 fl_3_56 (ltn (by decide) hj hN) (shq_2 hj) rfl (Or.inl rfl) ?_
          exact ev_vret d_41_62 rfl
      · refine ev_iload_n d_41_34 rfl ?_
        refine ev_iconst d_41_35 ci_1 ?_
        refine ev_icmp_le mmSV (tgt := 62) d_41_36 rfl (fun _h36 => ?_) (fun _h36 => ?_)
        · exact ev_vret d_41_62 rfl
        · refine ev_aload_n d_41_39 rfl ?_
          refine ev_dup d_41_40 rfl ?_
          refine ev_getf (v := .int (σ.1 (10 * j + 2) 9)) d_41_41 fl_3_118 (ltn (by decide) hj hN) (shq_2 hj) rfl ?_
          refine ev_iconst d_41_44 ci_1 ?_
          refine ev_iadd (v := ((σ.1 (10 * j + 2) 9) + (1 : Int32))) d_41_45 rfl ?_
          refine ev_putf d_41_46 fl_3_118 (ltn (by decide) hj hN) (shq_2 hj) rfl (Or.inl rfl) ?_
          refine ev_aload_n d_41_49 rfl ?_
          refine ev_getf (v := .int ((σ.1 (10 * j + 2) 9) + (1 : Int32))) d_41_50 fl_3_118 (ltn (by decide) hj hN) (shq_2 hj) (rdO (rdS)) ?_
          refine ev_iconst d_41_53 ci_2 ?_
          refine ev_icmp_ne mmSV (tgt := 62) d_41_54 rfl (fun _h54 => ?_) (fun _h54 => ?_)
          · exact ev_vret d_41_62 rfl
          · refine ev_aload_n d_41_57 rfl ?_
            refine ev_iconst d_41_58 ci_4 ?_
            refine ev_putf d_41_59 fl_3_56 (ltn (by decide) hj hN) (shq_2 hj) rfl (Or.inl rfl) ?_
            exact ev_vret d_41_62 rfl
    · refine ev_aload_n d_41_20 rfl ?_
      refine ev_cvV (As := []) (t := []) (e' := 0) d_41_21 ml_3_73 rfl rfl rfl rfl rfl (by decide) rfl (ltn (by decide) hj hN) (shq_2 hj) rfl rfl (ev_n_listen hN j σ hj) ?_
      refine ev_goto (tgt := 62) d_41_24 rfl ?_
      exact ev_vret d_41_62 rfl
  · refine ev_aload_n d_41_8 rfl ?_
    refine ev_iconst d_41_9 ci_0 ?_
    refine ev_putf d_41_10 fl_3_118 (ltn (by decide) hj hN) (shq_2 hj) rfl (Or.inl rfl) ?_
    refine ev_goto (tgt := 62) d_41_13 rfl ?_
    exact ev_vret d_41_62 rfl
def sp_n_reflectAlone (j : Nat) (σ : mmS) : mmS :=
if (σ.1 (10 * j + 2) 7) = (4 : Int32) then
  (mmI (mmI σ (10 * j + 2) 7 (5 : Int32)) (10 * j + 2) 9 (1 : Int32))
else
  if ((σ.1 (10 * j + 2) 9) + (1 : Int32)) = (3 : Int32) then
    (mmI (mmI σ (10 * j + 2) 9 ((σ.1 (10 * j + 2) 9) + (1 : Int32))) (10 * j + 2) 7 (6 : Int32))
  else
    (mmI σ (10 * j + 2) 9 ((σ.1 (10 * j + 2) 9) + (1 : Int32)))
theorem ev_n_reflectAlone (hN : 65 ≤ N) (j : Nat) (σ : mmS) (hj : j < 4) : Ev N L xs (42, 0, lv_args 0 [.ref (10 * j + 2)], [], 0, σ) (mmSV (sp_n_reflectAlone j σ)) := by
  unfold sp_n_reflectAlone
  show Ev N L xs (42, 0, [(0, .ref (10 * j + 2))], [], 0, σ) _
  refine ev_aload_n d_42_0 rfl ?_
  refine ev_getf (v := .int (σ.1 (10 * j + 2) 7)) d_42_1 fl_3_56 (ltn (by decide) hj hN) (shq_2 hj) rfl ?_
  refine ev_iconst d_42_4 ci_4 ?_
  refine ev_icmp_ne mmSV (tgt := 19) d_42_5 rfl (fun _h5 => ?_) (fun _h5 => ?_)
  · refine ev_aload_n d_42_19 rfl ?_
    refine ev_dup d_42_20 rfl ?_
    refine ev_getf (v := .int (σ.1 (10 * j + 2) 9)) d_42_21 fl_3_118 (ltn (by decide) hj hN) (shq_2 hj) rfl ?_
    refine ev_iconst d_42_24 ci_1 ?_
    refine ev_iadd (v := ((σ.1 (10 * j + 2) 9) + (1 : Int32))) d_42_25 rfl ?_
    refine ev_putf d_42_26 fl_3_118 (ltn (by decide) hj hN) (shq_2 hj) rfl (Or.inl rfl) ?_
    refine ev_aload_n d_42_29 rfl ?_
    refine ev_getf (v := .int ((σ.1 (10 * j + 2) 9) + (1 : Int32))) d_42_30 fl_3_118 (ltn (by decide) hj hN) (shq_2 hj) (rdO (rdS)) ?_
    refine ev_iconst d_42_33 ci_3 ?_
    refine ev_icmp_ne mmSV (tgt := 43) d_42_34 rfl (fun _h34 => ?_) (fun _h34 => ?_)
    · exact ev_vret d_42_43 rfl
    · refine ev_aload_n d_42_37 rfl ?_
      refine ev_bipush d_42_38 cb_6 ?_
      refine ev_putf d_42_40 fl_3_56 (ltn (by decide) hj hN) (shq_2 hj) rfl (Or.inl rfl) ?_
      exact ev_vret d_42_43 rfl
  · refine ev_aload_n d_42_8 rfl ?_
    refine ev_iconst d_42_9 ci_5 ?_
    refine ev_putf d_42_10 fl_3_56 (ltn (by decide) hj hN) (shq_2 hj) rfl (Or.inl rfl) ?_
    refine ev_aload_n d_42_13 rfl ?_
    refine ev_iconst d_42_14 ci_1 ?_
    refine ev_putf d_42_15 fl_3_118 (ltn (by decide) hj hN) (shq_2 hj) rfl (Or.inl rfl) ?_
    exact ev_vret d_42_18 rfl
def sp_n_reflect_21 (j : Nat) (σ : mmS) : mmS :=
if (σ.1 (10 * j + 2) 7) = (2 : Int32) then
  (sp_n_reflectLeading j (sp_d_heardInBoth j σ) σ)
else
  if (σ.1 (10 * j + 2) 7) = (3 : Int32) then
    (sp_n_reflectJoining j (sp_d_heardInBoth j σ) σ)
  else
    if (sp_d_heardInBoth j σ) ≤ 0 then
      (sp_n_reflectAlone j σ)
    else
      (mmI σ (10 * j + 2) 7 (4 : Int32))
theorem ev_n_reflect_21 (hN : 65 ≤ N) (j : Nat) (σ : mmS) (hj : j < 4) : Ev N L xs (31, 21, [(0, .ref (10 * j + 2))], [], 0, σ) (mmSV (sp_n_reflect_21 j σ)) := by
  unfold sp_n_reflect_21
  refine ev_aload_n d_31_21 rfl ?_
  refine ev_getf (v := .ref (10 * j + 5)) d_31_22 fl_3_35 (ltn (by decide) hj hN) (shq_2 hj) rfl ?_
  refine ev_cvI (As := []) (t := []) (e' := 0) d_31_25 ml_3_210 rfl rfl rfl rfl rfl (by decide) rfl (ltn (by decide) hj hN) (shq_5 hj) rfl rfl (ev_d_heardInBoth hN j σ hj) ?_
  refine ev_istore_n (lv' := [(1, .int (sp_d_heardInBoth j σ)), (0, .ref (10 * j + 2))]) d_31_28 (by decide) rfl ?_
  refine ev_aload_n d_31_29 rfl ?_
  refine ev_getf (v := .int (σ.1 (10 * j + 2) 7)) d_31_30 fl_3_56 (ltn (by decide) hj hN) (shq_2 hj) rfl ?_
  refine ev_iconst d_31_33 ci_2 ?_
  refine ev_icmp_ne mmSV (tgt := 45) d_31_34 rfl (fun _h34 => ?_) (fun _h34 => ?_)
  · refine ev_aload_n d_31_45 rfl ?_
    refine ev_getf (v := .int (σ.1 (10 * j + 2) 7)) d_31_46 fl_3_56 (ltn (by decide) hj hN) (shq_2 hj) rfl ?_
    refine ev_iconst d_31_49 ci_3 ?_
    refine ev_icmp_ne mmSV (tgt := 61) d_31_50 rfl (fun _h50 => ?_) (fun _h50 => ?_)
    · refine ev_iload_n d_31_61 rfl ?_
      refine ev_if_le mmSV (tgt := 73) d_31_62 rfl (fun _h62 => ?_) (fun _h62 => ?_)
      · refine ev_aload_n d_31_73 rfl ?_
        refine ev_cvV (As := []) (t := []) (e' := 0) d_31_74 ml_3_220 rfl rfl rfl rfl rfl (by decide) rfl (ltn (by decide) hj hN) (shq_2 hj) rfl rfl (ev_n_reflectAlone hN j σ hj) ?_
        exact ev_vret d_31_77 rfl
      · refine ev_aload_n d_31_65 rfl ?_
        refine ev_iconst d_31_66 ci_4 ?_
        refine ev_putf d_31_67 fl_3_56 (ltn (by decide) hj hN) (shq_2 hj) rfl (Or.inl rfl) ?_
        refine ev_goto (tgt := 77) d_31_70 rfl ?_
        exact ev_vret d_31_77 rfl
    · refine ev_aload_n d_31_53 rfl ?_
      refine ev_iload_n d_31_54 rfl ?_
      refine ev_cvV (As := [.int (sp_d_heardInBoth j σ)]) (t := []) (e' := 0) d_31_55 ml_3_217 rfl rfl rfl rfl rfl (by decide) rfl (ltn (by decide) hj hN) (shq_2 hj) rfl rfl (ev_n_reflectJoining hN j (sp_d_heardInBoth j σ) σ hj) ?_
      refine ev_goto (tgt := 77) d_31_58 rfl ?_
      exact ev_vret d_31_77 rfl
  · refine ev_aload_n d_31_37 rfl ?_
    refine ev_iload_n d_31_38 rfl ?_
    refine ev_cvV (As := [.int (sp_d_heardInBoth j σ)]) (t := []) (e' := 0) d_31_39 ml_3_213 rfl rfl rfl rfl rfl (by decide) rfl (ltn (by decide) hj hN) (shq_2 hj) rfl rfl (ev_n_reflectLeading hN j (sp_d_heardInBoth j σ) σ hj) ?_
    refine ev_goto (tgt := 77) d_31_42 rfl ?_
    exact ev_vret d_31_77 rfl
def sp_n_reflect_18 (j : Nat) (s0 : Int32) (s1 : Int32) (σ : mmS) : mmS :=
(sp_n_reflect_21 j (sp_t_correct j s1 s0 σ))
theorem ev_n_reflect_18 (hN : 65 ≤ N) (j : Nat) (s0 : Int32) (s1 : Int32) (σ : mmS) (hj : j < 4) : Ev N L xs (31, 18, [(0, .ref (10 * j + 2))], [.int s0, .int s1, .ref (10 * j + 3)], 0, σ) (mmSV (sp_n_reflect_18 j s0 s1 σ)) := by
  unfold sp_n_reflect_18
  refine ev_cvV (As := [.int s1, .int s0]) (t := []) (e' := 0) d_31_18 ml_3_207 rfl rfl rfl rfl rfl (by decide) rfl (ltn (by decide) hj hN) (shq_3 hj) rfl rfl (ev_t_correct hN j s1 s0 σ hj) ?_
  exact ev_n_reflect_21 hN j (sp_t_correct j s1 s0 σ) hj
def sp_n_reflect_11 (j : Nat) (s0 : Int32) (σ : mmS) : mmS :=
(sp_n_reflect_18 j ((sp_d_middleInOdd j σ).1) s0 ((sp_d_middleInOdd j σ).2))
theorem ev_n_reflect_11 (hN : 65 ≤ N) (j : Nat) (s0 : Int32) (σ : mmS) (hj : j < 4) : Ev N L xs (31, 11, [(0, .ref (10 * j + 2))], [.int s0, .ref (10 * j + 3)], 0, σ) (mmSV (sp_n_reflect_11 j s0 σ)) := by
  unfold sp_n_reflect_11
  refine ev_aload_n d_31_11 rfl ?_
  refine ev_getf (v := .ref (10 * j + 5)) d_31_12 fl_3_35 (ltn (by decide) hj hN) (shq_2 hj) rfl ?_
  refine ev_cvI (As := []) (t := [.int s0, .ref (10 * j + 3)]) (e' := 0) d_31_15 ml_3_204 rfl rfl rfl rfl rfl (by decide) rfl (ltn (by decide) hj hN) (shq_5 hj) rfl rfl (ev_d_middleInOdd hN j σ hj) ?_
  exact ev_n_reflect_18 hN j ((sp_d_middleInOdd j σ).1) s0 ((sp_d_middleInOdd j σ).2) hj
def sp_n_reflect (j : Nat) (σ : mmS) : mmS :=
(sp_n_reflect_11 j ((sp_d_middleChange j σ).1) ((sp_d_middleChange j σ).2))
theorem ev_n_reflect (hN : 65 ≤ N) (j : Nat) (σ : mmS) (hj : j < 4) : Ev N L xs (31, 0, lv_args 0 [.ref (10 * j + 2)], [], 0, σ) (mmSV (sp_n_reflect j σ)) := by
  unfold sp_n_reflect
  show Ev N L xs (31, 0, [(0, .ref (10 * j + 2))], [], 0, σ) _
  refine ev_aload_n d_31_0 rfl ?_
  refine ev_getf (v := .ref (10 * j + 3)) d_31_1 fl_3_21 (ltn (by decide) hj hN) (shq_2 hj) rfl ?_
  refine ev_aload_n d_31_4 rfl ?_
  refine ev_getf (v := .ref (10 * j + 5)) d_31_5 fl_3_35 (ltn (by decide) hj hN) (shq_2 hj) rfl ?_
  refine ev_cvI (As := []) (t := [.ref (10 * j + 3)]) (e' := 0) d_31_8 ml_3_200 rfl rfl rfl rfl rfl (by decide) rfl (ltn (by decide) hj hN) (shq_5 hj) rfl rfl (ev_d_middleChange hN j σ hj) ?_
  exact ev_n_reflect_11 hN j ((sp_d_middleChange j σ).1) ((sp_d_middleChange j σ).2) hj
def sp_n_passInTime_45 (j : Nat) (σ : mmS) : mmS :=
if (σ.1 (10 * j + 3) 0) = (60 : Int32) then
  if (sp_t_isOdd j σ) = 0 then
    σ
  else
    (sp_n_reflect j σ)
else
  σ
theorem ev_n_passInTime_45 (hN : 65 ≤ N) (j : Nat) (σ : mmS) (hj : j < 4) : Ev N L xs (25, 45, [(0, .ref (10 * j + 2))], [], 0, σ) (mmSV (sp_n_passInTime_45 j σ)) := by
  unfold sp_n_passInTime_45
  refine ev_aload_n d_25_45 rfl ?_
  refine ev_getf (v := .ref (10 * j + 3)) d_25_46 fl_3_21 (ltn (by decide) hj hN) (shq_2 hj) rfl ?_
  refine ev_getf (v := .int (σ.1 (10 * j + 3) 0)) d_25_49 fl_3_144 (ltn (by decide) hj hN) (shq_3 hj) rfl ?_
  refine ev_bipush d_25_52 cb_60 ?_
  refine ev_icmp_ne mmSV (tgt := 71) d_25_54 rfl (fun _h54 => ?_) (fun _h54 => ?_)
  · exact ev_vret d_25_71 rfl
  · refine ev_aload_n d_25_57 rfl ?_
    refine ev_getf (v := .ref (10 * j + 3)) d_25_58 fl_3_21 (ltn (by decide) hj hN) (shq_2 hj) rfl ?_
    refine ev_cvI (As := []) (t := []) (e' := 0) d_25_61 ml_3_150 rfl rfl rfl rfl rfl (by decide) rfl (ltn (by decide) hj hN) (shq_3 hj) rfl rfl (ev_t_isOdd hN j σ hj) ?_
    refine ev_if_eq mmSV (tgt := 71) d_25_64 rfl (fun _h64 => ?_) (fun _h64 => ?_)
    · exact ev_vret d_25_71 rfl
    · refine ev_aload_n d_25_67 rfl ?_
      refine ev_cvV (As := []) (t := []) (e' := 0) d_25_68 ml_3_153 rfl rfl rfl rfl rfl (by decide) rfl (ltn (by decide) hj hN) (shq_2 hj) rfl rfl (ev_n_reflect hN j σ hj) ?_
      exact ev_vret d_25_71 rfl
def sp_n_passInTime_19 (j : Nat) (σ : mmS) : mmS :=
if (sp_n_isInMinislots j σ) = 0 then
  (sp_n_passInTime_45 j σ)
else
  if (((σ.1 (10 * j + 3) 0) - (40 : Int32)) - ((σ.1 (10 * j + 3) 0) - (40 : Int32)) / (4 : Int32) * (4 : Int32)) = 0 then
    (sp_n_passInTime_45 j (sp_n_beginMinislot j σ))
  else
    (sp_n_passInTime_45 j σ)
theorem ev_n_passInTime_19 (hN : 65 ≤ N) (j : Nat) (σ : mmS) (hj : j < 4) : Ev N L xs (25, 19, [(0, .ref (10 * j + 2))], [], 0, σ) (mmSV (sp_n_passInTime_19 j σ)) := by
  unfold sp_n_passInTime_19
  refine ev_aload_n d_25_19 rfl ?_
  refine ev_cvI (As := []) (t := []) (e' := 0) d_25_20 ml_3_141 rfl rfl rfl rfl rfl (by decide) rfl (ltn (by decide) hj hN) (shq_2 hj) rfl rfl (ev_n_isInMinislots hN j σ hj) ?_
  refine ev_if_eq mmSV (tgt := 45) d_25_23 rfl (fun _h23 => ?_) (fun _h23 => ?_)
  · exact ev_n_passInTime_45 hN j σ hj
  · refine ev_aload_n d_25_26 rfl ?_
    refine ev_getf (v := .ref (10 * j + 3)) d_25_27 fl_3_21 (ltn (by decide) hj hN) (shq_2 hj) rfl ?_
    refine ev_getf (v := .int (σ.1 (10 * j + 3) 0)) d_25_30 fl_3_144 (ltn (by decide) hj hN) (shq_3 hj) rfl ?_
    refine ev_bipush d_25_33 cb_40 ?_
    refine ev_isub (v := ((σ.1 (10 * j + 3) 0) - (40 : Int32))) d_25_35 rfl ?_
    refine ev_iconst d_25_36 ci_4 ?_
    refine ev_irem (v := (((σ.1 (10 * j + 3) 0) - (40 : Int32)) - ((σ.1 (10 * j + 3) 0) - (40 : Int32)) / (4 : Int32) * (4 : Int32))) d_25_37 (by decide) rfl ?_
    refine ev_if_ne mmSV (tgt := 45) d_25_38 rfl (fun _h38 => ?_) (fun _h38 => ?_)
    · exact ev_n_passInTime_45 hN j σ hj
    · refine ev_aload_n d_25_41 rfl ?_
      refine ev_cvV (As := []) (t := []) (e' := 0) d_25_42 ml_3_147 rfl rfl rfl rfl rfl (by decide) rfl (ltn (by decide) hj hN) (shq_2 hj) rfl rfl (ev_n_beginMinislot hN j σ hj) ?_
      exact ev_n_passInTime_45 hN j (sp_n_beginMinislot j σ) hj
def sp_n_passInTime_7 (j : Nat) (s0 : Int32) (σ : mmS) : mmS :=
if s0 = 0 then
  (sp_n_passInTime_19 j σ)
else
  (sp_n_passInTime_19 j (sp_d_forget j σ))
theorem ev_n_passInTime_7 (hN : 65 ≤ N) (j : Nat) (s0 : Int32) (σ : mmS) (hj : j < 4) : Ev N L xs (25, 7, [(0, .ref (10 * j + 2))], [.int s0], 0, σ) (mmSV (sp_n_passInTime_7 j s0 σ)) := by
  unfold sp_n_passInTime_7
  refine ev_istore_n (lv' := [(1, .int s0), (0, .ref (10 * j + 2))]) d_25_7 (by decide) rfl ?_
  refine ev_iload_n d_25_8 rfl ?_
  refine ev_if_eq mmSV (tgt := 19) d_25_9 rfl (fun _h9 => ?_) (fun _h9 => ?_)
  · refine ev_sub (lv' := [(0, .ref (10 * j + 2))]) (by simp) ?_
    exact ev_n_passInTime_19 hN j σ hj
  · refine ev_aload_n d_25_12 rfl ?_
    refine ev_getf (v := .ref (10 * j + 5)) d_25_13 fl_3_35 (ltn (by decide) hj hN) (shq_2 hj) rfl ?_
    refine ev_cvV (As := []) (t := []) (e' := 0) d_25_16 ml_3_115 rfl rfl rfl rfl rfl (by decide) rfl (ltn (by decide) hj hN) (shq_5 hj) rfl rfl (ev_d_forget hN j σ hj) ?_
    refine ev_sub (lv' := [(0, .ref (10 * j + 2))]) (by simp) ?_
    exact ev_n_passInTime_19 hN j (sp_d_forget j σ) hj
def sp_n_passInTime (j : Nat) (σ : mmS) : mmS :=
(sp_n_passInTime_7 j ((sp_t_passMicrotick j σ).1) ((sp_t_passMicrotick j σ).2))
theorem ev_n_passInTime (hN : 65 ≤ N) (j : Nat) (σ : mmS) (hj : j < 4) : Ev N L xs (25, 0, lv_args 0 [.ref (10 * j + 2)], [], 0, σ) (mmSV (sp_n_passInTime j σ)) := by
  unfold sp_n_passInTime
  show Ev N L xs (25, 0, [(0, .ref (10 * j + 2))], [], 0, σ) _
  refine ev_aload_n d_25_0 rfl ?_
  refine ev_getf (v := .ref (10 * j + 3)) d_25_1 fl_3_21 (ltn (by decide) hj hN) (shq_2 hj) rfl ?_
  refine ev_cvI (As := []) (t := []) (e' := 0) d_25_4 ml_3_139 rfl rfl rfl rfl rfl (by decide) rfl (ltn (by decide) hj hN) (shq_3 hj) rfl rfl (ev_t_passMicrotick hN j σ hj) ?_
  exact ev_n_passInTime_7 hN j ((sp_t_passMicrotick j σ).1) ((sp_t_passMicrotick j σ).2) hj
def sp_n_passTick_74 (j : Nat) (σ : mmS) : Int64 × mmS :=
((sp_n_wordToSend j σ).1, (sp_n_wordToSend j σ).2)
theorem ev_n_passTick_74 (hN : 65 ≤ N) (j : Nat) (σ : mmS) (hj : j < 4) : Ev N L xs (18, 74, [(0, .ref (10 * j + 2))], [], 0, σ) (mmSJ (sp_n_passTick_74 j σ)) := by
  unfold sp_n_passTick_74
  refine ev_aload_n d_18_74 rfl ?_
  refine ev_cvJ (As := []) (t := []) (e' := 0) d_18_75 ml_3_84 rfl rfl rfl rfl rfl (by decide) rfl (ltn (by decide) hj hN) (shq_2 hj) rfl rfl (ev_n_wordToSend hN j σ hj) ?_
  exact ev_lret d_18_78 rfl
def sp_n_passTick (j : Nat) (σ : mmS) : Int64 × mmS :=
if (sp_n_isAwake j σ) = 0 then
  ((-1 : Int64), σ)
else
  if (1000 : Int32) ≤ ((σ.1 (10 * j + 2) 8) + ((1000 : Int32) - (σ.1 (10 * j + 2) 1))) then
    if (σ.1 (10 * j + 2) 7) = (1 : Int32) then
      ((-1 : Int64), (sp_n_passListening j (mmI (mmI σ (10 * j + 2) 8 ((σ.1 (10 * j + 2) 8) + ((1000 : Int32) - (σ.1 (10 * j + 2) 1)))) (10 * j + 2) 8 (((σ.1 (10 * j + 2) 8) + ((1000 : Int32) - (σ.1 (10 * j + 2) 1))) - (1000 : Int32)))))
    else
      (sp_n_passTick_74 j (sp_n_passInTime j (mmI (mmI σ (10 * j + 2) 8 ((σ.1 (10 * j + 2) 8) + ((1000 : Int32) - (σ.1 (10 * j + 2) 1)))) (10 * j + 2) 8 (((σ.1 (10 * j + 2) 8) + ((1000 : Int32) - (σ.1 (10 * j + 2) 1))) - (1000 : Int32)))))
  else
    ((-1 : Int64), (mmI σ (10 * j + 2) 8 ((σ.1 (10 * j + 2) 8) + ((1000 : Int32) - (σ.1 (10 * j + 2) 1)))))
theorem ev_n_passTick (hN : 65 ≤ N) (j : Nat) (σ : mmS) (hj : j < 4) : Ev N L xs (18, 0, lv_args 0 [.ref (10 * j + 2)], [], 0, σ) (mmSJ (sp_n_passTick j σ)) := by
  unfold sp_n_passTick
  show Ev N L xs (18, 0, [(0, .ref (10 * j + 2))], [], 0, σ) _
  refine ev_aload_n d_18_0 rfl ?_
  refine ev_cvI (As := []) (t := []) (e' := 0) d_18_1 ml_3_59 rfl rfl rfl rfl rfl (by decide) rfl (ltn (by decide) hj hN) (shq_2 hj) rfl rfl (ev_n_isAwake hN j σ hj) ?_
  refine ev_if_ne mmSJ (tgt := 11) d_18_4 rfl (fun _h4 => ?_) (fun _h4 => ?_)
  · refine ev_aload_n d_18_11 rfl ?_
    refine ev_dup d_18_12 rfl ?_
    refine ev_getf (v := .int (σ.1 (10 * j + 2) 8)) d_18_13 fl_3_63 (ltn (by decide) hj hN) (shq_2 hj) rfl ?_
    refine ev_sipush d_18_16 cs_1000 ?_
    refine ev_aload_n d_18_19 rfl ?_
    refine ev_getf (v := .int (σ.1 (10 * j + 2) 1)) d_18_20 fl_3_15 (ltn (by decide) hj hN) (shq_2 hj) rfl ?_
    refine ev_isub (v := ((1000 : Int32) - (σ.1 (10 * j + 2) 1))) d_18_23 rfl ?_
    refine ev_iadd (v := ((σ.1 (10 * j + 2) 8) + ((1000 : Int32) - (σ.1 (10 * j + 2) 1)))) d_18_24 rfl ?_
    refine ev_putf d_18_25 fl_3_63 (ltn (by decide) hj hN) (shq_2 hj) rfl (Or.inl rfl) ?_
    refine ev_aload_n d_18_28 rfl ?_
    refine ev_getf (v := .int ((σ.1 (10 * j + 2) 8) + ((1000 : Int32) - (σ.1 (10 * j + 2) 1)))) d_18_29 fl_3_63 (ltn (by decide) hj hN) (shq_2 hj) (rdO (rdS)) ?_
    refine ev_sipush d_18_32 cs_1000 ?_
    refine ev_icmp_ge mmSJ (tgt := 42) d_18_35 rfl (fun _h35 => ?_) (fun _h35 => ?_)
    · refine ev_aload_n d_18_42 rfl ?_
      refine ev_dup d_18_43 rfl ?_
      refine ev_getf (v := .int ((σ.1 (10 * j + 2) 8) + ((1000 : Int32) - (σ.1 (10 * j + 2) 1)))) d_18_44 fl_3_63 (ltn (by decide) hj hN) (shq_2 hj) (rdO (rdS)) ?_
      refine ev_sipush d_18_47 cs_1000 ?_
      refine ev_isub (v := (((σ.1 (10 * j + 2) 8) + ((1000 : Int32) - (σ.1 (10 * j + 2) 1))) - (1000 : Int32))) d_18_50 rfl ?_
      refine ev_putf d_18_51 fl_3_63 (ltn (by decide) hj hN) (shq_2 hj) rfl (Or.inl rfl) ?_
      refine ev_aload_n d_18_54 rfl ?_
      refine ev_getf (v := .int (σ.1 (10 * j + 2) 7)) d_18_55 fl_3_56 (ltn (by decide) hj hN) (shq_2 hj) (rdO ((rdI (by decide)).trans (rdI (by decide)))) ?_
      refine ev_iconst d_18_58 ci_1 ?_
      refine ev_icmp_ne mmSJ (tgt := 70) d_18_59 rfl (fun _h59 => ?_) (fun _h59 => ?_)
      · refine ev_aload_n d_18_70 rfl ?_
        refine ev_cvV (As := []) (t := []) (e' := 0) d_18_71 ml_3_81 rfl rfl rfl rfl rfl (by decide) rfl (ltn (by decide) hj hN) (shq_2 hj) rfl rfl (ev_n_passInTime hN j (mmI (mmI σ (10 * j + 2) 8 ((σ.1 (10 * j + 2) 8) + ((1000 : Int32) - (σ.1 (10 * j + 2) 1)))) (10 * j + 2) 8 (((σ.1 (10 * j + 2) 8) + ((1000 : Int32) - (σ.1 (10 * j + 2) 1))) - (1000 : Int32))) hj) ?_
        exact ev_n_passTick_74 hN j (sp_n_passInTime j (mmI (mmI σ (10 * j + 2) 8 ((σ.1 (10 * j + 2) 8) + ((1000 : Int32) - (σ.1 (10 * j + 2) 1)))) (10 * j + 2) 8 (((σ.1 (10 * j + 2) 8) + ((1000 : Int32) - (σ.1 (10 * j + 2) 1))) - (1000 : Int32)))) hj
      · refine ev_aload_n d_18_62 rfl ?_
        refine ev_cvV (As := []) (t := []) (e' := 0) d_18_63 ml_3_78 rfl rfl rfl rfl rfl (by decide) rfl (ltn (by decide) hj hN) (shq_2 hj) rfl rfl (ev_n_passListening hN j (mmI (mmI σ (10 * j + 2) 8 ((σ.1 (10 * j + 2) 8) + ((1000 : Int32) - (σ.1 (10 * j + 2) 1)))) (10 * j + 2) 8 (((σ.1 (10 * j + 2) 8) + ((1000 : Int32) - (σ.1 (10 * j + 2) 1))) - (1000 : Int32))) hj) ?_
        refine ev_ldc2 d_18_66 kl_3_76 ?_
        exact ev_lret d_18_69 rfl
    · refine ev_ldc2 d_18_38 kl_3_76 ?_
      exact ev_lret d_18_41 rfl
  · refine ev_ldc2 d_18_7 kl_3_76 ?_
    exact ev_lret d_18_10 rfl
def sp_n_hearListening (j : Nat) (a0 : Int32) (a1 : Int32) (σ : mmS) : mmS :=
if (sp_s_isSecond j a0 a1 σ) = 0 then
  (sp_s_note j a0 a1 σ)
else
  (sp_n_enterTime j (3 : Int32) (-1 : Int32) (sp_t_begin j (sp_n_dueAt (a0 - (1 : Int32)) σ) a1 ((σ.1 (10 * j + 4) 1) - (80 : Int32)) σ))
theorem ev_n_hearListening (hN : 65 ≤ N) (j : Nat) (a0 : Int32) (a1 : Int32) (σ : mmS) (hj : j < 4) : Ev N L xs (60, 0, lv_args 0 [.ref (10 * j + 2), .int a0, .int a1], [], 0, σ) (mmSV (sp_n_hearListening j a0 a1 σ)) := by
  unfold sp_n_hearListening
  show Ev N L xs (60, 0, [(0, .ref (10 * j + 2)), (1, .int a0), (2, .int a1)], [], 0, σ) _
  refine ev_aload_n d_60_0 rfl ?_
  refine ev_getf (v := .ref (10 * j + 4)) d_60_1 fl_3_28 (ltn (by decide) hj hN) (shq_2 hj) rfl ?_
  refine ev_iload_n d_60_4 rfl ?_
  refine ev_iload_n d_60_5 rfl ?_
  refine ev_cvI (As := [.int a0, .int a1]) (t := []) (e' := 0) d_60_6 ml_3_185 rfl rfl rfl rfl rfl (by decide) rfl (ltn (by decide) hj hN) (shq_4 hj) rfl rfl (ev_s_isSecond hN j a0 a1 σ hj) ?_
  refine ev_if_eq mmSV (tgt := 45) d_60_9 rfl (fun _h9 => ?_) (fun _h9 => ?_)
  · refine ev_aload_n d_60_45 rfl ?_
    refine ev_getf (v := .ref (10 * j + 4)) d_60_46 fl_3_28 (ltn (by decide) hj hN) (shq_2 hj) rfl ?_
    refine ev_iload_n d_60_49 rfl ?_
    refine ev_iload_n d_60_50 rfl ?_
    refine ev_cvV (As := [.int a0, .int a1]) (t := []) (e' := 0) d_60_51 ml_3_191 rfl rfl rfl rfl rfl (by decide) rfl (ltn (by decide) hj hN) (shq_4 hj) rfl rfl (ev_s_note hN j a0 a1 σ hj) ?_
    exact ev_vret d_60_54 rfl
  · refine ev_aload_n d_60_12 rfl ?_
    refine ev_getf (v := .ref (10 * j + 3)) d_60_13 fl_3_21 (ltn (by decide) hj hN) (shq_2 hj) rfl ?_
    refine ev_iload_n d_60_16 rfl ?_
    refine ev_iconst d_60_17 ci_1 ?_
    refine ev_isub (v := (a0 - (1 : Int32))) d_60_18 rfl ?_
    refine ev_csI (As := [.int (a0 - (1 : Int32))]) (t := [.ref (10 * j + 3)]) (e' := 0) d_60_19 ml_3_160 rfl rfl rfl rfl rfl (by decide) rfl rfl (ev_n_dueAt hN (a0 - (1 : Int32)) σ) ?_
    refine ev_iload_n d_60_22 rfl ?_
    refine ev_aload_n d_60_23 rfl ?_
    refine ev_getf (v := .ref (10 * j + 4)) d_60_24 fl_3_28 (ltn (by decide) hj hN) (shq_2 hj) rfl ?_
    refine ev_getf (v := .int (σ.1 (10 * j + 4) 1)) d_60_27 fl_3_188 (ltn (by decide) hj hN) (shq_4 hj) rfl ?_
    refine ev_bipush d_60_30 cb_80 ?_
    refine ev_isub (v := ((σ.1 (10 * j + 4) 1) - (80 : Int32))) d_60_32 rfl ?_
    refine ev_cvV (As := [.int (sp_n_dueAt (a0 - (1 : Int32)) σ), .int a1, .int ((σ.1 (10 * j + 4) 1) - (80 : Int32))]) (t := []) (e' := 0) d_60_33 ml_3_133 rfl rfl rfl rfl rfl (by decide) rfl (ltn (by decide) hj hN) (shq_3 hj) rfl rfl (ev_t_begin hN j (sp_n_dueAt (a0 - (1 : Int32)) σ) a1 ((σ.1 (10 * j + 4) 1) - (80 : Int32)) σ hj) ?_
    refine ev_aload_n d_60_36 rfl ?_
    refine ev_iconst d_60_37 ci_3 ?_
    refine ev_iconst d_60_38 ci_m1 ?_
    refine ev_cvV (As := [.int (3 : Int32), .int (-1 : Int32)]) (t := []) (e' := 0) d_60_39 ml_3_136 rfl rfl rfl rfl rfl (by decide) rfl (ltn (by decide) hj hN) (shq_2 hj) rfl rfl (ev_n_enterTime hN j (3 : Int32) (-1 : Int32) (sp_t_begin j (sp_n_dueAt (a0 - (1 : Int32)) σ) a1 ((σ.1 (10 * j + 4) 1) - (80 : Int32)) σ) hj) ?_
    refine ev_goto (tgt := 54) d_60_42 rfl ?_
    exact ev_vret d_60_54 rfl
end SP
