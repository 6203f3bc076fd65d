section SP
variable {N L : Nat} {xs : Nat → Int32}
def sp_b_limit (a0 : Int32) (a1 : Int32) (σ : mmS) : Int32 :=
if a0 ≤ a1 then
  if (-a1) ≤ a0 then
    a0
  else
    (-a1)
else
  if (-a1) ≤ a1 then
    a1
  else
    (-a1)
theorem ev_b_limit (hN : 65 ≤ N) (a0 : Int32) (a1 : Int32) (σ : mmS) : Ev N L xs (23, 0, lv_args 0 [.int a0, .int a1], [], 0, σ) ((mmPI σ) (sp_b_limit a0 a1 σ)) := by
  unfold sp_b_limit
  show Ev N L xs (23, 0, [(0, .int a0), (1, .int a1)], [], 0, σ) _
  refine ev_iload_n d_23_0 rfl ?_
  refine ev_iload_n d_23_1 rfl ?_
  refine ev_icmp_le (mmPI σ) (tgt := 9) d_23_2 rfl (fun _h2 => ?_) (fun _h2 => ?_)
  · refine ev_iload_n d_23_9 rfl ?_
    refine ev_istore_n (lv' := [(2, .int a0), (0, .int a0), (1, .int a1)]) d_23_10 (by decide) rfl ?_
    refine ev_iload_n d_23_11 rfl ?_
    refine ev_iload_n d_23_12 rfl ?_
    refine ev_ineg (v := (-a1)) d_23_13 rfl ?_
    refine ev_icmp_ge (mmPI σ) (tgt := 22) d_23_14 rfl (fun _h14 => ?_) (fun _h14 => ?_)
    · refine ev_iload_n d_23_22 rfl ?_
      exact ev_iret d_23_23 rfl
    · refine ev_iload_n d_23_17 rfl ?_
      refine ev_ineg (v := (-a1)) d_23_18 rfl ?_
      refine ev_goto (tgt := 23) d_23_19 rfl ?_
      exact ev_iret d_23_23 rfl
  · refine ev_iload_n d_23_5 rfl ?_
    refine ev_goto (tgt := 10) d_23_6 rfl ?_
    refine ev_istore_n (lv' := [(2, .int a1), (0, .int a0), (1, .int a1)]) d_23_10 (by decide) rfl ?_
    refine ev_iload_n d_23_11 rfl ?_
    refine ev_iload_n d_23_12 rfl ?_
    refine ev_ineg (v := (-a1)) d_23_13 rfl ?_
    refine ev_icmp_ge (mmPI σ) (tgt := 22) d_23_14 rfl (fun _h14 => ?_) (fun _h14 => ?_)
    · refine ev_iload_n d_23_22 rfl ?_
      exact ev_iret d_23_23 rfl
    · refine ev_iload_n d_23_17 rfl ?_
      refine ev_ineg (v := (-a1)) d_23_18 rfl ?_
      refine ev_goto (tgt := 23) d_23_19 rfl ?_
      exact ev_iret d_23_23 rfl
def sp_t_isOdd (j : Nat) (σ : mmS) : Int32 :=
if ((σ.1 (10 * j + 3) 1) - (σ.1 (10 * j + 3) 1) / (2 : Int32) * (2 : Int32)) = (1 : Int32) then
  (1 : Int32)
else
  (0 : Int32)
theorem ev_t_isOdd (hN : 65 ≤ N) (j : Nat) (σ : mmS) (hj : j < 4) : Ev N L xs (28, 0, lv_args 0 [.ref (10 * j + 3)], [], 0, σ) ((mmPI σ) (sp_t_isOdd j σ)) := by
  unfold sp_t_isOdd
  show Ev N L xs (28, 0, [(0, .ref (10 * j + 3))], [], 0, σ) _
  refine ev_aload_n d_28_0 rfl ?_
  refine ev_getf (v := .int (σ.1 (10 * j + 3) 1)) d_28_1 fl_5_13 (ltn (by decide) hj hN) (shq_3 hj) rfl ?_
  refine ev_iconst d_28_4 ci_2 ?_
  refine ev_irem (v := ((σ.1 (10 * j + 3) 1) - (σ.1 (10 * j + 3) 1) / (2 : Int32) * (2 : Int32))) d_28_5 (by decide) rfl ?_
  refine ev_iconst d_28_6 ci_1 ?_
  refine ev_icmp_ne (mmPI σ) (tgt := 14) d_28_7 rfl (fun _h7 => ?_) (fun _h7 => ?_)
  · refine ev_iconst d_28_14 ci_0 ?_
    exact ev_zret d_28_15 rfl (Or.inl rfl)
  · refine ev_iconst d_28_10 ci_1 ?_
    refine ev_goto (tgt := 15) d_28_11 rfl ?_
    exact ev_zret d_28_15 rfl (Or.inr rfl)
theorem bz_t_isOdd (j : Nat) (σ : mmS) : sp_t_isOdd j σ = 0 ∨ sp_t_isOdd j σ = 1 := by
  unfold sp_t_isOdd
  repeat (first | exact Or.inl rfl | exact Or.inr rfl | exact bz_b_isWithin _ _ _ _ | split)
def sp_t_length (j : Nat) (σ : mmS) : Int32 :=
if (sp_t_isOdd j σ) = 0 then
  (((80 : Int32) + (σ.1 (10 * j + 3) 2)) + (0 : Int32))
else
  (((80 : Int32) + (σ.1 (10 * j + 3) 2)) + (σ.1 (10 * j + 3) 4))
theorem ev_t_length (hN : 65 ≤ N) (j : Nat) (σ : mmS) (hj : j < 4) : Ev N L xs (27, 0, lv_args 0 [.ref (10 * j + 3)], [], 0, σ) ((mmPI σ) (sp_t_length j σ)) := by
  unfold sp_t_length
  show Ev N L xs (27, 0, [(0, .ref (10 * j + 3))], [], 0, σ) _
  refine ev_bipush d_27_0 cb_80 ?_
  refine ev_aload_n d_27_2 rfl ?_
  refine ev_getf (v := .int (σ.1 (10 * j + 3) 2)) d_27_3 fl_5_22 (ltn (by decide) hj hN) (shq_3 hj) rfl ?_
  refine ev_iadd (v := ((80 : Int32) + (σ.1 (10 * j + 3) 2))) d_27_6 rfl ?_
  refine ev_aload_n d_27_7 rfl ?_
  refine ev_cvI (As := []) (t := [.int ((80 : Int32) + (σ.1 (10 * j + 3) 2))]) (e' := 0) d_27_8 ml_5_35 rfl rfl rfl rfl rfl (by decide) rfl (ltn (by decide) hj hN) (shq_3 hj) rfl rfl (ev_t_isOdd hN j σ hj) ?_
  refine ev_if_eq (mmPI σ) (tgt := 21) d_27_11 rfl (fun _h11 => ?_) (fun _h11 => ?_)
  · refine ev_iconst d_27_21 ci_0 ?_
    refine ev_iadd (v := (((80 : Int32) + (σ.1 (10 * j + 3) 2)) + (0 : Int32))) d_27_22 rfl ?_
    exact ev_iret d_27_23 rfl
  · refine ev_aload_n d_27_14 rfl ?_
    refine ev_getf (v := .int (σ.1 (10 * j + 3) 4)) d_27_15 fl_5_28 (ltn (by decide) hj hN) (shq_3 hj) rfl ?_
    refine ev_goto (tgt := 22) d_27_18 rfl ?_
    refine ev_iadd (v := (((80 : Int32) + (σ.1 (10 * j + 3) 2)) + (σ.1 (10 * j + 3) 4))) d_27_22 rfl ?_
    exact ev_iret d_27_23 rfl
def sp_t_begin (j : Nat) (a0 : Int32) (a1 : Int32) (a2 : Int32) (σ : mmS) : mmS :=
(mmI (mmI (mmI (mmI (mmI σ (10 * j + 3) 0 a0) (10 * j + 3) 1 a1) (10 * j + 3) 2 (sp_b_limit a2 (4 : Int32) (mmI (mmI σ (10 * j + 3) 0 a0) (10 * j + 3) 1 a1))) (10 * j + 3) 3 (sp_b_limit a2 (4 : Int32) (mmI (mmI σ (10 * j + 3) 0 a0) (10 * j + 3) 1 a1))) (10 * j + 3) 4 (0 : Int32))
theorem ev_t_begin (hN : 65 ≤ N) (j : Nat) (a0 : Int32) (a1 : Int32) (a2 : Int32) (σ : mmS) (hj : j < 4) : Ev N L xs (22, 0, lv_args 0 [.ref (10 * j + 3), .int a0, .int a1, .int a2], [], 0, σ) (mmSV (sp_t_begin j a0 a1 a2 σ)) := by
  unfold sp_t_begin
  show Ev N L xs (22, 0, [(0, .ref (10 * j + 3)), (1, .int a0), (2, .int a1), (3, .int a2)], [], 0, σ) _
  refine ev_aload_n d_22_0 rfl ?_
  refine ev_iload_n d_22_1 rfl ?_
  refine ev_putf d_22_2 fl_5_7 (ltn (by decide) hj hN) (shq_3 hj) rfl (Or.inl rfl) ?_
  refine ev_aload_n d_22_5 rfl ?_
  refine ev_iload_n d_22_6 rfl ?_
  refine ev_putf d_22_7 fl_5_13 (ltn (by decide) hj hN) (shq_3 hj) rfl (Or.inl rfl) ?_
  refine ev_aload_n d_22_10 rfl ?_
  refine ev_iload_n d_22_11 rfl ?_
  refine ev_iconst d_22_12 ci_4 ?_
  refine ev_csI (As := [.int a2, .int (4 : Int32)]) (t := [.ref (10 * j + 3)]) (e' := 0) d_22_13 ml_5_16 rfl rfl rfl rfl rfl (by decide) rfl rfl (ev_b_limit hN a2 (4 : Int32) (mmI (mmI σ (10 * j + 3) 0 a0) (10 * j + 3) 1 a1)) ?_
  refine ev_putf d_22_16 fl_5_22 (ltn (by decide) hj hN) (shq_3 hj) rfl (Or.inl rfl) ?_
  refine ev_aload_n d_22_19 rfl ?_
  refine ev_aload_n d_22_20 rfl ?_
  refine ev_getf (v := .int (sp_b_limit a2 (4 : Int32) (mmI (mmI σ (10 * j + 3) 0 a0) (10 * j + 3) 1 a1))) d_22_21 fl_5_22 (ltn (by decide) hj hN) (shq_3 hj) (rdO (rdS)) ?_
  refine ev_putf d_22_24 fl_5_25 (ltn (by decide) hj hN) (shq_3 hj) rfl (Or.inl rfl) ?_
  refine ev_aload_n d_22_27 rfl ?_
  refine ev_iconst d_22_28 ci_0 ?_
  refine ev_putf d_22_29 fl_5_28 (ltn (by decide) hj hN) (shq_3 hj) rfl (Or.inl rfl) ?_
  exact ev_vret d_22_32 rfl
def sp_t_passMicrotick (j : Nat) (σ : mmS) : Int32 × mmS :=
if (sp_t_length j (mmI σ (10 * j + 3) 0 ((σ.1 (10 * j + 3) 0) + (1 : Int32)))) ≤ ((σ.1 (10 * j + 3) 0) + (1 : Int32)) then
  if (sp_t_isOdd j (mmI σ (10 * j + 3) 0 ((σ.1 (10 * j + 3) 0) + (1 : Int32)))) = 0 then
    ((sp_t_isOdd j (mmI σ (10 * j + 3) 0 ((σ.1 (10 * j + 3) 0) + (1 : Int32)))), (mmI (mmI (mmI σ (10 * j + 3) 0 ((σ.1 (10 * j + 3) 0) + (1 : Int32))) (10 * j + 3) 0 (0 : Int32)) (10 * j + 3) 1 (((σ.1 (10 * j + 3) 1) + (1 : Int32)) - ((σ.1 (10 * j + 3) 1) + (1 : Int32)) / (64 : Int32) * (64 : Int32))))
  else
    ((sp_t_isOdd j (mmI σ (10 * j + 3) 0 ((σ.1 (10 * j + 3) 0) + (1 : Int32)))), (mmI (mmI (mmI (mmI σ (10 * j + 3) 0 ((σ.1 (10 * j + 3) 0) + (1 : Int32))) (10 * j + 3) 2 (σ.1 (10 * j + 3) 3)) (10 * j + 3) 0 (0 : Int32)) (10 * j + 3) 1 (((σ.1 (10 * j + 3) 1) + (1 : Int32)) - ((σ.1 (10 * j + 3) 1) + (1 : Int32)) / (64 : Int32) * (64 : Int32))))
else
  ((0 : Int32), (mmI σ (10 * j + 3) 0 ((σ.1 (10 * j + 3) 0) + (1 : Int32))))
theorem ev_t_passMicrotick (hN : 65 ≤ N) (j : Nat) (σ : mmS) (hj : j < 4) : Ev N L xs (26, 0, lv_args 0 [.ref (10 * j + 3)], [], 0, σ) (mmSI (sp_t_passMicrotick j σ)) := by
  unfold sp_t_passMicrotick
  show Ev N L xs (26, 0, [(0, .ref (10 * j + 3))], [], 0, σ) _
  refine ev_aload_n d_26_0 rfl ?_
  refine ev_dup d_26_1 rfl ?_
  refine ev_getf (v := .int (σ.1 (10 * j + 3) 0)) d_26_2 fl_5_7 (ltn (by decide) hj hN) (shq_3 hj) rfl ?_
  refine ev_iconst d_26_5 ci_1 ?_
  refine ev_iadd (v := ((σ.1 (10 * j + 3) 0) + (1 : Int32))) d_26_6 rfl ?_
  refine ev_putf d_26_7 fl_5_7 (ltn (by decide) hj hN) (shq_3 hj) rfl (Or.inl rfl) ?_
  refine ev_aload_n d_26_10 rfl ?_
  refine ev_getf (v := .int ((σ.1 (10 * j + 3) 0) + (1 : Int32))) d_26_11 fl_5_7 (ltn (by decide) hj hN) (shq_3 hj) (rdO (rdS)) ?_
  refine ev_aload_n d_26_14 rfl ?_
  refine ev_cvI (As := []) (t := [.int ((σ.1 (10 * j + 3) 0) + (1 : Int32))]) (e' := 0) d_26_15 ml_5_31 rfl rfl rfl rfl rfl (by decide) rfl (ltn (by decide) hj hN) (shq_3 hj) rfl rfl (ev_t_length hN j (mmI σ (10 * j + 3) 0 ((σ.1 (10 * j + 3) 0) + (1 : Int32))) hj) ?_
  refine ev_icmp_ge mmSI (tgt := 23) d_26_18 rfl (fun _h18 => ?_) (fun _h18 => ?_)
  · refine ev_aload_n d_26_23 rfl ?_
    refine ev_cvI (As := []) (t := []) (e' := 0) d_26_24 ml_5_35 rfl rfl rfl rfl rfl (by decide) rfl (ltn (by decide) hj hN) (shq_3 hj) rfl rfl (ev_t_isOdd hN j (mmI σ (10 * j + 3) 0 ((σ.1 (10 * j + 3) 0) + (1 : Int32))) hj) ?_
    refine ev_istore_n (lv' := [(1, .int (sp_t_isOdd j (mmI σ (10 * j + 3) 0 ((σ.1 (10 * j + 3) 0) + (1 : Int32))))), (0, .ref (10 * j + 3))]) d_26_27 (by decide) rfl ?_
    refine ev_iload_n d_26_28 rfl ?_
    refine ev_if_eq mmSI (tgt := 40) d_26_29 rfl (fun _h29 => ?_) (fun _h29 => ?_)
    · refine ev_aload_n d_26_40 rfl ?_
      refine ev_iconst d_26_41 ci_0 ?_
      refine ev_putf d_26_42 fl_5_7 (ltn (by decide) hj hN) (shq_3 hj) rfl (Or.inl rfl) ?_
      refine ev_aload_n d_26_45 rfl ?_
      refine ev_aload_n d_26_46 rfl ?_
      refine ev_getf (v := .int (σ.1 (10 * j + 3) 1)) d_26_47 fl_5_13 (ltn (by decide) hj hN) (shq_3 hj) (rdO ((rdI (by decide)).trans (rdI (by decide)))) ?_
      refine ev_iconst d_26_50 ci_1 ?_
      refine ev_iadd (v := ((σ.1 (10 * j + 3) 1) + (1 : Int32))) d_26_51 rfl ?_
      refine ev_bipush d_26_52 cb_64 ?_
      refine ev_irem (v := (((σ.1 (10 * j + 3) 1) + (1 : Int32)) - ((σ.1 (10 * j + 3) 1) + (1 : Int32)) / (64 : Int32) * (64 : Int32))) d_26_54 (by decide) rfl ?_
      refine ev_putf d_26_55 fl_5_13 (ltn (by decide) hj hN) (shq_3 hj) rfl (Or.inl rfl) ?_
      refine ev_iload_n d_26_58 rfl ?_
      exact ev_zret d_26_59 rfl (bz_t_isOdd j (mmI σ (10 * j + 3) 0 ((σ.1 (10 * j + 3) 0) + (1 : Int32))))
    · refine ev_aload_n d_26_32 rfl ?_
      refine ev_aload_n d_26_33 rfl ?_
      refine ev_getf (v := .int (σ.1 (10 * j + 3) 3)) d_26_34 fl_5_25 (ltn (by decide) hj hN) (shq_3 hj) (rdO (rdI (by decide))) ?_
      refine ev_putf d_26_37 fl_5_22 (ltn (by decide) hj hN) (shq_3 hj) rfl (Or.inl rfl) ?_
      refine ev_aload_n d_26_40 rfl ?_
      refine ev_iconst d_26_41 ci_0 ?_
      refine ev_putf d_26_42 fl_5_7 (ltn (by decide) hj hN) (shq_3 hj) rfl (Or.inl rfl) ?_
      refine ev_aload_n d_26_45 rfl ?_
      refine ev_aload_n d_26_46 rfl ?_
      refine ev_getf (v := .int (σ.1 (10 * j + 3) 1)) d_26_47 fl_5_13 (ltn (by decide) hj hN) (shq_3 hj) (rdO ((rdI (by decide)).trans ((rdI (by decide)).trans (rdI (by decide))))) ?_
      refine ev_iconst d_26_50 ci_1 ?_
      refine ev_iadd (v := ((σ.1 (10 * j + 3) 1) + (1 : Int32))) d_26_51 rfl ?_
      refine ev_bipush d_26_52 cb_64 ?_
      refine ev_irem (v := (((σ.1 (10 * j + 3) 1) + (1 : Int32)) - ((σ.1 (10 * j + 3) 1) + (1 : Int32)) / (64 : Int32) * (64 : Int32))) d_26_54 (by decide) rfl ?_
      refine ev_putf d_26_55 fl_5_13 (ltn (by decide) hj hN) (shq_3 hj) rfl (Or.inl rfl) ?_
      refine ev_iload_n d_26_58 rfl ?_
      exact ev_zret d_26_59 rfl (bz_t_isOdd j (mmI σ (10 * j + 3) 0 ((σ.1 (10 * j + 3) 0) + (1 : Int32))))
  · refine ev_iconst d_26_21 ci_0 ?_
    exact ev_zret d_26_22 rfl (Or.inl rfl)
def sp_t_correct (j : Nat) (a0 : Int32) (a1 : Int32) (σ : mmS) : mmS :=
(mmI (mmI σ (10 * j + 3) 3 (sp_b_limit ((σ.1 (10 * j + 3) 2) + a0) (4 : Int32) σ)) (10 * j + 3) 4 (sp_b_limit a1 (6 : Int32) (mmI σ (10 * j + 3) 3 (sp_b_limit ((σ.1 (10 * j + 3) 2) + a0) (4 : Int32) σ))))
theorem ev_t_correct (hN : 65 ≤ N) (j : Nat) (a0 : Int32) (a1 : Int32) (σ : mmS) (hj : j < 4) : Ev N L xs (38, 0, lv_args 0 [.ref (10 * j + 3), .int a0, .int a1], [], 0, σ) (mmSV (sp_t_correct j a0 a1 σ)) := by
  unfold sp_t_correct
  show Ev N L xs (38, 0, [(0, .ref (10 * j + 3)), (1, .int a0), (2, .int a1)], [], 0, σ) _
  refine ev_aload_n d_38_0 rfl ?_
  refine ev_aload_n d_38_1 rfl ?_
  refine ev_getf (v := .int (σ.1 (10 * j + 3) 2)) d_38_2 fl_5_22 (ltn (by decide) hj hN) (shq_3 hj) rfl ?_
  refine ev_iload_n d_38_5 rfl ?_
  refine ev_iadd (v := ((σ.1 (10 * j + 3) 2) + a0)) d_38_6 rfl ?_
  refine ev_iconst d_38_7 ci_4 ?_
  refine ev_csI (As := [.int ((σ.1 (10 * j + 3) 2) + a0), .int (4 : Int32)]) (t := [.ref (10 * j + 3)]) (e' := 0) d_38_8 ml_5_16 rfl rfl rfl rfl rfl (by decide) rfl rfl (ev_b_limit hN ((σ.1 (10 * j + 3) 2) + a0) (4 : Int32) σ) ?_
  refine ev_putf d_38_11 fl_5_25 (ltn (by decide) hj hN) (shq_3 hj) rfl (Or.inl rfl) ?_
  refine ev_aload_n d_38_14 rfl ?_
  refine ev_iload_n d_38_15 rfl ?_
  refine ev_bipush d_38_16 cb_6 ?_
  refine ev_csI (As := [.int a1, .int (6 : Int32)]) (t := [.ref (10 * j + 3)]) (e' := 0) d_38_18 ml_5_16 rfl rfl rfl rfl rfl (by decide) rfl rfl (ev_b_limit hN a1 (6 : Int32) (mmI σ (10 * j + 3) 3 (sp_b_limit ((σ.1 (10 * j + 3) 2) + a0) (4 : Int32) σ))) ?_
  refine ev_putf d_38_21 fl_5_28 (ltn (by decide) hj hN) (shq_3 hj) rfl (Or.inl rfl) ?_
  exact ev_vret d_38_24 rfl
def sp_s_passMicrotick (j : Nat) (σ : mmS) : mmS :=
(mmI (mmI σ (10 * j + 4) 0 ((σ.1 (10 * j + 4) 0) + (1 : Int32))) (10 * j + 4) 1 ((σ.1 (10 * j + 4) 1) + (1 : Int32)))
theorem ev_s_passMicrotick (hN : 65 ≤ N) (j : Nat) (σ : mmS) (hj : j < 4) : Ev N L xs (20, 0, lv_args 0 [.ref (10 * j + 4)], [], 0, σ) (mmSV (sp_s_passMicrotick j σ)) := by
  unfold sp_s_passMicrotick
  show Ev N L xs (20, 0, [(0, .ref (10 * j + 4))], [], 0, σ) _
  refine ev_aload_n d_20_0 rfl ?_
  refine ev_dup d_20_1 rfl ?_
  refine ev_getf (v := .int (σ.1 (10 * j + 4) 0)) d_20_2 fl_4_7 (ltn (by decide) hj hN) (shq_4 hj) rfl ?_
  refine ev_iconst d_20_5 ci_1 ?_
  refine ev_iadd (v := ((σ.1 (10 * j + 4) 0) + (1 : Int32))) d_20_6 rfl ?_
  refine ev_putf d_20_7 fl_4_7 (ltn (by decide) hj hN) (shq_4 hj) rfl (Or.inl rfl) ?_
  refine ev_aload_n d_20_10 rfl ?_
  refine ev_dup d_20_11 rfl ?_
  refine ev_getf (v := .int (σ.1 (10 * j + 4) 1)) d_20_12 fl_4_13 (ltn (by decide) hj hN) (shq_4 hj) (rdO (rdI (by decide))) ?_
  refine ev_iconst d_20_15 ci_1 ?_
  refine ev_iadd (v := ((σ.1 (10 * j + 4) 1) + (1 : Int32))) d_20_16 rfl ?_
  refine ev_putf d_20_17 fl_4_13 (ltn (by decide) hj hN) (shq_4 hj) rfl (Or.inl rfl) ?_
  exact ev_vret d_20_20 rfl
def sp_s_isSecond (j : Nat) (a0 : Int32) (a1 : Int32) (σ : mmS) : Int32 :=
if a0 = (σ.1 (10 * j + 4) 2) then
  if a1 = ((σ.1 (10 * j + 4) 3) + (1 : Int32)) then
    if (sp_b_isWithin (σ.1 (10 * j + 4) 1) (70 : Int32) (90 : Int32) σ) = 0 then
      (0 : Int32)
    else
      (1 : Int32)
  else
    (0 : Int32)
else
  (0 : Int32)
theorem ev_s_isSecond (hN : 65 ≤ N) (j : Nat) (a0 : Int32) (a1 : Int32) (σ : mmS) (hj : j < 4) : Ev N L xs (61, 0, lv_args 0 [.ref (10 * j + 4), .int a0, .int a1], [], 0, σ) ((mmPI σ) (sp_s_isSecond j a0 a1 σ)) := by
  unfold sp_s_isSecond
  show Ev N L xs (61, 0, [(0, .ref (10 * j + 4)), (1, .int a0), (2, .int a1)], [], 0, σ) _
  refine ev_iload_n d_61_0 rfl ?_
  refine ev_aload_n d_61_1 rfl ?_
  refine ev_getf (v := .int (σ.1 (10 * j + 4) 2)) d_61_2 fl_4_16 (ltn (by decide) hj hN) (shq_4 hj) rfl ?_
  refine ev_icmp_ne (mmPI σ) (tgt := 36) d_61_5 rfl (fun _h5 => ?_) (fun _h5 => ?_)
  · refine ev_iconst d_61_36 ci_0 ?_
    exact ev_zret d_61_37 rfl (Or.inl rfl)
  · refine ev_iload_n d_61_8 rfl ?_
    refine ev_aload_n d_61_9 rfl ?_
    refine ev_getf (v := .int (σ.1 (10 * j + 4) 3)) d_61_10 fl_4_19 (ltn (by decide) hj hN) (shq_4 hj) rfl ?_
    refine ev_iconst d_61_13 ci_1 ?_
    refine ev_iadd (v := ((σ.1 (10 * j + 4) 3) + (1 : Int32))) d_61_14 rfl ?_
    refine ev_icmp_ne (mmPI σ) (tgt := 36) d_61_15 rfl (fun _h15 => ?_) (fun _h15 => ?_)
    · refine ev_iconst d_61_36 ci_0 ?_
      exact ev_zret d_61_37 rfl (Or.inl rfl)
    · refine ev_aload_n d_61_18 rfl ?_
      refine ev_getf (v := .int (σ.1 (10 * j + 4) 1)) d_61_19 fl_4_13 (ltn (by decide) hj hN) (shq_4 hj) rfl ?_
      refine ev_bipush d_61_22 cb_70 ?_
      refine ev_bipush d_61_24 cb_90 ?_
      refine ev_csI (As := [.int (σ.1 (10 * j + 4) 1), .int (70 : Int32), .int (90 : Int32)]) (t := []) (e' := 0) d_61_26 ml_4_22 rfl rfl rfl rfl rfl (by decide) rfl rfl (ev_b_isWithin hN (σ.1 (10 * j + 4) 1) (70 : Int32) (90 : Int32) σ) ?_
      refine ev_if_eq (mmPI σ) (tgt := 36) d_61_29 rfl (fun _h29 => ?_) (fun _h29 => ?_)
      · refine ev_iconst d_61_36 ci_0 ?_
        exact ev_zret d_61_37 rfl (Or.inl rfl)
      · refine ev_iconst d_61_32 ci_1 ?_
        refine ev_goto (tgt := 37) d_61_33 rfl ?_
        exact ev_zret d_61_37 rfl (Or.inr rfl)
def sp_s_note (j : Nat) (a0 : Int32) (a1 : Int32) (σ : mmS) : mmS :=
if (σ.1 (10 * j + 4) 2) = 0 then
  if (a1 - a1 / (2 : Int32) * (2 : Int32)) = 0 then
    (mmI (mmI (mmI σ (10 * j + 4) 2 a0) (10 * j + 4) 3 a1) (10 * j + 4) 1 (0 : Int32))
  else
    (mmI σ (10 * j + 4) 2 (0 : Int32))
else
  if (σ.1 (10 * j + 4) 2) = a0 then
    if (a1 - a1 / (2 : Int32) * (2 : Int32)) = 0 then
      (mmI (mmI (mmI σ (10 * j + 4) 2 a0) (10 * j + 4) 3 a1) (10 * j + 4) 1 (0 : Int32))
    else
      (mmI σ (10 * j + 4) 2 (0 : Int32))
  else
    if (90 : Int32) < (σ.1 (10 * j + 4) 1) then
      if (a1 - a1 / (2 : Int32) * (2 : Int32)) = 0 then
        (mmI (mmI (mmI σ (10 * j + 4) 2 a0) (10 * j + 4) 3 a1) (10 * j + 4) 1 (0 : Int32))
      else
        (mmI σ (10 * j + 4) 2 (0 : Int32))
    else
      σ
theorem ev_s_note (hN : 65 ≤ N) (j : Nat) (a0 : Int32) (a1 : Int32) (σ : mmS) (hj : j < 4) : Ev N L xs (62, 0, lv_args 0 [.ref (10 * j + 4), .int a0, .int a1], [], 0, σ) (mmSV (sp_s_note j a0 a1 σ)) := by
  unfold sp_s_note
  show Ev N L xs (62, 0, [(0, .ref (10 * j + 4)), (1, .int a0), (2, .int a1)], [], 0, σ) _
  refine ev_aload_n d_62_0 rfl ?_
  refine ev_getf (v := .int (σ.1 (10 * j + 4) 2)) d_62_1 fl_4_16 (ltn (by decide) hj hN) (shq_4 hj) rfl ?_
  refine ev_if_eq mmSV (tgt := 25) d_62_4 rfl (fun _h4 => ?_) (fun _h4 => ?_)
  · refine ev_iload_n d_62_25 rfl ?_
    refine ev_iconst d_62_26 ci_2 ?_
    refine ev_irem (v := (a1 - a1 / (2 : Int32) * (2 : Int32))) d_62_27 (by decide) rfl ?_
    refine ev_if_ne mmSV (tgt := 49) d_62_28 rfl (fun _h28 => ?_) (fun _h28 => ?_)
    · refine ev_aload_n d_62_49 rfl ?_
      refine ev_iconst d_62_50 ci_0 ?_
      refine ev_putf d_62_51 fl_4_16 (ltn (by decide) hj hN) (shq_4 hj) rfl (Or.inl rfl) ?_
      exact ev_vret d_62_54 rfl
    · refine ev_aload_n d_62_31 rfl ?_
      refine ev_iload_n d_62_32 rfl ?_
      refine ev_putf d_62_33 fl_4_16 (ltn (by decide) hj hN) (shq_4 hj) rfl (Or.inl rfl) ?_
      refine ev_aload_n d_62_36 rfl ?_
      refine ev_iload_n d_62_37 rfl ?_
      refine ev_putf d_62_38 fl_4_19 (ltn (by decide) hj hN) (shq_4 hj) rfl (Or.inl rfl) ?_
      refine ev_aload_n d_62_41 rfl ?_
      refine ev_iconst d_62_42 ci_0 ?_
      refine ev_putf d_62_43 fl_4_13 (ltn (by decide) hj hN) (shq_4 hj) rfl (Or.inl rfl) ?_
      refine ev_goto (tgt := 54) d_62_46 rfl ?_
      exact ev_vret d_62_54 rfl
  · refine ev_aload_n d_62_7 rfl ?_
    refine ev_getf (v := .int (σ.1 (10 * j + 4) 2)) d_62_8 fl_4_16 (ltn (by decide) hj hN) (shq_4 hj) rfl ?_
    refine ev_iload_n d_62_11 rfl ?_
    refine ev_icmp_eq mmSV (tgt := 25) d_62_12 rfl (fun _h12 => ?_) (fun _h12 => ?_)
    · refine ev_iload_n d_62_25 rfl ?_
      refine ev_iconst d_62_26 ci_2 ?_
      refine ev_irem (v := (a1 - a1 / (2 : Int32) * (2 : Int32))) d_62_27 (by decide) rfl ?_
      refine ev_if_ne mmSV (tgt := 49) d_62_28 rfl (fun _h28 => ?_) (fun _h28 => ?_)
      · refine ev_aload_n d_62_49 rfl ?_
        refine ev_iconst d_62_50 ci_0 ?_
        refine ev_putf d_62_51 fl_4_16 (ltn (by decide) hj hN) (shq_4 hj) rfl (Or.inl rfl) ?_
        exact ev_vret d_62_54 rfl
      · refine ev_aload_n d_62_31 rfl ?_
        refine ev_iload_n d_62_32 rfl ?_
        refine ev_putf d_62_33 fl_4_16 (ltn (by decide) hj hN) (shq_4 hj) rfl (Or.inl rfl) ?_
        refine ev_aload_n d_62_36 rfl ?_
        refine ev_iload_n d_62_37 rfl ?_
        refine ev_putf d_62_38 fl_4_19 (ltn (by decide) hj hN) (shq_4 hj) rfl (Or.inl rfl) ?_
        refine ev_aload_n d_62_41 rfl ?_
        refine ev_iconst d_62_42 ci_0 ?_
        refine ev_putf d_62_43 fl_4_13 (ltn (by decide) hj hN) (shq_4 hj) rfl (Or.inl rfl) ?_
        refine ev_goto (tgt := 54) d_62_46 rfl ?_
        exact ev_vret d_62_54 rfl
    · refine ev_aload_n d_62_15 rfl ?_
      refine ev_getf (v := .int (σ.1 (10 * j + 4) 1)) d_62_16 fl_4_13 (ltn (by decide) hj hN) (shq_4 hj) rfl ?_
      refine ev_bipush d_62_19 cb_90 ?_
      refine ev_icmp_gt mmSV (tgt := 25) d_62_21 rfl (fun _h21 => ?_) (fun _h21 => ?_)
      · refine ev_iload_n d_62_25 rfl ?_
        refine ev_iconst d_62_26 ci_2 ?_
        refine ev_irem (v := (a1 - a1 / (2 : Int32) * (2 : Int32))) d_62_27 (by decide) rfl ?_
        refine ev_if_ne mmSV (tgt := 49) d_62_28 rfl (fun _h28 => ?_) (fun _h28 => ?_)
        · refine ev_aload_n d_62_49 rfl ?_
          refine ev_iconst d_62_50 ci_0 ?_
          refine ev_putf d_62_51 fl_4_16 (ltn (by decide) hj hN) (shq_4 hj) rfl (Or.inl rfl) ?_
          exact ev_vret d_62_54 rfl
        · refine ev_aload_n d_62_31 rfl ?_
          refine ev_iload_n d_62_32 rfl ?_
          refine ev_putf d_62_33 fl_4_16 (ltn (by decide) hj hN) (shq_4 hj) rfl (Or.inl rfl) ?_
          refine ev_aload_n d_62_36 rfl ?_
          refine ev_iload_n d_62_37 rfl ?_
          refine ev_putf d_62_38 fl_4_19 (ltn (by decide) hj hN) (shq_4 hj) rfl (Or.inl rfl) ?_
          refine ev_aload_n d_62_41 rfl ?_
          refine ev_iconst d_62_42 ci_0 ?_
          refine ev_putf d_62_43 fl_4_13 (ltn (by decide) hj hN) (shq_4 hj) rfl (Or.inl rfl) ?_
          refine ev_goto (tgt := 54) d_62_46 rfl ?_
          exact ev_vret d_62_54 rfl
      · exact ev_vret d_62_24 rfl
def sp_i_beginWithZero (j : Nat) (σ : mmS) : mmS :=
(mmI (mmI σ (10 * j + 9) 0 (0 : Int32)) (10 * j + 8) 1 (1 : Int32))
theorem ev_i_beginWithZero (hN : 65 ≤ N) (j : Nat) (σ : mmS) (hj : j < 4) : Ev N L xs (33, 0, lv_args 0 [.ref (10 * j + 8)], [], 0, σ) (mmSV (sp_i_beginWithZero j σ)) := by
  unfold sp_i_beginWithZero
  show Ev N L xs (33, 0, [(0, .ref (10 * j + 8))], [], 0, σ) _
  refine ev_aload_n d_33_0 rfl ?_
  refine ev_getf (v := .ref (10 * j + 9)) d_33_1 fl_2_9 (ltn (by decide) hj hN) (shq_8 hj) rfl ?_
  refine ev_iconst d_33_4 ci_0 ?_
  refine ev_iconst d_33_5 ci_0 ?_
  refine ev_iastore (i := 0) d_33_6 (ltn (by decide) hj hN) (shq_9 hj) (vpi (by decide)) (by decide) ?_
  refine ev_aload_n d_33_7 rfl ?_
  refine ev_iconst d_33_8 ci_1 ?_
  refine ev_putf d_33_9 fl_2_15 (ltn (by decide) hj hN) (shq_8 hj) rfl (Or.inl rfl) ?_
  exact ev_vret d_33_12 rfl
theorem nat5 : ∀ n, n < 5 → ¬ Int32.ofNat (n + 1) ≤ 0 ∧ Int32.ofNat n = Int32.ofNat (n + 1) - 1 ∧ Int32.ofNat (n + 1) + Int32.ofInt (-1) = Int32.ofNat n ∧ n = (Int32.ofNat n).toNatClampNeg ∧ ¬ (Int32.ofNat n < 0 ∨ 5 ≤ (Int32.ofNat n).toNatClampNeg) := by decide +kernel
def szok (j : Nat) (σ : mmS) : Prop := ∃ n, 1 ≤ n ∧ n ≤ 5 ∧ σ.1 (10 * j + 8) 1 = Int32.ofNat n
def addL (j : Nat) (num : Int32) : Nat → mmS → mmS
  | 0, σ =>
    (mmI (mmI σ (10 * j + 9) 0 num) (10 * j + 8) 1 ((σ.1 (10 * j + 8) 1) + (1 : Int32)))
  | n + 1, σ =>
    if (σ.1 (10 * j + 9) n) ≤ num then
      (mmI (mmI σ (10 * j + 9) (n + 1) num) (10 * j + 8) 1 ((σ.1 (10 * j + 8) 1) + (1 : Int32)))
    else
      (addL j num n (mmI σ (10 * j + 9) (n + 1) (σ.1 (10 * j + 9) n)))
theorem ev_addL (hN : 65 ≤ N) (j : Nat) (hj : j < 4) (num : Int32) : ∀ n, n < 5 → ∀ σ : mmS, Ev N L xs (35, 18, [(0, .ref (10 * j + 8)), (1, .int num), (2, .int (Int32.ofNat n))], [], 0, σ) (mmSV (addL j num n σ))
  | 0, _, σ => by
    unfold addL
    show Ev N L xs (35, 18, [(0, .ref (10 * j + 8)), (1, .int num), (2, .int (0 : Int32))], [], 0, σ) _
    refine ev_iload_n d_35_18 rfl ?_
    refine ev_ifT (tgt := 54) d_35_19 rfl (show (0 : Int32) ≤ (0 : Int32) by decide) ?_
    refine ev_aload_n d_35_54 rfl ?_
    refine ev_getf (v := .ref (10 * j + 9)) d_35_55 fl_2_9 (ltn (by decide) hj hN) (shq_8 hj) rfl ?_
    refine ev_iload_n d_35_58 rfl ?_
    refine ev_iload_n d_35_59 rfl ?_
    refine ev_iastore (i := 0) d_35_60 (ltn (by decide) hj hN) (shq_9 hj) (vpi (by decide)) (by decide) ?_
    refine ev_aload_n d_35_61 rfl ?_
    refine ev_dup d_35_62 rfl ?_
    refine ev_getf (v := .int (σ.1 (10 * j + 8) 1)) d_35_63 fl_2_15 (ltn (by decide) hj hN) (shq_8 hj) (rdO (rdK (rdn (by decide)))) ?_
    refine ev_iconst d_35_66 ci_1 ?_
    refine ev_iadd (v := ((σ.1 (10 * j + 8) 1) + (1 : Int32))) d_35_67 rfl ?_
    refine ev_putf d_35_68 fl_2_15 (ltn (by decide) hj hN) (shq_8 hj) rfl (Or.inl rfl) ?_
    exact ev_vret d_35_71 rfl
  | n + 1, hn, σ => by
    unfold addL
    refine ev_iload_n d_35_18 rfl ?_
    refine ev_ifF (tgt := 54) d_35_19 rfl (nat5 n (by omega)).1 ?_
    refine ev_aload_n d_35_22 rfl ?_
    refine ev_getf (v := .ref (10 * j + 9)) d_35_23 fl_2_9 (ltn (by decide) hj hN) (shq_8 hj) rfl ?_
    refine ev_iload_n d_35_26 rfl ?_
    refine ev_iconst d_35_27 ci_1 ?_
    refine ev_isub (v := (Int32.ofNat n)) d_35_28 (nat5 n (by omega)).2.1 ?_
    refine ev_iald (i := n) d_35_29 (ltn (by decide) hj hN) (shq_9 hj) (vpi (nat5 n (by omega)).2.2.2.2) (nat5 n (by omega)).2.2.2.1 ?_
    refine ev_iload_n d_35_30 rfl ?_
    refine ev_icmp_le mmSV (tgt := 54) d_35_31 rfl (fun _h31 => ?_) (fun _h31 => ?_)
    · refine ev_aload_n d_35_54 rfl ?_
      refine ev_getf (v := .ref (10 * j + 9)) d_35_55 fl_2_9 (ltn (by decide) hj hN) (shq_8 hj) rfl ?_
      refine ev_iload_n d_35_58 rfl ?_
      refine ev_iload_n d_35_59 rfl ?_
      refine ev_iastore (i := (n + 1)) d_35_60 (ltn (by decide) hj hN) (shq_9 hj) (vpi (nat5 (n + 1) hn).2.2.2.2) (nat5 (n + 1) hn).2.2.2.1 ?_
      refine ev_aload_n d_35_61 rfl ?_
      refine ev_dup d_35_62 rfl ?_
      refine ev_getf (v := .int (σ.1 (10 * j + 8) 1)) d_35_63 fl_2_15 (ltn (by decide) hj hN) (shq_8 hj) (rdO (rdK (rdn (by decide)))) ?_
      refine ev_iconst d_35_66 ci_1 ?_
      refine ev_iadd (v := ((σ.1 (10 * j + 8) 1) + (1 : Int32))) d_35_67 rfl ?_
      refine ev_putf d_35_68 fl_2_15 (ltn (by decide) hj hN) (shq_8 hj) rfl (Or.inl rfl) ?_
      exact ev_vret d_35_71 rfl
    · refine ev_aload_n d_35_34 rfl ?_
      refine ev_getf (v := .ref (10 * j + 9)) d_35_35 fl_2_9 (ltn (by decide) hj hN) (shq_8 hj) rfl ?_
      refine ev_iload_n d_35_38 rfl ?_
      refine ev_aload_n d_35_39 rfl ?_
      refine ev_getf (v := .ref (10 * j + 9)) d_35_40 fl_2_9 (ltn (by decide) hj hN) (shq_8 hj) rfl ?_
      refine ev_iload_n d_35_43 rfl ?_
      refine ev_iconst d_35_44 ci_1 ?_
      refine ev_isub (v := (Int32.ofNat n)) d_35_45 (nat5 n (by omega)).2.1 ?_
      refine ev_iald (i := n) d_35_46 (ltn (by decide) hj hN) (shq_9 hj) (vpi (nat5 n (by omega)).2.2.2.2) (nat5 n (by omega)).2.2.2.1 ?_
      refine ev_iastore (i := (n + 1)) d_35_47 (ltn (by decide) hj hN) (shq_9 hj) (vpi (nat5 (n + 1) hn).2.2.2.2) (nat5 (n + 1) hn).2.2.2.1 ?_
      refine ev_iinc (lv' := [(2, .int (Int32.ofNat n)), (0, .ref (10 * j + 8)), (1, .int num)]) (v := (Int32.ofNat n)) d_35_48 rfl (nat5 n (by omega)).2.2.1 (by decide) rfl ?_
      refine ev_goto (tgt := 18) d_35_51 rfl ?_
      refine ev_sub (lv' := [(0, .ref (10 * j + 8)), (1, .int num), (2, .int (Int32.ofNat n))]) (by simp) ?_
      exact ev_addL hN j hj num n (by omega) _
theorem sz_lt {j : Nat} {σ : mmS} (h : szok j σ) (h5 : σ.1 (10 * j + 8) 1 < 5) : ∃ n, n < 5 ∧ σ.1 (10 * j + 8) 1 = Int32.ofNat n := by
  obtain ⟨n, h1, h2, h3⟩ := h
  refine ⟨n, ?_, h3⟩
  rw [h3] at h5
  have h6 : n = 5 ∨ n < 5 := by omega
  rcases h6 with rfl | h6
  · exact absurd h5 (by decide)
  · exact h6
def sp_i_add (j : Nat) (a0 : Int32) (σ : mmS) : mmS :=
if (σ.1 (10 * j + 8) 1) < (5 : Int32) then
  (addL j a0 (σ.1 (10 * j + 8) 1).toNatClampNeg σ)
else
  σ
theorem ev_i_add (hN : 65 ≤ N) (j : Nat) (a0 : Int32) (σ : mmS) (hj : j < 4) (hs : szok j σ) : Ev N L xs (35, 0, lv_args 0 [.ref (10 * j + 8), .int a0], [], 0, σ) (mmSV (sp_i_add j a0 σ)) := by
  unfold sp_i_add
  show Ev N L xs (35, 0, [(0, .ref (10 * j + 8)), (1, .int a0)], [], 0, σ) _
  refine ev_aload_n d_35_0 rfl ?_
  refine ev_getf (v := .int (σ.1 (10 * j + 8) 1)) d_35_1 fl_2_15 (ltn (by decide) hj hN) (shq_8 hj) rfl ?_
  refine ev_aload_n d_35_4 rfl ?_
  refine ev_getf (v := .ref (10 * j + 9)) d_35_5 fl_2_9 (ltn (by decide) hj hN) (shq_8 hj) rfl ?_
  refine ev_alen d_35_8 (ltn (by decide) hj hN) (shq_9 hj) (by decide) ?_
  show Ev N L xs (35, 9, [(0, .ref (10 * j + 8)), (1, .int a0)], [.int (5 : Int32), .int (σ.1 (10 * j + 8) 1)], 0, σ) _
  refine ev_icmp_lt mmSV (tgt := 13) d_35_9 rfl (fun _h9 => ?_) (fun _h9 => ?_)
  · refine ev_aload_n d_35_13 rfl ?_
    refine ev_getf (v := .int (σ.1 (10 * j + 8) 1)) d_35_14 fl_2_15 (ltn (by decide) hj hN) (shq_8 hj) rfl ?_
    refine ev_istore_n (lv' := [(2, .int (σ.1 (10 * j + 8) 1)), (0, .ref (10 * j + 8)), (1, .int a0)]) d_35_17 (by decide) rfl ?_
    refine ev_sub (lv' := [(0, .ref (10 * j + 8)), (1, .int a0), (2, .int (σ.1 (10 * j + 8) 1))]) (by simp) ?_
    obtain ⟨n, hn5, hq⟩ := sz_lt hs _h9
    rw [hq, ← (nat5 n hn5).2.2.2.1]
    exact ev_addL hN j hj a0 n hn5 σ
  · exact ev_vret d_35_12 rfl
theorem addL_sz {j : Nat} (v : Int32) : ∀ (n : Nat) (σ : mmS), (addL j v n σ).1 (10 * j + 8) 1 = σ.1 (10 * j + 8) 1 + 1 := by
  intro n
  induction n with
  | zero => intro σ; unfold addL; simp [mmI, va_up, upd]
  | succ n ih =>
    intro σ
    unfold addL
    split
    · simp [mmI, va_up, upd]
    · rw [ih]; simp [mmI, va_up, upd]
theorem szok_add {j : Nat} {v : Int32} {σ : mmS} (hs : szok j σ) : szok j (sp_i_add j v σ) := by
  unfold sp_i_add
  split
  · rename_i h
    obtain ⟨n, hn, hq⟩ := sz_lt hs h
    refine ⟨n + 1, by omega, by omega, ?_⟩
    rw [addL_sz, hq]
    have h6 : n = 0 ∨ n = 1 ∨ n = 2 ∨ n = 3 ∨ n = 4 := by omega
    rcases h6 with rfl | rfl | rfl | rfl | rfl <;> decide
  · exact hs
theorem szok_beg {j : Nat} {σ : mmS} : szok j (sp_i_beginWithZero j σ) := ⟨1, by decide, by decide, by unfold sp_i_beginWithZero; simp [mmI, va_up, upd]⟩
theorem an_cs {j : Nat} {σ : mmS} (hs : szok j σ) : σ.1 (10 * j + 8) 1 = 1 ∨ σ.1 (10 * j + 8) 1 = 2 ∨ σ.1 (10 * j + 8) 1 = 3 ∨ σ.1 (10 * j + 8) 1 = 4 ∨ σ.1 (10 * j + 8) 1 = 5 := by
  obtain ⟨n, h1, h2, h3⟩ := hs
  rw [h3]
  have h6 : n = 1 ∨ n = 2 ∨ n = 3 ∨ n = 4 ∨ n = 5 := by omega
  rcases h6 with rfl | rfl | rfl | rfl | rfl <;> decide
theorem an0 {j : Nat} {σ : mmS} (hs : szok j σ) : vp_in ((σ.1 (10 * j + 8) 1 - 1) - 0) 5 := by
  rcases an_cs hs with h | h | h | h | h <;> rw [h] <;> exact vpi (by decide)
theorem an1 {j : Nat} {σ : mmS} (hs : szok j σ) (h3 : ¬ σ.1 (10 * j + 8) 1 < 3) : vp_in ((σ.1 (10 * j + 8) 1 - 1) - 1) 5 := by
  rcases an_cs hs with h | h | h | h | h <;> rw [h] at h3 ⊢
  · exact absurd (by decide) h3
  · exact absurd (by decide) h3
  all_goals exact vpi (by decide)
def sp_i_answer (j : Nat) (σ : mmS) : Int32 :=
if (σ.1 (10 * j + 8) 1) < (3 : Int32) then
  (((σ.1 (10 * j + 9) 0) + (σ.1 (10 * j + 9) (((σ.1 (10 * j + 8) 1) - (1 : Int32)) - (0 : Int32)).toNatClampNeg)) / (2 : Int32))
else
  (((σ.1 (10 * j + 9) 1) + (σ.1 (10 * j + 9) (((σ.1 (10 * j + 8) 1) - (1 : Int32)) - (1 : Int32)).toNatClampNeg)) / (2 : Int32))
theorem ev_i_answer (hN : 65 ≤ N) (j : Nat) (σ : mmS) (hj : j < 4) (hs : szok j σ) : Ev N L xs (36, 0, lv_args 0 [.ref (10 * j + 8)], [], 0, σ) ((mmPI σ) (sp_i_answer j σ)) := by
  unfold sp_i_answer
  show Ev N L xs (36, 0, [(0, .ref (10 * j + 8))], [], 0, σ) _
  refine ev_aload_n d_36_0 rfl ?_
  refine ev_getf (v := .int (σ.1 (10 * j + 8) 1)) d_36_1 fl_2_15 (ltn (by decide) hj hN) (shq_8 hj) rfl ?_
  refine ev_iconst d_36_4 ci_3 ?_
  refine ev_icmp_lt (mmPI σ) (tgt := 12) d_36_5 rfl (fun _h5 => ?_) (fun _h5 => ?_)
  · refine ev_iconst d_36_12 ci_0 ?_
    refine ev_istore_n (lv' := [(1, .int (0 : Int32)), (0, .ref (10 * j + 8))]) d_36_13 (by decide) rfl ?_
    refine ev_aload_n d_36_14 rfl ?_
    refine ev_getf (v := .ref (10 * j + 9)) d_36_15 fl_2_9 (ltn (by decide) hj hN) (shq_8 hj) rfl ?_
    refine ev_iload_n d_36_18 rfl ?_
    refine ev_iald (i := 0) d_36_19 (ltn (by decide) hj hN) (shq_9 hj) (vpi (by decide)) (by decide) ?_
    refine ev_aload_n d_36_20 rfl ?_
    refine ev_getf (v := .ref (10 * j + 9)) d_36_21 fl_2_9 (ltn (by decide) hj hN) (shq_8 hj) rfl ?_
    refine ev_aload_n d_36_24 rfl ?_
    refine ev_getf (v := .int (σ.1 (10 * j + 8) 1)) d_36_25 fl_2_15 (ltn (by decide) hj hN) (shq_8 hj) rfl ?_
    refine ev_iconst d_36_28 ci_1 ?_
    refine ev_isub (v := ((σ.1 (10 * j + 8) 1) - (1 : Int32))) d_36_29 rfl ?_
    refine ev_iload_n d_36_30 rfl ?_
    refine ev_isub (v := (((σ.1 (10 * j + 8) 1) - (1 : Int32)) - (0 : Int32))) d_36_31 rfl ?_
    refine ev_iald (i := (((σ.1 (10 * j + 8) 1) - (1 : Int32)) - (0 : Int32)).toNatClampNeg) d_36_32 (ltn (by decide) hj hN) (shq_9 hj) (by with_reducible first | exact an0 hs | exact an1 hs _h5) rfl ?_
    refine ev_iadd (v := ((σ.1 (10 * j + 9) 0) + (σ.1 (10 * j + 9) (((σ.1 (10 * j + 8) 1) - (1 : Int32)) - (0 : Int32)).toNatClampNeg))) d_36_33 rfl ?_
    refine ev_iconst d_36_34 ci_2 ?_
    refine ev_idiv (v := (((σ.1 (10 * j + 9) 0) + (σ.1 (10 * j + 9) (((σ.1 (10 * j + 8) 1) - (1 : Int32)) - (0 : Int32)).toNatClampNeg)) / (2 : Int32))) d_36_35 (by decide) rfl ?_
    exact ev_iret d_36_36 rfl
  · refine ev_iconst d_36_8 ci_1 ?_
    refine ev_goto (tgt := 13) d_36_9 rfl ?_
    refine ev_istore_n (lv' := [(1, .int (1 : Int32)), (0, .ref (10 * j + 8))]) d_36_13 (by decide) rfl ?_
    refine ev_aload_n d_36_14 rfl ?_
    refine ev_getf (v := .ref (10 * j + 9)) d_36_15 fl_2_9 (ltn (by decide) hj hN) (shq_8 hj) rfl ?_
    refine ev_iload_n d_36_18 rfl ?_
    refine ev_iald (i := 1) d_36_19 (ltn (by decide) hj hN) (shq_9 hj) (vpi (by decide)) (by decide) ?_
    refine ev_aload_n d_36_20 rfl ?_
    refine ev_getf (v := .ref (10 * j + 9)) d_36_21 fl_2_9 (ltn (by decide) hj hN) (shq_8 hj) rfl ?_
    refine ev_aload_n d_36_24 rfl ?_
    refine ev_getf (v := .int (σ.1 (10 * j + 8) 1)) d_36_25 fl_2_15 (ltn (by decide) hj hN) (shq_8 hj) rfl ?_
    refine ev_iconst d_36_28 ci_1 ?_
    refine ev_isub (v := ((σ.1 (10 * j + 8) 1) - (1 : Int32))) d_36_29 rfl ?_
    refine ev_iload_n d_36_30 rfl ?_
    refine ev_isub (v := (((σ.1 (10 * j + 8) 1) - (1 : Int32)) - (1 : Int32))) d_36_31 rfl ?_
    refine ev_iald (i := (((σ.1 (10 * j + 8) 1) - (1 : Int32)) - (1 : Int32)).toNatClampNeg) d_36_32 (ltn (by decide) hj hN) (shq_9 hj) (by with_reducible first | exact an0 hs | exact an1 hs _h5) rfl ?_
    refine ev_iadd (v := ((σ.1 (10 * j + 9) 1) + (σ.1 (10 * j + 9) (((σ.1 (10 * j + 8) 1) - (1 : Int32)) - (1 : Int32)).toNatClampNeg))) d_36_33 rfl ?_
    refine ev_iconst d_36_34 ci_2 ?_
    refine ev_idiv (v := (((σ.1 (10 * j + 9) 1) + (σ.1 (10 * j + 9) (((σ.1 (10 * j + 8) 1) - (1 : Int32)) - (1 : Int32)).toNatClampNeg)) / (2 : Int32))) d_36_35 (by decide) rfl ?_
    exact ev_iret d_36_36 rfl
def sp_d_note (j : Nat) (a0 : Int32) (a1 : Int32) (a2 : Int32) (σ : mmS) : mmS :=
if a1 = 0 then
  (mmI σ (10 * j + 6) a0.toNatClampNeg a2)
else
  (mmI σ (10 * j + 7) a0.toNatClampNeg a2)
theorem ev_d_note (hN : 65 ≤ N) (j : Nat) (a0 : Int32) (a1 : Int32) (a2 : Int32) (σ : mmS) (hj : j < 4) (hn : vp_in a0 4) : Ev N L xs (65, 0, lv_args 0 [.ref (10 * j + 5), .int a0, .int a1, .int a2], [], 0, σ) (mmSV (sp_d_note j a0 a1 a2 σ)) := by
  unfold sp_d_note
  show Ev N L xs (65, 0, [(0, .ref (10 * j + 5)), (1, .int a0), (2, .int a1), (3, .int a2)], [], 0, σ) _
  refine ev_iload_n d_65_0 rfl ?_
  refine ev_if_eq mmSV (tgt := 14) d_65_1 rfl (fun _h1 => ?_) (fun _h1 => ?_)
  · refine ev_aload_n d_65_14 rfl ?_
    refine ev_getf (v := .ref (10 * j + 6)) d_65_15 fl_0_9 (ltn (by decide) hj hN) (shq_5 hj) rfl ?_
    refine ev_iload_n d_65_18 rfl ?_
    refine ev_iload_n d_65_19 rfl ?_
    refine ev_iastore (i := a0.toNatClampNeg) d_65_20 (ltn (by decide) hj hN) (shq_6 hj) (by first | assumption | (rcases n4 hn with rfl | rfl | rfl | rfl <;> exact vpi (by decide))) rfl ?_
    exact ev_vret d_65_21 rfl
  · refine ev_aload_n d_65_4 rfl ?_
    refine ev_getf (v := .ref (10 * j + 7)) d_65_5 fl_0_15 (ltn (by decide) hj hN) (shq_5 hj) rfl ?_
    refine ev_iload_n d_65_8 rfl ?_
    refine ev_iload_n d_65_9 rfl ?_
    refine ev_iastore (i := a0.toNatClampNeg) d_65_10 (ltn (by decide) hj hN) (shq_7 hj) (by first | assumption | (rcases n4 hn with rfl | rfl | rfl | rfl <;> exact vpi (by decide))) rfl ?_
    refine ev_goto (tgt := 21) d_65_11 rfl ?_
    exact ev_vret d_65_21 rfl
def sp_d_hasBoth (j : Nat) (a0 : Int32) (σ : mmS) : Int32 :=
if (σ.1 (10 * j + 6) a0.toNatClampNeg) = (1000 : Int32) then
  (0 : Int32)
else
  if (σ.1 (10 * j + 7) a0.toNatClampNeg) = (1000 : Int32) then
    (0 : Int32)
  else
    (1 : Int32)
theorem ev_d_hasBoth (hN : 65 ≤ N) (j : Nat) (a0 : Int32) (σ : mmS) (hj : j < 4) (hn : vp_in a0 4) : Ev N L xs (34, 0, lv_args 0 [.ref (10 * j + 5), .int a0], [], 0, σ) ((mmPI σ) (sp_d_hasBoth j a0 σ)) := by
  unfold sp_d_hasBoth
  show Ev N L xs (34, 0, [(0, .ref (10 * j + 5)), (1, .int a0)], [], 0, σ) _
  refine ev_aload_n d_34_0 rfl ?_
  refine ev_getf (v := .ref (10 * j + 6)) d_34_1 fl_0_9 (ltn (by decide) hj hN) (shq_5 hj) rfl ?_
  refine ev_iload_n d_34_4 rfl ?_
  refine ev_iald (i := a0.toNatClampNeg) d_34_5 (ltn (by decide) hj hN) (shq_6 hj) (by first | assumption | (rcases n4 hn with rfl | rfl | rfl | rfl <;> exact vpi (by decide))) rfl ?_
  refine ev_sipush d_34_6 cs_1000 ?_
  refine ev_icmp_eq (mmPI σ) (tgt := 28) d_34_9 rfl (fun _h9 => ?_) (fun _h9 => ?_)
  · refine ev_iconst d_34_28 ci_0 ?_
    exact ev_zret d_34_29 rfl (Or.inl rfl)
  · refine ev_aload_n d_34_12 rfl ?_
    refine ev_getf (v := .ref (10 * j + 7)) d_34_13 fl_0_15 (ltn (by decide) hj hN) (shq_5 hj) rfl ?_
    refine ev_iload_n d_34_16 rfl ?_
    refine ev_iald (i := a0.toNatClampNeg) d_34_17 (ltn (by decide) hj hN) (shq_7 hj) (by first | assumption | (rcases n4 hn with rfl | rfl | rfl | rfl <;> exact vpi (by decide))) rfl ?_
    refine ev_sipush d_34_18 cs_1000 ?_
    refine ev_icmp_eq (mmPI σ) (tgt := 28) d_34_21 rfl (fun _h21 => ?_) (fun _h21 => ?_)
    · refine ev_iconst d_34_28 ci_0 ?_
      exact ev_zret d_34_29 rfl (Or.inl rfl)
    · refine ev_iconst d_34_24 ci_1 ?_
      refine ev_goto (tgt := 29) d_34_25 rfl ?_
      exact ev_zret d_34_29 rfl (Or.inr rfl)
def sp_d_heardInBoth_L4 (j : Nat) (h : Int32) (σ : mmS) : Int32 :=
h
theorem ev_d_heardInBoth_L4 (hN : 65 ≤ N) (j : Nat) (h : Int32) (σ : mmS) (hj : j < 4) : Ev N L xs (39, 4, [(0, .ref (10 * j + 5)), (1, .int h), (2, .int (4 : Int32))], [], 0, σ) ((mmPI σ) (sp_d_heardInBoth_L4 j h σ)) := by
  unfold sp_d_heardInBoth_L4
  refine ev_iload_n d_39_4 rfl ?_
  refine ev_iconst d_39_5 ci_4 ?_
  refine ev_icmpT (tgt := 26) d_39_6 rfl (show (4 : Int32) ≤ (4 : Int32) by decide) ?_
  refine ev_iload_n d_39_26 rfl ?_
  exact ev_iret d_39_27 rfl
def sp_d_heardInBoth_L3 (j : Nat) (h : Int32) (σ : mmS) : Int32 :=
if (sp_d_hasBoth j (3 : Int32) σ) = 0 then
  (sp_d_heardInBoth_L4 j h σ)
else
  (sp_d_heardInBoth_L4 j (h + Int32.ofInt (1)) σ)
theorem ev_d_heardInBoth_L3 (hN : 65 ≤ N) (j : Nat) (h : Int32) (σ : mmS) (hj : j < 4) : Ev N L xs (39, 4, [(0, .ref (10 * j + 5)), (1, .int h), (2, .int (3 : Int32))], [], 0, σ) ((mmPI σ) (sp_d_heardInBoth_L3 j h σ)) := by
  unfold sp_d_heardInBoth_L3
  refine ev_iload_n d_39_4 rfl ?_
  refine ev_iconst d_39_5 ci_4 ?_
  refine ev_icmpF (tgt := 26) d_39_6 rfl (show ¬ ((4 : Int32) ≤ (3 : Int32)) by decide) ?_
  refine ev_aload_n d_39_9 rfl ?_
  refine ev_iload_n d_39_10 rfl ?_
  refine ev_cvI (As := [.int (3 : Int32)]) (t := []) (e' := 0) d_39_11 ml_0_35 rfl rfl rfl rfl rfl (by decide) rfl (ltn (by decide) hj hN) (shq_5 hj) rfl rfl (ev_d_hasBoth hN j (3 : Int32) σ hj (vpi (by decide))) ?_
  refine ev_if_eq (mmPI σ) (tgt := 20) d_39_14 rfl (fun _h14 => ?_) (fun _h14 => ?_)
  · refine ev_iinc (lv' := [(2, .int (4 : Int32)), (0, .ref (10 * j + 5)), (1, .int h)]) (v := (4 : Int32)) d_39_20 rfl (by decide) (by decide) rfl ?_
    refine ev_goto (tgt := 4) d_39_23 rfl ?_
    refine ev_sub (lv' := [(0, .ref (10 * j + 5)), (1, .int h), (2, .int (4 : Int32))]) (by simp) ?_
    exact ev_d_heardInBoth_L4 hN j h σ hj
  · refine ev_iinc (lv' := [(1, .int (h + Int32.ofInt (1))), (0, .ref (10 * j + 5)), (2, .int (3 : Int32))]) (v := (h + Int32.ofInt (1))) d_39_17 rfl rfl (by decide) rfl ?_
    refine ev_iinc (lv' := [(2, .int (4 : Int32)), (1, .int (h + Int32.ofInt (1))), (0, .ref (10 * j + 5))]) (v := (4 : Int32)) d_39_20 rfl (by decide) (by decide) rfl ?_
    refine ev_goto (tgt := 4) d_39_23 rfl ?_
    refine ev_sub (lv' := [(0, .ref (10 * j + 5)), (1, .int (h + Int32.ofInt (1))), (2, .int (4 : Int32))]) (by simp) ?_
    exact ev_d_heardInBoth_L4 hN j (h + Int32.ofInt (1)) σ hj
def sp_d_heardInBoth_L2 (j : Nat) (h : Int32) (σ : mmS) : Int32 :=
if (sp_d_hasBoth j (2 : Int32) σ) = 0 then
  (sp_d_heardInBoth_L3 j h σ)
else
  (sp_d_heardInBoth_L3 j (h + Int32.ofInt (1)) σ)
theorem ev_d_heardInBoth_L2 (hN : 65 ≤ N) (j : Nat) (h : Int32) (σ : mmS) (hj : j < 4) : Ev N L xs (39, 4, [(0, .ref (10 * j + 5)), (1, .int h), (2, .int (2 : Int32))], [], 0, σ) ((mmPI σ) (sp_d_heardInBoth_L2 j h σ)) := by
  unfold sp_d_heardInBoth_L2
  refine ev_iload_n d_39_4 rfl ?_
  refine ev_iconst d_39_5 ci_4 ?_
  refine ev_icmpF (tgt := 26) d_39_6 rfl (show ¬ ((4 : Int32) ≤ (2 : Int32)) by decide) ?_
  refine ev_aload_n d_39_9 rfl ?_
  refine ev_iload_n d_39_10 rfl ?_
  refine ev_cvI (As := [.int (2 : Int32)]) (t := []) (e' := 0) d_39_11 ml_0_35 rfl rfl rfl rfl rfl (by decide) rfl (ltn (by decide) hj hN) (shq_5 hj) rfl rfl (ev_d_hasBoth hN j (2 : Int32) σ hj (vpi (by decide))) ?_
  refine ev_if_eq (mmPI σ) (tgt := 20) d_39_14 rfl (fun _h14 => ?_) (fun _h14 => ?_)
  · refine ev_iinc (lv' := [(2, .int (3 : Int32)), (0, .ref (10 * j + 5)), (1, .int h)]) (v := (3 : Int32)) d_39_20 rfl (by decide) (by decide) rfl ?_
    refine ev_goto (tgt := 4) d_39_23 rfl ?_
    refine ev_sub (lv' := [(0, .ref (10 * j + 5)), (1, .int h), (2, .int (3 : Int32))]) (by simp) ?_
    exact ev_d_heardInBoth_L3 hN j h σ hj
  · refine ev_iinc (lv' := [(1, .int (h + Int32.ofInt (1))), (0, .ref (10 * j + 5)), (2, .int (2 : Int32))]) (v := (h + Int32.ofInt (1))) d_39_17 rfl rfl (by decide) rfl ?_
    refine ev_iinc (lv' := [(2, .int (3 : Int32)), (1, .int (h + Int32.ofInt (1))), (0, .ref (10 * j + 5))]) (v := (3 : Int32)) d_39_20 rfl (by decide) (by decide) rfl ?_
    refine ev_goto (tgt := 4) d_39_23 rfl ?_
    refine ev_sub (lv' := [(0, .ref (10 * j + 5)), (1, .int (h + Int32.ofInt (1))), (2, .int (3 : Int32))]) (by simp) ?_
    exact ev_d_heardInBoth_L3 hN j (h + Int32.ofInt (1)) σ hj
def sp_d_heardInBoth_L1 (j : Nat) (h : Int32) (σ : mmS) : Int32 :=
if (sp_d_hasBoth j (1 : Int32) σ) = 0 then
  (sp_d_heardInBoth_L2 j h σ)
else
  (sp_d_heardInBoth_L2 j (h + Int32.ofInt (1)) σ)
theorem ev_d_heardInBoth_L1 (hN : 65 ≤ N) (j : Nat) (h : Int32) (σ : mmS) (hj : j < 4) : Ev N L xs (39, 4, [(0, .ref (10 * j + 5)), (1, .int h), (2, .int (1 : Int32))], [], 0, σ) ((mmPI σ) (sp_d_heardInBoth_L1 j h σ)) := by
  unfold sp_d_heardInBoth_L1
  refine ev_iload_n d_39_4 rfl ?_
  refine ev_iconst d_39_5 ci_4 ?_
  refine ev_icmpF (tgt := 26) d_39_6 rfl (show ¬ ((4 : Int32) ≤ (1 : Int32)) by decide) ?_
  refine ev_aload_n d_39_9 rfl ?_
  refine ev_iload_n d_39_10 rfl ?_
  refine ev_cvI (As := [.int (1 : Int32)]) (t := []) (e' := 0) d_39_11 ml_0_35 rfl rfl rfl rfl rfl (by decide) rfl (ltn (by decide) hj hN) (shq_5 hj) rfl rfl (ev_d_hasBoth hN j (1 : Int32) σ hj (vpi (by decide))) ?_
  refine ev_if_eq (mmPI σ) (tgt := 20) d_39_14 rfl (fun _h14 => ?_) (fun _h14 => ?_)
  · refine ev_iinc (lv' := [(2, .int (2 : Int32)), (0, .ref (10 * j + 5)), (1, .int h)]) (v := (2 : Int32)) d_39_20 rfl (by decide) (by decide) rfl ?_
    refine ev_goto (tgt := 4) d_39_23 rfl ?_
    refine ev_sub (lv' := [(0, .ref (10 * j + 5)), (1, .int h), (2, .int (2 : Int32))]) (by simp) ?_
    exact ev_d_heardInBoth_L2 hN j h σ hj
  · refine ev_iinc (lv' := [(1, .int (h + Int32.ofInt (1))), (0, .ref (10 * j + 5)), (2, .int (1 : Int32))]) (v := (h + Int32.ofInt (1))) d_39_17 rfl rfl (by decide) rfl ?_
    refine ev_iinc (lv' := [(2, .int (2 : Int32)), (1, .int (h + Int32.ofInt (1))), (0, .ref (10 * j + 5))]) (v := (2 : Int32)) d_39_20 rfl (by decide) (by decide) rfl ?_
    refine ev_goto (tgt := 4) d_39_23 rfl ?_
    refine ev_sub (lv' := [(0, .ref (10 * j + 5)), (1, .int (h + Int32.ofInt (1))), (2, .int (2 : Int32))]) (by simp) ?_
    exact ev_d_heardInBoth_L2 hN j (h + Int32.ofInt (1)) σ hj
def sp_d_heardInBoth_L0 (j : Nat) (h : Int32) (σ : mmS) : Int32 :=
if (sp_d_hasBoth j (0 : Int32) σ) = 0 then
  (sp_d_heardInBoth_L1 j h σ)
else
  (sp_d_heardInBoth_L1 j (h + Int32.ofInt (1)) σ)
theorem ev_d_heardInBoth_L0 (hN : 65 ≤ N) (j : Nat) (h : Int32) (σ : mmS) (hj : j < 4) : Ev N L xs (39, 4, [(0, .ref (10 * j + 5)), (1, .int h), (2, .int (0 : Int32))], [], 0, σ) ((mmPI σ) (sp_d_heardInBoth_L0 j h σ)) := by
  unfold sp_d_heardInBoth_L0
  refine ev_iload_n d_39_4 rfl ?_
  refine ev_iconst d_39_5 ci_4 ?_
  refine ev_icmpF (tgt := 26) d_39_6 rfl (show ¬ ((4 : Int32) ≤ (0 : Int32)) by decide) ?_
  refine ev_aload_n d_39_9 rfl ?_
  refine ev_iload_n d_39_10 rfl ?_
  refine ev_cvI (As := [.int (0 : Int32)]) (t := []) (e' := 0) d_39_11 ml_0_35 rfl rfl rfl rfl rfl (by decide) rfl (ltn (by decide) hj hN) (shq_5 hj) rfl rfl (ev_d_hasBoth hN j (0 : Int32) σ hj (vpi (by decide))) ?_
  refine ev_if_eq (mmPI σ) (tgt := 20) d_39_14 rfl (fun _h14 => ?_) (fun _h14 => ?_)
  · refine ev_iinc (lv' := [(2, .int (1 : Int32)), (0, .ref (10 * j + 5)), (1, .int h)]) (v := (1 : Int32)) d_39_20 rfl (by decide) (by decide) rfl ?_
    refine ev_goto (tgt := 4) d_39_23 rfl ?_
    refine ev_sub (lv' := [(0, .ref (10 * j + 5)), (1, .int h), (2, .int (1 : Int32))]) (by simp) ?_
    exact ev_d_heardInBoth_L1 hN j h σ hj
  · refine ev_iinc (lv' := [(1, .int (h + Int32.ofInt (1))), (0, .ref (10 * j + 5)), (2, .int (0 : Int32))]) (v := (h + Int32.ofInt (1))) d_39_17 rfl rfl (by decide) rfl ?_
    refine ev_iinc (lv' := [(2, .int (1 : Int32)), (1, .int (h + Int32.ofInt (1))), (0, .ref (10 * j + 5))]) (v := (1 : Int32)) d_39_20 rfl (by decide) (by decide) rfl ?_
    refine ev_goto (tgt := 4) d_39_23 rfl ?_
    refine ev_sub (lv' := [(0, .ref (10 * j + 5)), (1, .int (h + Int32.ofInt (1))), (2, .int (1 : Int32))]) (by simp) ?_
    exact ev_d_heardInBoth_L1 hN j (h + Int32.ofInt (1)) σ hj
def sp_d_heardInBoth (j : Nat) (σ : mmS) : Int32 :=
(sp_d_heardInBoth_L0 j (0 : Int32) σ)
theorem ev_d_heardInBoth (hN : 65 ≤ N) (j : Nat) (σ : mmS) (hj : j < 4) : Ev N L xs (39, 0, lv_args 0 [.ref (10 * j + 5)], [], 0, σ) ((mmPI σ) (sp_d_heardInBoth j σ)) := by
  unfold sp_d_heardInBoth
  show Ev N L xs (39, 0, [(0, .ref (10 * j + 5))], [], 0, σ) _
  refine ev_iconst d_39_0 ci_0 ?_
  refine ev_istore_n (lv' := [(1, .int (0 : Int32)), (0, .ref (10 * j + 5))]) d_39_1 (by decide) rfl ?_
  refine ev_iconst d_39_2 ci_0 ?_
  refine ev_istore_n (lv' := [(2, .int (0 : Int32)), (1, .int (0 : Int32)), (0, .ref (10 * j + 5))]) d_39_3 (by decide) rfl ?_
  refine ev_sub (lv' := [(0, .ref (10 * j + 5)), (1, .int (0 : Int32)), (2, .int (0 : Int32))]) (by simp) ?_
  exact ev_d_heardInBoth_L0 hN j (0 : Int32) σ hj
def sp_d_middleChange_L4 (j : Nat) (σ : mmS) : Int32 × mmS :=
((sp_i_answer j σ), σ)
theorem ev_d_middleChange_L4 (hN : 65 ≤ N) (j : Nat) (σ : mmS) (hj : j < 4) (hs : szok j σ) : Ev N L xs (32, 9, [(0, .ref (10 * j + 5)), (1, .int (4 : Int32))], [], 0, σ) (mmSI (sp_d_middleChange_L4 j σ)) := by
  unfold sp_d_middleChange_L4
  refine ev_iload_n d_32_9 rfl ?_
  refine ev_iconst d_32_10 ci_4 ?_
  refine ev_icmpT (tgt := 48) d_32_11 rfl (show (4 : Int32) ≤ (4 : Int32) by decide) ?_
  refine ev_aload_n d_32_48 rfl ?_
  refine ev_getf (v := .ref (10 * j + 8)) d_32_49 fl_0_27 (ltn (by decide) hj hN) (shq_5 hj) rfl ?_
  refine ev_cvI (As := []) (t := []) (e' := 0) d_32_52 ml_0_46 rfl rfl rfl rfl rfl (by decide) rfl (ltn (by decide) hj hN) (shq_8 hj) rfl rfl (ev_i_answer hN j σ hj hs) ?_
  exact ev_iret d_32_55 rfl
def sp_d_middleChange_L3 (j : Nat) (σ : mmS) : Int32 × mmS :=
if (sp_d_hasBoth j (3 : Int32) σ) = 0 then
  (sp_d_middleChange_L4 j σ)
else
  (sp_d_middleChange_L4 j (sp_i_add j ((σ.1 (10 * j + 7) 3) - (σ.1 (10 * j + 6) 3)) σ))
theorem ev_d_middleChange_L3 (hN : 65 ≤ N) (j : Nat) (σ : mmS) (hj : j < 4) (hs : szok j σ) : Ev N L xs (32, 9, [(0, .ref (10 * j + 5)), (1, .int (3 : Int32))], [], 0, σ) (mmSI (sp_d_middleChange_L3 j σ)) := by
  unfold sp_d_middleChange_L3
  refine ev_iload_n d_32_9 rfl ?_
  refine ev_iconst d_32_10 ci_4 ?_
  refine ev_icmpF (tgt := 48) d_32_11 rfl (show ¬ ((4 : Int32) ≤ (3 : Int32)) by decide) ?_
  refine ev_aload_n d_32_14 rfl ?_
  refine ev_iload_n d_32_15 rfl ?_
  refine ev_cvI (As := [.int (3 : Int32)]) (t := []) (e' := 0) d_32_16 ml_0_35 rfl rfl rfl rfl rfl (by decide) rfl (ltn (by decide) hj hN) (shq_5 hj) rfl rfl (ev_d_hasBoth hN j (3 : Int32) σ hj (vpi (by decide))) ?_
  refine ev_if_eq mmSI (tgt := 42) d_32_19 rfl (fun _h19 => ?_) (fun _h19 => ?_)
  · refine ev_iinc (lv' := [(1, .int (4 : Int32)), (0, .ref (10 * j + 5))]) (v := (4 : Int32)) d_32_42 rfl (by decide) (by decide) rfl ?_
    refine ev_goto (tgt := 9) d_32_45 rfl ?_
    refine ev_sub (lv' := [(0, .ref (10 * j + 5)), (1, .int (4 : Int32))]) (by simp) ?_
    exact ev_d_middleChange_L4 hN j σ hj (by first | exact hs | exact szok_add hs)
  · refine ev_aload_n d_32_22 rfl ?_
    refine ev_getf (v := .ref (10 * j + 8)) d_32_23 fl_0_27 (ltn (by decide) hj hN) (shq_5 hj) rfl ?_
    refine ev_aload_n d_32_26 rfl ?_
    refine ev_getf (v := .ref (10 * j + 7)) d_32_27 fl_0_15 (ltn (by decide) hj hN) (shq_5 hj) rfl ?_
    refine ev_iload_n d_32_30 rfl ?_
    refine ev_iald (i := 3) d_32_31 (ltn (by decide) hj hN) (shq_7 hj) (vpi (by decide)) (by decide) ?_
    refine ev_aload_n d_32_32 rfl ?_
    refine ev_getf (v := .ref (10 * j + 6)) d_32_33 fl_0_9 (ltn (by decide) hj hN) (shq_5 hj) rfl ?_
    refine ev_iload_n d_32_36 rfl ?_
    refine ev_iald (i := 3) d_32_37 (ltn (by decide) hj hN) (shq_6 hj) (vpi (by decide)) (by decide) ?_
    refine ev_isub (v := ((σ.1 (10 * j + 7) 3) - (σ.1 (10 * j + 6) 3))) d_32_38 rfl ?_
    refine ev_cvV (As := [.int ((σ.1 (10 * j + 7) 3) - (σ.1 (10 * j + 6) 3))]) (t := []) (e' := 0) d_32_39 ml_0_42 rfl rfl rfl rfl rfl (by decide) rfl (ltn (by decide) hj hN) (shq_8 hj) rfl rfl (ev_i_add hN j ((σ.1 (10 * j + 7) 3) - (σ.1 (10 * j + 6) 3)) σ hj hs) ?_
    refine ev_iinc (lv' := [(1, .int (4 : Int32)), (0, .ref (10 * j + 5))]) (v := (4 : Int32)) d_32_42 rfl (by decide) (by decide) rfl ?_
    refine ev_goto (tgt := 9) d_32_45 rfl ?_
    refine ev_sub (lv' := [(0, .ref (10 * j + 5)), (1, .int (4 : Int32))]) (by simp) ?_
    exact ev_d_middleChange_L4 hN j (sp_i_add j ((σ.1 (10 * j + 7) 3) - (σ.1 (10 * j + 6) 3)) σ) hj (by first | exact hs | exact szok_add hs)
def sp_d_middleChange_L2 (j : Nat) (σ : mmS) : Int32 × mmS :=
if (sp_d_hasBoth j (2 : Int32) σ) = 0 then
  (sp_d_middleChange_L3 j σ)
else
  (sp_d_middleChange_L3 j (sp_i_add j ((σ.1 (10 * j + 7) 2) - (σ.1 (10 * j + 6) 2)) σ))
theorem ev_d_middleChange_L2 (hN : 65 ≤ N) (j : Nat) (σ : mmS) (hj : j < 4) (hs : szok j σ) : Ev N L xs (32, 9, [(0, .ref (10 * j + 5)), (1, .int (2 : Int32))], [], 0, σ) (mmSI (sp_d_middleChange_L2 j σ)) := by
  unfold sp_d_middleChange_L2
  refine ev_iload_n d_32_9 rfl ?_
  refine ev_iconst d_32_10 ci_4 ?_
  refine ev_icmpF (tgt := 48) d_32_11 rfl (show ¬ ((4 : Int32) ≤ (2 : Int32)) by decide) ?_
  refine ev_aload_n d_32_14 rfl ?_
  refine ev_iload_n d_32_15 rfl ?_
  refine ev_cvI (As := [.int (2 : Int32)]) (t := []) (e' := 0) d_32_16 ml_0_35 rfl rfl rfl rfl rfl (by decide) rfl (ltn (by decide) hj hN) (shq_5 hj) rfl rfl (ev_d_hasBoth hN j (2 : Int32) σ hj (vpi (by decide))) ?_
  refine ev_if_eq mmSI (tgt := 42) d_32_19 rfl (fun _h19 => ?_) (fun _h19 => ?_)
  · refine ev_iinc (lv' := [(1, .int (3 : Int32)), (0, .ref (10 * j + 5))]) (v := (3 : Int32)) d_32_42 rfl (by decide) (by decide) rfl ?_
    refine ev_goto (tgt := 9) d_32_45 rfl ?_
    refine ev_sub (lv' := [(0, .ref (10 * j + 5)), (1, .int (3 : Int32))]) (by simp) ?_
    exact ev_d_middleChange_L3 hN j σ hj (by first | exact hs | exact szok_add hs)
  · refine ev_aload_n d_32_22 rfl ?_
    refine ev_getf (v := .ref (10 * j + 8)) d_32_23 fl_0_27 (ltn (by decide) hj hN) (shq_5 hj) rfl ?_
    refine ev_aload_n d_32_26 rfl ?_
    refine ev_getf (v := .ref (10 * j + 7)) d_32_27 fl_0_15 (ltn (by decide) hj hN) (shq_5 hj) rfl ?_
    refine ev_iload_n d_32_30 rfl ?_
    refine ev_iald (i := 2) d_32_31 (ltn (by decide) hj hN) (shq_7 hj) (vpi (by decide)) (by decide) ?_
    refine ev_aload_n d_32_32 rfl ?_
    refine ev_getf (v := .ref (10 * j + 6)) d_32_33 fl_0_9 (ltn (by decide) hj hN) (shq_5 hj) rfl ?_
    refine ev_iload_n d_32_36 rfl ?_
    refine ev_iald (i := 2) d_32_37 (ltn (by decide) hj hN) (shq_6 hj) (vpi (by decide)) (by decide) ?_
    refine ev_isub (v := ((σ.1 (10 * j + 7) 2) - (σ.1 (10 * j + 6) 2))) d_32_38 rfl ?_
    refine ev_cvV (As := [.int ((σ.1 (10 * j + 7) 2) - (σ.1 (10 * j + 6) 2))]) (t := []) (e' := 0) d_32_39 ml_0_42 rfl rfl rfl rfl rfl (by decide) rfl (ltn (by decide) hj hN) (shq_8 hj) rfl rfl (ev_i_add hN j ((σ.1 (10 * j + 7) 2) - (σ.1 (10 * j + 6) 2)) σ hj hs) ?_
    refine ev_iinc (lv' := [(1, .int (3 : Int32)), (0, .ref (10 * j + 5))]) (v := (3 : Int32)) d_32_42 rfl (by decide) (by decide) rfl ?_
    refine ev_goto (tgt := 9) d_32_45 rfl ?_
    refine ev_sub (lv' := [(0, .ref (10 * j + 5)), (1, .int (3 : Int32))]) (by simp) ?_
    exact ev_d_middleChange_L3 hN j (sp_i_add j ((σ.1 (10 * j + 7) 2) - (σ.1 (10 * j + 6) 2)) σ) hj (by first | exact hs | exact szok_add hs)
def sp_d_middleChange_L1 (j : Nat) (σ : mmS) : Int32 × mmS :=
if (sp_d_hasBoth j (1 : Int32) σ) = 0 then
  (sp_d_middleChange_L2 j σ)
else
  (sp_d_middleChange_L2 j (sp_i_add j ((σ.1 (10 * j + 7) 1) - (σ.1 (10 * j + 6) 1)) σ))
theorem ev_d_middleChange_L1 (hN : 65 ≤ N) (j : Nat) (σ : mmS) (hj : j < 4) (hs : szok j σ) : Ev N L xs (32, 9, [(0, .ref (10 * j + 5)), (1, .int (1 : Int32))], [], 0, σ) (mmSI (sp_d_middleChange_L1 j σ)) := by
  unfold sp_d_middleChange_L1
  refine ev_iload_n d_32_9 rfl ?_
  refine ev_iconst d_32_10 ci_4 ?_
  refine ev_icmpF (tgt := 48) d_32_11 rfl (show ¬ ((4 : Int32) ≤ (1 : Int32)) by decide) ?_
  refine ev_aload_n d_32_14 rfl ?_
  refine ev_iload_n d_32_15 rfl ?_
  refine ev_cvI (As := [.int (1 : Int32)]) (t := []) (e' := 0) d_32_16 ml_0_35 rfl rfl rfl rfl rfl (by decide) rfl (ltn (by decide) hj hN) (shq_5 hj) rfl rfl (ev_d_hasBoth hN j (1 : Int32) σ hj (vpi (by decide))) ?_
  refine ev_if_eq mmSI (tgt := 42) d_32_19 rfl (fun _h19 => ?_) (fun _h19 => ?_)
  · refine ev_iinc (lv' := [(1, .int (2 : Int32)), (0, .ref (10 * j + 5))]) (v := (2 : Int32)) d_32_42 rfl (by decide) (by decide) rfl ?_
    refine ev_goto (tgt := 9) d_32_45 rfl ?_
    refine ev_sub (lv' := [(0, .ref (10 * j + 5)), (1, .int (2 : Int32))]) (by simp) ?_
    exact ev_d_middleChange_L2 hN j σ hj (by first | exact hs | exact szok_add hs)
  · refine ev_aload_n d_32_22 rfl ?_
    refine ev_getf (v := .ref (10 * j + 8)) d_32_23 fl_0_27 (ltn (by decide) hj hN) (shq_5 hj) rfl ?_
    refine ev_aload_n d_32_26 rfl ?_
    refine ev_getf (v := .ref (10 * j + 7)) d_32_27 fl_0_15 (ltn (by decide) hj hN) (shq_5 hj) rfl ?_
    refine ev_iload_n d_32_30 rfl ?_
    refine ev_iald (i := 1) d_32_31 (ltn (by decide) hj hN) (shq_7 hj) (vpi (by decide)) (by decide) ?_
    refine ev_aload_n d_32_32 rfl ?_
    refine ev_getf (v := .ref (10 * j + 6)) d_32_33 fl_0_9 (ltn (by decide) hj hN) (shq_5 hj) rfl ?_
    refine ev_iload_n d_32_36 rfl ?_
    refine ev_iald (i := 1) d_32_37 (ltn (by decide) hj hN) (shq_6 hj) (vpi (by decide)) (by decide) ?_
    refine ev_isub (v := ((σ.1 (10 * j + 7) 1) - (σ.1 (10 * j + 6) 1))) d_32_38 rfl ?_
    refine ev_cvV (As := [.int ((σ.1 (10 * j + 7) 1) - (σ.1 (10 * j + 6) 1))]) (t := []) (e' := 0) d_32_39 ml_0_42 rfl rfl rfl rfl rfl (by decide) rfl (ltn (by decide) hj hN) (shq_8 hj) rfl rfl (ev_i_add hN j ((σ.1 (10 * j + 7) 1) - (σ.1 (10 * j + 6) 1)) σ hj hs) ?_
    refine ev_iinc (lv' := [(1, .int (2 : Int32)), (0, .ref (10 * j + 5))]) (v := (2 : Int32)) d_32_42 rfl (by decide) (by decide) rfl ?_
    refine ev_goto (tgt := 9) d_32_45 rfl ?_
    refine ev_sub (lv' := [(0, .ref (10 * j + 5)), (1, .int (2 : Int32))]) (by simp) ?_
    exact ev_d_middleChange_L2 hN j (sp_i_add j ((σ.1 (10 * j + 7) 1) - (σ.1 (10 * j + 6) 1)) σ) hj (by first | exact hs | exact szok_add hs)
def sp_d_middleChange_L0 (j : Nat) (σ : mmS) : Int32 × mmS :=
if (sp_d_hasBoth j (0 : Int32) σ) = 0 then
  (sp_d_middleChange_L1 j σ)
else
  (sp_d_middleChange_L1 j (sp_i_add j ((σ.1 (10 * j + 7) 0) - (σ.1 (10 * j + 6) 0)) σ))
theorem ev_d_middleChange_L0 (hN : 65 ≤ N) (j : Nat) (σ : mmS) (hj : j < 4) (hs : szok j σ) : Ev N L xs (32, 9, [(0, .ref (10 * j + 5)), (1, .int (0 : Int32))], [], 0, σ) (mmSI (sp_d_middleChange_L0 j σ)) := by
  unfold sp_d_middleChange_L0
  refine ev_iload_n d_32_9 rfl ?_
  refine ev_iconst d_32_10 ci_4 ?_
  refine ev_icmpF (tgt := 48) d_32_11 rfl (show ¬ ((4 : Int32) ≤ (0 : Int32)) by decide) ?_
  refine ev_aload_n d_32_14 rfl ?_
  refine ev_iload_n d_32_15 rfl ?_
  refine ev_cvI (As := [.int (0 : Int32)]) (t := []) (e' := 0) d_32_16 ml_0_35 rfl rfl rfl rfl rfl (by decide) rfl (ltn (by decide) hj hN) (shq_5 hj) rfl rfl (ev_d_hasBoth hN j (0 : Int32) σ hj (vpi (by decide))) ?_
  refine ev_if_eq mmSI (tgt := 42) d_32_19 rfl (fun _h19 => ?_) (fun _h19 => ?_)
  · refine ev_iinc (lv' := [(1, .int (1 : Int32)), (0, .ref (10 * j + 5))]) (v := (1 : Int32)) d_32_42 rfl (by decide) (by decide) rfl ?_
    refine ev_goto (tgt := 9) d_32_45 rfl ?_
    refine ev_sub (lv' := [(0, .ref (10 * j + 5)), (1, .int (1 : Int32))]) (by simp) ?_
    exact ev_d_middleChange_L1 hN j σ hj (by first | exact hs | exact szok_add hs)
  · refine ev_aload_n d_32_22 rfl ?_
    refine ev_getf (v := .ref (10 * j + 8)) d_32_23 fl_0_27 (ltn (by decide) hj hN) (shq_5 hj) rfl ?_
    refine ev_aload_n d_32_26 rfl ?_
    refine ev_getf (v := .ref (10 * j + 7)) d_32_27 fl_0_15 (ltn (by decide) hj hN) (shq_5 hj) rfl ?_
    refine ev_iload_n d_32_30 rfl ?_
    refine ev_iald (i := 0) d_32_31 (ltn (by decide) hj hN) (shq_7 hj) (vpi (by decide)) (by decide) ?_
    refine ev_aload_n d_32_32 rfl ?_
    refine ev_getf (v := .ref (10 * j + 6)) d_32_33 fl_0_9 (ltn (by decide) hj hN) (shq_5 hj) rfl ?_
    refine ev_iload_n d_32_36 rfl ?_
    refine ev_iald (i := 0) d_32_37 (ltn (by decide) hj hN) (shq_6 hj) (vpi (by decide)) (by decide) ?_
    refine ev_isub (v := ((σ.1 (10 * j + 7) 0) - (σ.1 (10 * j + 6) 0))) d_32_38 rfl ?_
    refine ev_cvV (As := [.int ((σ.1 (10 * j + 7) 0) - (σ.1 (10 * j + 6) 0))]) (t := []) (e' := 0) d_32_39 ml_0_42 rfl rfl rfl rfl rfl (by decide) rfl (ltn (by decide) hj hN) (shq_8 hj) rfl rfl (ev_i_add hN j ((σ.1 (10 * j + 7) 0) - (σ.1 (10 * j + 6) 0)) σ hj hs) ?_
    refine ev_iinc (lv' := [(1, .int (1 : Int32)), (0, .ref (10 * j + 5))]) (v := (1 : Int32)) d_32_42 rfl (by decide) (by decide) rfl ?_
    refine ev_goto (tgt := 9) d_32_45 rfl ?_
    refine ev_sub (lv' := [(0, .ref (10 * j + 5)), (1, .int (1 : Int32))]) (by simp) ?_
    exact ev_d_middleChange_L1 hN j (sp_i_add j ((σ.1 (10 * j + 7) 0) - (σ.1 (10 * j + 6) 0)) σ) hj (by first | exact hs | exact szok_add hs)
def sp_d_middleChange (j : Nat) (σ : mmS) : Int32 × mmS :=
(sp_d_middleChange_L0 j (sp_i_beginWithZero j σ))
theorem ev_d_middleChange (hN : 65 ≤ N) (j : Nat) (σ : mmS) (hj : j < 4) : Ev N L xs (32, 0, lv_args 0 [.ref (10 * j + 5)], [], 0, σ) (mmSI (sp_d_middleChange j σ)) := by
  unfold sp_d_middleChange
  show Ev N L xs (32, 0, [(0, .ref (10 * j + 5))], [], 0, σ) _
  refine ev_aload_n d_32_0 rfl ?_
  refine ev_getf (v := .ref (10 * j + 8)) d_32_1 fl_0_27 (ltn (by decide) hj hN) (shq_5 hj) rfl ?_
  refine ev_cvV (As := []) (t := []) (e' := 0) d_32_4 ml_0_39 rfl rfl rfl rfl rfl (by decide) rfl (ltn (by decide) hj hN) (shq_8 hj) rfl rfl (ev_i_beginWithZero hN j σ hj) ?_
  refine ev_iconst d_32_7 ci_0 ?_
  refine ev_istore_n (lv' := [(1, .int (0 : Int32)), (0, .ref (10 * j + 5))]) d_32_8 (by decide) rfl ?_
  refine ev_sub (lv' := [(0, .ref (10 * j + 5)), (1, .int (0 : Int32))]) (by simp) ?_
  exact ev_d_middleChange_L0 hN j (sp_i_beginWithZero j σ) hj szok_beg
def sp_d_middleInOdd_L4 (j : Nat) (σ : mmS) : Int32 × mmS :=
((sp_i_answer j σ), σ)
theorem ev_d_middleInOdd_L4 (hN : 65 ≤ N) (j : Nat) (σ : mmS) (hj : j < 4) (hs : szok j σ) : Ev N L xs (37, 9, [(0, .ref (10 * j + 5)), (1, .int (4 : Int32))], [], 0, σ) (mmSI (sp_d_middleInOdd_L4 j σ)) := by
  unfold sp_d_middleInOdd_L4
  refine ev_iload_n d_37_9 rfl ?_
  refine ev_iconst d_37_10 ci_4 ?_
  refine ev_icmpT (tgt := 45) d_37_11 rfl (show (4 : Int32) ≤ (4 : Int32) by decide) ?_
  refine ev_aload_n d_37_45 rfl ?_
  refine ev_getf (v := .ref (10 * j + 8)) d_37_46 fl_0_27 (ltn (by decide) hj hN) (shq_5 hj) rfl ?_
  refine ev_cvI (As := []) (t := []) (e' := 0) d_37_49 ml_0_46 rfl rfl rfl rfl rfl (by decide) rfl (ltn (by decide) hj hN) (shq_8 hj) rfl rfl (ev_i_answer hN j σ hj hs) ?_
  exact ev_iret d_37_52 rfl
def sp_d_middleInOdd_L3 (j : Nat) (σ : mmS) : Int32 × mmS :=
if (σ.1 (10 * j + 7) 3) = (1000 : Int32) then
  (sp_d_middleInOdd_L4 j σ)
else
  (sp_d_middleInOdd_L4 j (sp_i_add j (σ.1 (10 * j + 7) 3) σ))
theorem ev_d_middleInOdd_L3 (hN : 65 ≤ N) (j : Nat) (σ : mmS) (hj : j < 4) (hs : szok j σ) : Ev N L xs (37, 9, [(0, .ref (10 * j + 5)), (1, .int (3 : Int32))], [], 0, σ) (mmSI (sp_d_middleInOdd_L3 j σ)) := by
  unfold sp_d_middleInOdd_L3
  refine ev_iload_n d_37_9 rfl ?_
  refine ev_iconst d_37_10 ci_4 ?_
  refine ev_icmpF (tgt := 45) d_37_11 rfl (show ¬ ((4 : Int32) ≤ (3 : Int32)) by decide) ?_
  refine ev_aload_n d_37_14 rfl ?_
  refine ev_getf (v := .ref (10 * j + 7)) d_37_15 fl_0_15 (ltn (by decide) hj hN) (shq_5 hj) rfl ?_
  refine ev_iload_n d_37_18 rfl ?_
  refine ev_iald (i := 3) d_37_19 (ltn (by decide) hj hN) (shq_7 hj) (vpi (by decide)) (by decide) ?_
  refine ev_sipush d_37_20 cs_1000 ?_
  refine ev_icmp_eq mmSI (tgt := 39) d_37_23 rfl (fun _h23 => ?_) (fun _h23 => ?_)
  · refine ev_iinc (lv' := [(1, .int (4 : Int32)), (0, .ref (10 * j + 5))]) (v := (4 : Int32)) d_37_39 rfl (by decide) (by decide) rfl ?_
    refine ev_goto (tgt := 9) d_37_42 rfl ?_
    refine ev_sub (lv' := [(0, .ref (10 * j + 5)), (1, .int (4 : Int32))]) (by simp) ?_
    exact ev_d_middleInOdd_L4 hN j σ hj (by first | exact hs | exact szok_add hs)
  · refine ev_aload_n d_37_26 rfl ?_
    refine ev_getf (v := .ref (10 * j + 8)) d_37_27 fl_0_27 (ltn (by decide) hj hN) (shq_5 hj) rfl ?_
    refine ev_aload_n d_37_30 rfl ?_
    refine ev_getf (v := .ref (10 * j + 7)) d_37_31 fl_0_15 (ltn (by decide) hj hN) (shq_5 hj) rfl ?_
    refine ev_iload_n d_37_34 rfl ?_
    refine ev_iald (i := 3) d_37_35 (ltn (by decide) hj hN) (shq_7 hj) (vpi (by decide)) (by decide) ?_
    refine ev_cvV (As := [.int (σ.1 (10 * j + 7) 3)]) (t := []) (e' := 0) d_37_36 ml_0_42 rfl rfl rfl rfl rfl (by decide) rfl (ltn (by decide) hj hN) (shq_8 hj) rfl rfl (ev_i_add hN j (σ.1 (10 * j + 7) 3) σ hj hs) ?_
    refine ev_iinc (lv' := [(1, .int (4 : Int32)), (0, .ref (10 * j + 5))]) (v := (4 : Int32)) d_37_39 rfl (by decide) (by decide) rfl ?_
    refine ev_goto (tgt := 9) d_37_42 rfl ?_
    refine ev_sub (lv' := [(0, .ref (10 * j + 5)), (1, .int (4 : Int32))]) (by simp) ?_
    exact ev_d_middleInOdd_L4 hN j (sp_i_add j (σ.1 (10 * j + 7) 3) σ) hj (by first | exact hs | exact szok_add hs)
def sp_d_middleInOdd_L2 (j : Nat) (σ : mmS) : Int32 × mmS :=
if (σ.1 (10 * j + 7) 2) = (1000 : Int32) then
  (sp_d_middleInOdd_L3 j σ)
else
  (sp_d_middleInOdd_L3 j (sp_i_add j (σ.1 (10 * j + 7) 2) σ))
theorem ev_d_middleInOdd_L2 (hN : 65 ≤ N) (j : Nat) (σ : mmS) (hj : j < 4) (hs : szok j σ) : Ev N L xs (37, 9, [(0, .ref (10 * j + 5)), (1, .int (2 : Int32))], [], 0, σ) (mmSI (sp_d_middleInOdd_L2 j σ)) := by
  unfold sp_d_middleInOdd_L2
  refine ev_iload_n d_37_9 rfl ?_
  refine ev_iconst d_37_10 ci_4 ?_
  refine ev_icmpF (tgt := 45) d_37_11 rfl (show ¬ ((4 : Int32) ≤ (2 : Int32)) by decide) ?_
  refine ev_aload_n d_37_14 rfl ?_
  refine ev_getf (v := .ref (10 * j + 7)) d_37_15 fl_0_15 (ltn (by decide) hj hN) (shq_5 hj) rfl ?_
  refine ev_iload_n d_37_18 rfl ?_
  refine ev_iald (i := 2) d_37_19 (ltn (by decide) hj hN) (shq_7 hj) (vpi (by decide)) (by decide) ?_
  refine ev_sipush d_37_20 cs_1000 ?_
  refine ev_icmp_eq mmSI (tgt := 39) d_37_23 rfl (fun _h23 => ?_) (fun _h23 => ?_)
  · refine ev_iinc (lv' := [(1, .int (3 : Int32)), (0, .ref (10 * j + 5))]) (v := (3 : Int32)) d_37_39 rfl (by decide) (by decide) rfl ?_
    refine ev_goto (tgt := 9) d_37_42 rfl ?_
    refine ev_sub (lv' := [(0, .ref (10 * j + 5)), (1, .int (3 : Int32))]) (by simp) ?_
    exact ev_d_middleInOdd_L3 hN j σ hj (by first | exact hs | exact szok_add hs)
  · refine ev_aload_n d_37_26 rfl ?_
    refine ev_getf (v := .ref (10 * j + 8)) d_37_27 fl_0_27 (ltn (by decide) hj hN) (shq_5 hj) rfl ?_
    refine ev_aload_n d_37_30 rfl ?_
    refine ev_getf (v := .ref (10 * j + 7)) d_37_31 fl_0_15 (ltn (by decide) hj hN) (shq_5 hj) rfl ?_
    refine ev_iload_n d_37_34 rfl ?_
    refine ev_iald (i := 2) d_37_35 (ltn (by decide) hj hN) (shq_7 hj) (vpi (by decide)) (by decide) ?_
    refine ev_cvV (As := [.int (σ.1 (10 * j + 7) 2)]) (t := []) (e' := 0) d_37_36 ml_0_42 rfl rfl rfl rfl rfl (by decide) rfl (ltn (by decide) hj hN) (shq_8 hj) rfl rfl (ev_i_add hN j (σ.1 (10 * j + 7) 2) σ hj hs) ?_
    refine ev_iinc (lv' := [(1, .int (3 : Int32)), (0, .ref (10 * j + 5))]) (v := (3 : Int32)) d_37_39 rfl (by decide) (by decide) rfl ?_
    refine ev_goto (tgt := 9) d_37_42 rfl ?_
    refine ev_sub (lv' := [(0, .ref (10 * j + 5)), (1, .int (3 : Int32))]) (by simp) ?_
    exact ev_d_middleInOdd_L3 hN j (sp_i_add j (σ.1 (10 * j + 7) 2) σ) hj (by first | exact hs | exact szok_add hs)
def sp_d_middleInOdd_L1 (j : Nat) (σ : mmS) : Int32 × mmS :=
if (σ.1 (10 * j + 7) 1) = (1000 : Int32) then
  (sp_d_middleInOdd_L2 j σ)
else
  (sp_d_middleInOdd_L2 j (sp_i_add j (σ.1 (10 * j + 7) 1) σ))
theorem ev_d_middleInOdd_L1 (hN : 65 ≤ N) (j : Nat) (σ : mmS) (hj : j < 4) (hs : szok j σ) : Ev N L xs (37, 9, [(0, .ref (10 * j + 5)), (1, .int (1 : Int32))], [], 0, σ) (mmSI (sp_d_middleInOdd_L1 j σ)) := by
  unfold sp_d_middleInOdd_L1
  refine ev_iload_n d_37_9 rfl ?_
  refine ev_iconst d_37_10 ci_4 ?_
  refine ev_icmpF (tgt := 45) d_37_11 rfl (show ¬ ((4 : Int32) ≤ (1 : Int32)) by decide) ?_
  refine ev_aload_n d_37_14 rfl ?_
  refine ev_getf (v := .ref (10 * j + 7)) d_37_15 fl_0_15 (ltn (by decide) hj hN) (shq_5 hj) rfl ?_
  refine ev_iload_n d_37_18 rfl ?_
  refine ev_iald (i := 1) d_37_19 (ltn (by decide) hj hN) (shq_7 hj) (vpi (by decide)) (by decide) ?_
  refine ev_sipush d_37_20 cs_1000 ?_
  refine ev_icmp_eq mmSI (tgt := 39) d_37_23 rfl (fun _h23 => ?_) (fun _h23 => ?_)
  · refine ev_iinc (lv' := [(1, .int (2 : Int32)), (0, .ref (10 * j + 5))]) (v := (2 : Int32)) d_37_39 rfl (by decide) (by decide) rfl ?_
    refine ev_goto (tgt := 9) d_37_42 rfl ?_
    refine ev_sub (lv' := [(0, .ref (10 * j + 5)), (1, .int (2 : Int32))]) (by simp) ?_
    exact ev_d_middleInOdd_L2 hN j σ hj (by first | exact hs | exact szok_add hs)
  · refine ev_aload_n d_37_26 rfl ?_
    refine ev_getf (v := .ref (10 * j + 8)) d_37_27 fl_0_27 (ltn (by decide) hj hN) (shq_5 hj) rfl ?_
    refine ev_aload_n d_37_30 rfl ?_
    refine ev_getf (v := .ref (10 * j + 7)) d_37_31 fl_0_15 (ltn (by decide) hj hN) (shq_5 hj) rfl ?_
    refine ev_iload_n d_37_34 rfl ?_
    refine ev_iald (i := 1) d_37_35 (ltn (by decide) hj hN) (shq_7 hj) (vpi (by decide)) (by decide) ?_
    refine ev_cvV (As := [.int (σ.1 (10 * j + 7) 1)]) (t := []) (e' := 0) d_37_36 ml_0_42 rfl rfl rfl rfl rfl (by decide) rfl (ltn (by decide) hj hN) (shq_8 hj) rfl rfl (ev_i_add hN j (σ.1 (10 * j + 7) 1) σ hj hs) ?_
    refine ev_iinc (lv' := [(1, .int (2 : Int32)), (0, .ref (10 * j + 5))]) (v := (2 : Int32)) d_37_39 rfl (by decide) (by decide) rfl ?_
    refine ev_goto (tgt := 9) d_37_42 rfl ?_
    refine ev_sub (lv' := [(0, .ref (10 * j + 5)), (1, .int (2 : Int32))]) (by simp) ?_
    exact ev_d_middleInOdd_L2 hN j (sp_i_add j (σ.1 (10 * j + 7) 1) σ) hj (by first | exact hs | exact szok_add hs)
def sp_d_middleInOdd_L0 (j : Nat) (σ : mmS) : Int32 × mmS :=
if (σ.1 (10 * j + 7) 0) = (1000 : Int32) then
  (sp_d_middleInOdd_L1 j σ)
else
  (sp_d_middleInOdd_L1 j (sp_i_add j (σ.1 (10 * j + 7) 0) σ))
theorem ev_d_middleInOdd_L0 (hN : 65 ≤ N) (j : Nat) (σ : mmS) (hj : j < 4) (hs : szok j σ) : Ev N L xs (37, 9, [(0, .ref (10 * j + 5)), (1, .int (0 : Int32))], [], 0, σ) (mmSI (sp_d_middleInOdd_L0 j σ)) := by
  unfold sp_d_middleInOdd_L0
  refine ev_iload_n d_37_9 rfl ?_
  refine ev_iconst d_37_10 ci_4 ?_
  refine ev_icmpF (tgt := 45) d_37_11 rfl (show ¬ ((4 : Int32) ≤ (0 : Int32)) by decide) ?_
  refine ev_aload_n d_37_14 rfl ?_
  refine ev_getf (v := .ref (10 * j + 7)) d_37_15 fl_0_15 (ltn (by decide) hj hN) (shq_5 hj) rfl ?_
  refine ev_iload_n d_37_18 rfl ?_
  refine ev_iald (i := 0) d_37_19 (ltn (by decide) hj hN) (shq_7 hj) (vpi (by decide)) (by decide) ?_
  refine ev_sipush d_37_20 cs_1000 ?_
  refine ev_icmp_eq mmSI (tgt := 39) d_37_23 rfl (fun _h23 => ?_) (fun _h23 => ?_)
  · refine ev_iinc (lv' := [(1, .int (1 : Int32)), (0, .ref (10 * j + 5))]) (v := (1 : Int32)) d_37_39 rfl (by decide) (by decide) rfl ?_
    refine ev_goto (tgt := 9) d_37_42 rfl ?_
    refine ev_sub (lv' := [(0, .ref (10 * j + 5)), (1, .int (1 : Int32))]) (by simp) ?_
    exact ev_d_middleInOdd_L1 hN j σ hj (by first | exact hs | exact szok_add hs)
  · refine ev_aload_n d_37_26 rfl ?_
    refine ev_getf (v := .ref (10 * j + 8)) d_37_27 fl_0_27 (ltn (by decide) hj hN) (shq_5 hj) rfl ?_
    refine ev_aload_n d_37_30 rfl ?_
    refine ev_getf (v := .ref (10 * j + 7)) d_37_31 fl_0_15 (ltn (by decide) hj hN) (shq_5 hj) rfl ?_
    refine ev_iload_n d_37_34 rfl ?_
    refine ev_iald (i := 0) d_37_35 (ltn (by decide) hj hN) (shq_7 hj) (vpi (by decide)) (by decide) ?_
    refine ev_cvV (As := [.int (σ.1 (10 * j + 7) 0)]) (t := []) (e' := 0) d_37_36 ml_0_42 rfl rfl rfl rfl rfl (by decide) rfl (ltn (by decide) hj hN) (shq_8 hj) rfl rfl (ev_i_add hN j (σ.1 (10 * j + 7) 0) σ hj hs) ?_
    refine ev_iinc (lv' := [(1, .int (1 : Int32)), (0, .ref (10 * j + 5))]) (v := (1 : Int32)) d_37_39 rfl (by decide) (by decide) rfl ?_
    refine ev_goto (tgt := 9) d_37_42 rfl ?_
    refine ev_sub (lv' := [(0, .ref (10 * j + 5)), (1, .int (1 : Int32))]) (by simp) ?_
    exact ev_d_middleInOdd_L1 hN j (sp_i_add j (σ.1 (10 * j + 7) 0) σ) hj (by first | exact hs | exact szok_add hs)
def sp_d_middleInOdd (j : Nat) (σ : mmS) : Int32 × mmS :=
(sp_d_middleInOdd_L0 j (sp_i_beginWithZero j σ))
theorem ev_d_middleInOdd (hN : 65 ≤ N) (j : Nat) (σ : mmS) (hj : j < 4) : Ev N L xs (37, 0, lv_args 0 [.ref (10 * j + 5)], [], 0, σ) (mmSI (sp_d_middleInOdd j σ)) := by
  unfold sp_d_middleInOdd
  show Ev N L xs (37, 0, [(0, .ref (10 * j + 5))], [], 0, σ) _
  refine ev_aload_n d_37_0 rfl ?_
  refine ev_getf (v := .ref (10 * j + 8)) d_37_1 fl_0_27 (ltn (by decide) hj hN) (shq_5 hj) rfl ?_
  refine ev_cvV (As := []) (t := []) (e' := 0) d_37_4 ml_0_39 rfl rfl rfl rfl rfl (by decide) rfl (ltn (by decide) hj hN) (shq_8 hj) rfl rfl (ev_i_beginWithZero hN j σ hj) ?_
  refine ev_iconst d_37_7 ci_0 ?_
  refine ev_istore_n (lv' := [(1, .int (0 : Int32)), (0, .ref (10 * j + 5))]) d_37_8 (by decide) rfl ?_
  refine ev_sub (lv' := [(0, .ref (10 * j + 5)), (1, .int (0 : Int32))]) (by simp) ?_
  exact ev_d_middleInOdd_L0 hN j (sp_i_beginWithZero j σ) hj szok_beg
end SP
