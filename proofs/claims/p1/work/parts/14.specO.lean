section SP
variable {N L : Nat} {xs : Nat → Int32}
theorem mmI_same {σ : mmS} {a j : Nat} : mmI σ a j (σ.1 a j) = σ := by
  refine Prod.ext ?_ rfl
  funext k i
  show (if k = a then upd (σ.1 a) j (σ.1 a j) else σ.1 k) i = σ.1 k i
  by_cases h : k = a
  · subst h
    rw [if_pos rfl]
    by_cases hi : i = j
    · subst hi; exact pk_us
    · exact pk_un hi
  · rw [if_neg h]
theorem i_add0 (x : Int32) : x + 0 = x := by simp
theorem i_sub0 (x : Int32) : x - x = 0 := by simp
theorem aw0 {j : Nat} {σ : mmS} (h : σ.1 (10 * j + 2) 7 = 0) : sp_n_isAwake j σ = 0 := by
  unfold sp_n_isAwake
  rw [if_pos h]
theorem it0 {j : Nat} {σ : mmS} (h : σ.1 (10 * j + 2) 7 = 0) : sp_n_isInTime j σ = 0 := by
  unfold sp_n_isInTime
  rw [if_pos (aw0 h)]
theorem wk0 {n : Int32} {σ : mmS} (hM : ∀ j, j < 4 → σ.1 44 j = 0) (h : n.toNatClampNeg < 4) : sp_m_works n σ = 0 := by
  unfold sp_m_works
  rw [if_pos (hM _ h)]
theorem nat_s2 : ∀ i, i < 202 → (Int32.ofNat i).toNatClampNeg = i ∧ ¬ Int32.ofNat i < 0 ∧ Int32.ofNat i + Int32.ofInt 1 = Int32.ofNat (i + 1) ∧ (Int32.ofNat i).toInt = i := by decide +kernel
theorem rn_of {a : Int32} (h1 : ¬ a < 1) (h2 : ¬ (200 : Int32) < a) : ∃ n, n < 201 ∧ a = Int32.ofNat n := by
  rw [Int32.lt_iff_toInt_lt] at h1 h2
  have e1 : (1 : Int32).toInt = 1 := by decide
  have e2 : (200 : Int32).toInt = 200 := by decide
  rw [e1] at h1
  rw [e2] at h2
  refine ⟨a.toInt.toNat, by omega, Int32.toInt_inj.mp ?_⟩
  rw [(nat_s2 a.toInt.toNat (by omega)).2.2.2]
  omega
theorem ev_n_passTickO (hN : 65 ≤ N) (j : Nat) (σ : mmS) (hj : j < 4) (h0 : σ.1 (10 * j + 2) 7 = 0) : Ev N L xs (18, 0, lv_args 0 [.ref (10 * j + 2)], [], 0, σ) (mmPJ σ (-1)) := by
  show Ev N L xs (18, 0, [(0, .ref (10 * j + 2))], [], 0, σ) _
  refine ev_aload_n d_18_0 rfl ?_
  refine ev_cvI (As := []) (t := []) (e' := 0) d_18_1 ml_3_59 rfl rfl rfl rfl rfl (by decide) rfl (ltn (by decide) hj hN) (shq_2 hj) rfl rfl (ev_n_isAwake hN j σ hj) ?_
  refine ev_ifF (tgt := 11) d_18_4 rfl (show ¬ ¬ (sp_n_isAwake j σ) = 0 from fun h => h (aw0 h0)) ?_
  refine ev_ldc2 d_18_7 kl_3_76 ?_
  exact ev_lret d_18_10 rfl
-- (mmI σ 0 3 ((σ.1 0 3) + (0 : Int32)))
theorem ev_b_passTickO (hN : 65 ≤ N) (σ : mmS) (hO : ∀ j, j < 4 → σ.1 (10 * j + 2) 7 = 0) : Ev N L xs (17, 0, lv_args 0 [.ref 0], [], 0, σ) (mmSV σ) := by
  show Ev N L xs (17, 0, [(0, .ref 0)], [], 0, σ) _
  have h9 : σ = (mmI σ 0 3 ((σ.1 0 3) + (0 : Int32))) := by rw [i_add0, mmI_same]
  rw [show mmSV σ = mmSV (mmI σ 0 3 ((σ.1 0 3) + (0 : Int32))) from congrArg mmSV h9]
  refine ev_iconst d_17_0 ci_0 ?_
  refine ev_istore_n (lv' := [(1, .int (0 : Int32)), (0, .ref 0)]) d_17_1 (by decide) rfl ?_
  refine ev_iconst d_17_2 ci_0 ?_
  refine ev_istore_n (lv' := [(2, .int (0 : Int32)), (1, .int (0 : Int32)), (0, .ref 0)]) d_17_3 (by decide) rfl ?_
  refine ev_ldc2 d_17_4 kl_6_18 ?_
  refine ev_lstore_n (lv' := [(3, .long (-1 : Int64)), (2, .int (0 : Int32)), (1, .int (0 : Int32)), (0, .ref 0)]) d_17_7 (by decide) rfl ?_
  refine ev_iconst d_17_8 ci_0 ?_
  refine ev_istore (lv' := [(5, .int (0 : Int32)), (3, .long (-1 : Int64)), (2, .int (0 : Int32)), (1, .int (0 : Int32)), (0, .ref 0)]) d_17_9 (by decide) rfl ?_
  refine ev_iload d_17_11 rfl ?_
  refine ev_iconst d_17_13 ci_4 ?_
  refine ev_icmpF (tgt := 53) d_17_14 rfl (show ¬ ((4 : Int32) ≤ (0 : Int32)) by decide) ?_
  refine ev_aload_n d_17_17 rfl ?_
  refine ev_getf (v := .ref 1) d_17_18 fl_6_11 (ltk (by decide) hN) rfl rfl ?_
  refine ev_iload d_17_21 rfl ?_
  refine ev_aaload (i := 0) d_17_23 (ltk (by decide) hN) rfl (vpi (by decide)) (by decide) ?_
  show Ev N L xs (17, 24, [(5, .int (0 : Int32)), (3, .long (-1 : Int64)), (2, .int (0 : Int32)), (1, .int (0 : Int32)), (0, .ref 0)], [.ref 2], 0, σ) _
  refine ev_cvJ (As := []) (t := []) (e' := 0) d_17_24 ml_6_184 rfl rfl rfl rfl rfl (by decide) rfl (ltk (by decide) hN) rfl rfl rfl (ev_n_passTickO hN 0 σ (by decide) (hO _ (by decide))) ?_
  refine ev_lstore (lv' := [(6, .long (-1 : Int64)), (5, .int (0 : Int32)), (3, .long (-1 : Int64)), (2, .int (0 : Int32)), (1, .int (0 : Int32)), (0, .ref 0)]) d_17_27 (by decide) rfl ?_
  refine ev_lload d_17_29 rfl ?_
  refine ev_ldc2 d_17_31 kl_6_18 ?_
  refine ev_lcmp d_17_34 ?_
  refine ev_ifT (tgt := 47) d_17_35 rfl (show (lg_cmp (-1 : Int64) (-1 : Int64)) = (0 : Int32) by decide) ?_
  refine ev_iinc (lv' := [(5, .int (1 : Int32)), (6, .long (-1 : Int64)), (3, .long (-1 : Int64)), (2, .int (0 : Int32)), (1, .int (0 : Int32)), (0, .ref 0)]) (v := (1 : Int32)) d_17_47 rfl (by decide) (by decide) rfl ?_
  refine ev_goto (tgt := 11) d_17_50 rfl ?_
  refine ev_iload d_17_11 rfl ?_
  refine ev_iconst d_17_13 ci_4 ?_
  refine ev_icmpF (tgt := 53) d_17_14 rfl (show ¬ ((4 : Int32) ≤ (1 : Int32)) by decide) ?_
  refine ev_aload_n d_17_17 rfl ?_
  refine ev_getf (v := .ref 1) d_17_18 fl_6_11 (ltk (by decide) hN) rfl rfl ?_
  refine ev_iload d_17_21 rfl ?_
  refine ev_aaload (i := 1) d_17_23 (ltk (by decide) hN) rfl (vpi (by decide)) (by decide) ?_
  show Ev N L xs (17, 24, [(5, .int (1 : Int32)), (6, .long (-1 : Int64)), (3, .long (-1 : Int64)), (2, .int (0 : Int32)), (1, .int (0 : Int32)), (0, .ref 0)], [.ref 12], 0, σ) _
  refine ev_cvJ (As := []) (t := []) (e' := 0) d_17_24 ml_6_184 rfl rfl rfl rfl rfl (by decide) rfl (ltk (by decide) hN) rfl rfl rfl (ev_n_passTickO hN 1 σ (by decide) (hO _ (by decide))) ?_
  refine ev_lstore (lv' := [(6, .long (-1 : Int64)), (5, .int (1 : Int32)), (3, .long (-1 : Int64)), (2, .int (0 : Int32)), (1, .int (0 : Int32)), (0, .ref 0)]) d_17_27 (by decide) rfl ?_
  refine ev_lload d_17_29 rfl ?_
  refine ev_ldc2 d_17_31 kl_6_18 ?_
  refine ev_lcmp d_17_34 ?_
  refine ev_ifT (tgt := 47) d_17_35 rfl (show (lg_cmp (-1 : Int64) (-1 : Int64)) = (0 : Int32) by decide) ?_
  refine ev_iinc (lv' := [(5, .int (2 : Int32)), (6, .long (-1 : Int64)), (3, .long (-1 : Int64)), (2, .int (0 : Int32)), (1, .int (0 : Int32)), (0, .ref 0)]) (v := (2 : Int32)) d_17_47 rfl (by decide) (by decide) rfl ?_
  refine ev_goto (tgt := 11) d_17_50 rfl ?_
  refine ev_iload d_17_11 rfl ?_
  refine ev_iconst d_17_13 ci_4 ?_
  refine ev_icmpF (tgt := 53) d_17_14 rfl (show ¬ ((4 : Int32) ≤ (2 : Int32)) by decide) ?_
  refine ev_aload_n d_17_17 rfl ?_
  refine ev_getf (v := .ref 1) d_17_18 fl_6_11 (ltk (by decide) hN) rfl rfl ?_
  refine ev_iload d_17_21 rfl ?_
  refine ev_aaload (i := 2) d_17_23 (ltk (by decide) hN) rfl (vpi (by decide)) (by decide) ?_
  show Ev N L xs (17, 24, [(5, .int (2 : Int32)), (6, .long (-1 : Int64)), (3, .long (-1 : Int64)), (2, .int (0 : Int32)), (1, .int (0 : Int32)), (0, .ref 0)], [.ref 22], 0, σ) _
  refine ev_cvJ (As := []) (t := []) (e' := 0) d_17_24 ml_6_184 rfl rfl rfl rfl rfl (by decide) rfl (ltk (by decide) hN) rfl rfl rfl (ev_n_passTickO hN 2 σ (by decide) (hO _ (by decide))) ?_
  refine ev_lstore (lv' := [(6, .long (-1 : Int64)), (5, .int (2 : Int32)), (3, .long (-1 : Int64)), (2, .int (0 : Int32)), (1, .int (0 : Int32)), (0, .ref 0)]) d_17_27 (by decide) rfl ?_
  refine ev_lload d_17_29 rfl ?_
  refine ev_ldc2 d_17_31 kl_6_18 ?_
  refine ev_lcmp d_17_34 ?_
  refine ev_ifT (tgt := 47) d_17_35 rfl (show (lg_cmp (-1 : Int64) (-1 : Int64)) = (0 : Int32) by decide) ?_
  refine ev_iinc (lv' := [(5, .int (3 : Int32)), (6, .long (-1 : Int64)), (3, .long (-1 : Int64)), (2, .int (0 : Int32)), (1, .int (0 : Int32)), (0, .ref 0)]) (v := (3 : Int32)) d_17_47 rfl (by decide) (by decide) rfl ?_
  refine ev_goto (tgt := 11) d_17_50 rfl ?_
  refine ev_iload d_17_11 rfl ?_
  refine ev_iconst d_17_13 ci_4 ?_
  refine ev_icmpF (tgt := 53) d_17_14 rfl (show ¬ ((4 : Int32) ≤ (3 : Int32)) by decide) ?_
  refine ev_aload_n d_17_17 rfl ?_
  refine ev_getf (v := .ref 1) d_17_18 fl_6_11 (ltk (by decide) hN) rfl rfl ?_
  refine ev_iload d_17_21 rfl ?_
  refine ev_aaload (i := 3) d_17_23 (ltk (by decide) hN) rfl (vpi (by decide)) (by decide) ?_
  show Ev N L xs (17, 24, [(5, .int (3 : Int32)), (6, .long (-1 : Int64)), (3, .long (-1 : Int64)), (2, .int (0 : Int32)), (1, .int (0 : Int32)), (0, .ref 0)], [.ref 32], 0, σ) _
  refine ev_cvJ (As := []) (t := []) (e' := 0) d_17_24 ml_6_184 rfl rfl rfl rfl rfl (by decide) rfl (ltk (by decide) hN) rfl rfl rfl (ev_n_passTickO hN 3 σ (by decide) (hO _ (by decide))) ?_
  refine ev_lstore (lv' := [(6, .long (-1 : Int64)), (5, .int (3 : Int32)), (3, .long (-1 : Int64)), (2, .int (0 : Int32)), (1, .int (0 : Int32)), (0, .ref 0)]) d_17_27 (by decide) rfl ?_
  refine ev_lload d_17_29 rfl ?_
  refine ev_ldc2 d_17_31 kl_6_18 ?_
  refine ev_lcmp d_17_34 ?_
  refine ev_ifT (tgt := 47) d_17_35 rfl (show (lg_cmp (-1 : Int64) (-1 : Int64)) = (0 : Int32) by decide) ?_
  refine ev_iinc (lv' := [(5, .int (4 : Int32)), (6, .long (-1 : Int64)), (3, .long (-1 : Int64)), (2, .int (0 : Int32)), (1, .int (0 : Int32)), (0, .ref 0)]) (v := (4 : Int32)) d_17_47 rfl (by decide) (by decide) rfl ?_
  refine ev_goto (tgt := 11) d_17_50 rfl ?_
  refine ev_iload d_17_11 rfl ?_
  refine ev_iconst d_17_13 ci_4 ?_
  refine ev_icmpT (tgt := 53) d_17_14 rfl (show (4 : Int32) ≤ (4 : Int32) by decide) ?_
  refine ev_aload_n d_17_53 rfl ?_
  refine ev_dup d_17_54 rfl ?_
  refine ev_getf (v := .int (σ.1 0 3)) d_17_55 fl_6_54 (ltk (by decide) hN) rfl rfl ?_
  refine ev_iload_n d_17_58 rfl ?_
  refine ev_iadd (v := ((σ.1 0 3) + (0 : Int32))) d_17_59 rfl ?_
  refine ev_putf d_17_60 fl_6_54 (ltk (by decide) hN) rfl rfl (Or.inl rfl) ?_
  refine ev_iload_n d_17_63 rfl ?_
  refine ev_iconst d_17_64 ci_1 ?_
  refine ev_icmpT (tgt := 74) d_17_65 rfl (show ¬ (0 : Int32) = (1 : Int32) by decide) ?_
  exact ev_vret d_17_74 rfl
theorem ev_b_runO_18 (hN : 65 ≤ N) (b : Int32) (σ : mmS) (hO : ∀ j, j < 4 → σ.1 (10 * j + 2) 7 = 0) (n : Nat) (hn : n < 201) : ∀ d i, i + d = n → Ev N L xs (15, 18, [(0, .ref 0), (1, .int (Int32.ofNat n)), (2, .int b), (3, .int (Int32.ofNat i))], [], 1, σ) (mmPI σ (σ.1 0 3 - b))
  | 0, i, h => by
    have hi : i = n := by omega
    subst hi
    refine ev_iload_n d_15_18 rfl ?_
    refine ev_iload_n d_15_19 rfl ?_
    refine ev_icmpT (tgt := 33) d_15_20 rfl (show Int32.ofNat i ≤ Int32.ofNat i from Int32.le_refl _) ?_
    refine ev_aload_n d_15_33 rfl ?_
    refine ev_getf (v := .int (σ.1 0 3)) d_15_34 fl_6_54 (ltk (by decide) hN) rfl rfl ?_
    refine ev_iload_n d_15_37 rfl ?_
    refine ev_isub (v := σ.1 0 3 - b) d_15_38 rfl ?_
    exact ev_iret d_15_39 rfl
  | d + 1, i, h => by
    obtain ⟨e1, e2, e3, e4⟩ := nat_s2 i (by omega)
    obtain ⟨f1, f2, f3, f4⟩ := nat_s2 n (by omega)
    refine ev_iload_n d_15_18 rfl ?_
    refine ev_iload_n d_15_19 rfl ?_
    refine ev_icmpF (tgt := 33) d_15_20 rfl (show ¬ Int32.ofNat n ≤ Int32.ofNat i by rw [Int32.le_iff_toInt_le, e4, f4]; omega) ?_
    refine ev_aload_n d_15_23 rfl ?_
    refine ev_cvV (As := []) (t := []) (e' := 1) d_15_24 ml_6_57 rfl rfl rfl rfl rfl (by decide) rfl (ltk (by decide) hN) rfl rfl rfl (ev_b_passTickO hN σ hO) ?_
    refine ev_iinc (lv' := [(3, .int (Int32.ofNat (i + 1))), (0, .ref 0), (1, .int (Int32.ofNat n)), (2, .int b)]) (v := Int32.ofNat (i + 1)) d_15_27 rfl e3 (by decide) rfl ?_
    refine ev_goto (tgt := 18) d_15_30 rfl ?_
    refine ev_sub (lv' := [(0, .ref 0), (1, .int (Int32.ofNat n)), (2, .int b), (3, .int (Int32.ofNat (i + 1)))]) (by simp) ?_
    exact ev_b_runO_18 hN b σ hO n hn d (i + 1) (by omega)
def sp_b_runO (a0 : Int32) (σ : mmS) : mmR := if (cx_b_require (sp_b_isWithin a0 1 200 σ) σ) then (.inr "java/lang/IllegalArgumentException", σ) else (.inl (some (.int (σ.1 0 3 - σ.1 0 3))), σ)
theorem rw_of {a : Int32} {σ : mmS} (h : ¬ sp_b_isWithin a 1 200 σ = 0) : ∃ n, n < 201 ∧ a = Int32.ofNat n := by
  unfold sp_b_isWithin at h
  by_cases h0 : a < 1
  · rw [if_pos h0] at h; exact absurd rfl h
  · rw [if_neg h0] at h
    by_cases h3 : (200 : Int32) < a
    · rw [if_pos h3] at h; exact absurd rfl h
    · exact rn_of h0 h3
theorem ev_b_runO (hN : 65 ≤ N) (a0 : Int32) (σ : mmS) (hO : ∀ j, j < 4 → σ.1 (10 * j + 2) 7 = 0) : Ev N L xs (15, 0, lv_args 0 [.ref 0, .int a0], [], 0, σ) (sp_b_runO a0 σ) := by
  show Ev N L xs (15, 0, [(0, .ref 0), (1, .int a0)], [], 0, σ) _
  unfold sp_b_runO
  refine ev_iload_n d_15_0 rfl ?_
  refine ev_iconst d_15_1 ci_1 ?_
  refine ev_sipush d_15_2 cs_200 ?_
  refine ev_csI (As := [.int a0, .int (1 : Int32), .int (200 : Int32)]) (t := []) (e' := 0) d_15_5 ml_6_46 rfl rfl rfl rfl rfl (by decide) rfl rfl (ev_b_isWithin hN a0 (1 : Int32) (200 : Int32) σ) ?_
  by_cases _hx8 : (cx_b_require (sp_b_isWithin a0 (1 : Int32) (200 : Int32) σ) σ)
  · rw [if_pos _hx8]; exact ev_callsX (As := [.int (sp_b_isWithin a0 (1 : Int32) (200 : Int32) σ)]) (t := []) d_15_8 ml_6_50 rfl rfl rfl rfl rfl (by decide) rfl rfl (ex_b_require hN (sp_b_isWithin a0 (1 : Int32) (200 : Int32) σ) σ _hx8)
  · rw [if_neg _hx8]
    refine ev_csV (As := [.int (sp_b_isWithin a0 (1 : Int32) (200 : Int32) σ)]) (t := []) (e' := 1) d_15_8 ml_6_50 rfl rfl rfl rfl rfl (by decide) rfl rfl (eo_b_require hN (sp_b_isWithin a0 (1 : Int32) (200 : Int32) σ) σ _hx8) ?_
    refine ev_aload_n d_15_11 rfl ?_
    refine ev_getf (v := .int (σ.1 0 3)) d_15_12 fl_6_54 (ltk (by decide) hN) rfl rfl ?_
    refine ev_istore_n (lv' := [(2, .int (σ.1 0 3)), (0, .ref 0), (1, .int a0)]) d_15_15 (by decide) rfl ?_
    refine ev_iconst d_15_16 ci_0 ?_
    refine ev_istore_n (lv' := [(3, .int (0 : Int32)), (2, .int (σ.1 0 3)), (0, .ref 0), (1, .int a0)]) d_15_17 (by decide) rfl ?_
    refine ev_sub (lv' := [(0, .ref 0), (1, .int a0), (2, .int (σ.1 0 3)), (3, .int (0 : Int32))]) (by simp) ?_
    obtain ⟨n, hn, rfl⟩ := rw_of _hx8
    exact ev_b_runO_18 hN _ σ hO n hn n 0 (by omega)
def sp_b_clockO (a0 : Int32) (a1 : Int32) (σ : mmS) : mmR :=
if (cx_b_requireNode a0 σ) then
  ((.inr "java/lang/IllegalArgumentException", σ) : mmR)
else
  if (cx_b_require (sp_b_isWithin a1 (0 : Int32) (5 : Int32) σ) σ) then
    ((.inr "java/lang/IllegalArgumentException", σ) : mmR)
  else
    ((.inr "java/lang/IllegalStateException", σ) : mmR)
theorem ev_b_clockO (hN : 65 ≤ N) (a0 : Int32) (a1 : Int32) (σ : mmS) (hO : ∀ j, j < 4 → σ.1 (10 * j + 2) 7 = 0) : Ev N L xs (80, 0, lv_args 0 [.ref 0, .int a0, .int a1], [], 0, σ) ((fun r : mmR => r) (sp_b_clockO a0 a1 σ)) := by
  unfold sp_b_clockO
  show Ev N L xs (80, 0, [(0, .ref 0), (1, .int a0), (2, .int a1)], [], 0, σ) _
  refine ev_iload_n d_80_0 rfl ?_
  by_cases _hx1 : (cx_b_requireNode a0 σ)
  · rw [if_pos _hx1]; exact ev_callsX (As := [.int a0]) (t := []) d_80_1 ml_6_24 rfl rfl rfl rfl rfl (by decide) rfl rfl (ex_b_requireNode hN a0 σ _hx1)
  · rw [if_neg _hx1]
    refine ev_csV (As := [.int a0]) (t := []) (e' := 1) d_80_1 ml_6_24 rfl rfl rfl rfl rfl (by decide) rfl rfl (eo_b_requireNode hN a0 σ _hx1) ?_
    refine ev_iload_n d_80_4 rfl ?_
    refine ev_iconst d_80_5 ci_0 ?_
    refine ev_iconst d_80_6 ci_5 ?_
    refine ev_csI (As := [.int a1, .int (0 : Int32), .int (5 : Int32)]) (t := []) (e' := 1) d_80_7 ml_6_46 rfl rfl rfl rfl rfl (by decide) rfl rfl (ev_b_isWithin hN a1 (0 : Int32) (5 : Int32) σ) ?_
    by_cases _hx10 : (cx_b_require (sp_b_isWithin a1 (0 : Int32) (5 : Int32) σ) σ)
    · rw [if_pos _hx10]; exact ev_callsX (As := [.int (sp_b_isWithin a1 (0 : Int32) (5 : Int32) σ)]) (t := []) d_80_10 ml_6_50 rfl rfl rfl rfl rfl (by decide) rfl rfl (ex_b_require hN (sp_b_isWithin a1 (0 : Int32) (5 : Int32) σ) σ _hx10)
    · rw [if_neg _hx10]
      refine ev_csV (As := [.int (sp_b_isWithin a1 (0 : Int32) (5 : Int32) σ)]) (t := []) (e' := 2) d_80_10 ml_6_50 rfl rfl rfl rfl rfl (by decide) rfl rfl (eo_b_require hN (sp_b_isWithin a1 (0 : Int32) (5 : Int32) σ) σ _hx10) ?_
      refine ev_aload_n d_80_13 rfl ?_
      refine ev_getf (v := .ref 1) d_80_14 fl_6_11 (ltk (by decide) hN) rfl rfl ?_
      refine ev_iload_n d_80_17 rfl ?_
      refine ev_aaload (i := a0.toNatClampNeg) d_80_18 (ltk (by decide) hN) rfl (vn_of _hx1) rfl ?_
      refine ev_astore_n (lv' := [(3, .ref (10 * a0.toNatClampNeg + 2)), (0, .ref 0), (1, .int a0), (2, .int a1)]) d_80_19 (by decide) rfl ?_
      refine ev_aload_n d_80_20 rfl ?_
      refine ev_cvI (As := []) (t := []) (e' := 2) d_80_21 ml_6_94 rfl rfl rfl rfl rfl (by decide) rfl (ltn (by decide) (n4_lt (vn_of _hx1)) hN) (shq_2 (n4_lt (vn_of _hx1))) rfl rfl (ev_n_isInTime hN a0.toNatClampNeg σ (n4_lt (vn_of _hx1))) ?_
      refine ev_ifF (tgt := 37) d_80_24 rfl (show ¬ ¬ (sp_n_isInTime a0.toNatClampNeg σ) = 0 from fun h => h (it0 (hO _ (n4_lt (vn_of _hx1))))) ?_
      exact ev_throw d_80_27 xm_80_27 (by decide) rfl rfl
theorem ev_m_tickO (hN : 65 ≤ N) (σ : mmS) (hM : ∀ j, j < 4 → σ.1 44 j = 0) : Ev N L xs (103, 0, lv_args 0 [.ref 42], [], 0, σ) (mmSV σ) := by
  show Ev N L xs (103, 0, [(0, .ref 42)], [], 0, σ) _
  have h9 : σ = (mmI σ 42 22 ((σ.1 42 22) + (0 : Int32))) := by rw [i_add0, mmI_same]
  rw [show mmSV σ = mmSV (mmI σ 42 22 ((σ.1 42 22) + (0 : Int32))) from congrArg mmSV h9]
  refine ev_iconst d_103_0 ci_0 ?_
  refine ev_istore_n (lv' := [(1, .int (0 : Int32)), (0, .ref 42)]) d_103_1 (by decide) rfl ?_
  refine ev_iconst d_103_2 ci_m1 ?_
  refine ev_istore_n (lv' := [(2, .int (-1 : Int32)), (1, .int (0 : Int32)), (0, .ref 42)]) d_103_3 (by decide) rfl ?_
  refine ev_lconst d_103_4 rfl ?_
  refine ev_lstore_n (lv' := [(3, .long (0 : Int64)), (2, .int (-1 : Int32)), (1, .int (0 : Int32)), (0, .ref 42)]) d_103_5 (by decide) rfl ?_
  refine ev_iconst d_103_6 ci_0 ?_
  refine ev_istore (lv' := [(5, .int (0 : Int32)), (3, .long (0 : Int64)), (2, .int (-1 : Int32)), (1, .int (0 : Int32)), (0, .ref 42)]) d_103_7 (by decide) rfl ?_
  refine ev_iload d_103_9 rfl ?_
  refine ev_iconst d_103_11 ci_4 ?_
  refine ev_icmpF (tgt := 134) d_103_12 rfl (show ¬ ((4 : Int32) ≤ (0 : Int32)) by decide) ?_
  refine ev_aload_n d_103_15 rfl ?_
  refine ev_iload d_103_16 rfl ?_
  refine ev_cvI (As := [.int (0 : Int32)]) (t := []) (e' := 0) d_103_18 ml_7_171 rfl rfl rfl rfl rfl (by decide) rfl (ltk (by decide) hN) rfl rfl rfl (ev_m_works hN (0 : Int32) σ (vpi (by decide))) ?_
  refine ev_ifT (tgt := 128) d_103_21 rfl (wk0 hM (by decide)) ?_
  refine ev_iinc (lv' := [(5, .int (1 : Int32)), (3, .long (0 : Int64)), (2, .int (-1 : Int32)), (1, .int (0 : Int32)), (0, .ref 42)]) (v := (1 : Int32)) d_103_128 rfl (by decide) (by decide) rfl ?_
  refine ev_goto (tgt := 9) d_103_131 rfl ?_
  refine ev_iload d_103_9 rfl ?_
  refine ev_iconst d_103_11 ci_4 ?_
  refine ev_icmpF (tgt := 134) d_103_12 rfl (show ¬ ((4 : Int32) ≤ (1 : Int32)) by decide) ?_
  refine ev_aload_n d_103_15 rfl ?_
  refine ev_iload d_103_16 rfl ?_
  refine ev_cvI (As := [.int (1 : Int32)]) (t := []) (e' := 0) d_103_18 ml_7_171 rfl rfl rfl rfl rfl (by decide) rfl (ltk (by decide) hN) rfl rfl rfl (ev_m_works hN (1 : Int32) σ (vpi (by decide))) ?_
  refine ev_ifT (tgt := 128) d_103_21 rfl (wk0 hM (by decide)) ?_
  refine ev_iinc (lv' := [(5, .int (2 : Int32)), (3, .long (0 : Int64)), (2, .int (-1 : Int32)), (1, .int (0 : Int32)), (0, .ref 42)]) (v := (2 : Int32)) d_103_128 rfl (by decide) (by decide) rfl ?_
  refine ev_goto (tgt := 9) d_103_131 rfl ?_
  refine ev_iload d_103_9 rfl ?_
  refine ev_iconst d_103_11 ci_4 ?_
  refine ev_icmpF (tgt := 134) d_103_12 rfl (show ¬ ((4 : Int32) ≤ (2 : Int32)) by decide) ?_
  refine ev_aload_n d_103_15 rfl ?_
  refine ev_iload d_103_16 rfl ?_
  refine ev_cvI (As := [.int (2 : Int32)]) (t := []) (e' := 0) d_103_18 ml_7_171 rfl rfl rfl rfl rfl (by decide) rfl (ltk (by decide) hN) rfl rfl rfl (ev_m_works hN (2 : Int32) σ (vpi (by decide))) ?_
  refine ev_ifT (tgt := 128) d_103_21 rfl (wk0 hM (by decide)) ?_
  refine ev_iinc (lv' := [(5, .int (3 : Int32)), (3, .long (0 : Int64)), (2, .int (-1 : Int32)), (1, .int (0 : Int32)), (0, .ref 42)]) (v := (3 : Int32)) d_103_128 rfl (by decide) (by decide) rfl ?_
  refine ev_goto (tgt := 9) d_103_131 rfl ?_
  refine ev_iload d_103_9 rfl ?_
  refine ev_iconst d_103_11 ci_4 ?_
  refine ev_icmpF (tgt := 134) d_103_12 rfl (show ¬ ((4 : Int32) ≤ (3 : Int32)) by decide) ?_
  refine ev_aload_n d_103_15 rfl ?_
  refine ev_iload d_103_16 rfl ?_
  refine ev_cvI (As := [.int (3 : Int32)]) (t := []) (e' := 0) d_103_18 ml_7_171 rfl rfl rfl rfl rfl (by decide) rfl (ltk (by decide) hN) rfl rfl rfl (ev_m_works hN (3 : Int32) σ (vpi (by decide))) ?_
  refine ev_ifT (tgt := 128) d_103_21 rfl (wk0 hM (by decide)) ?_
  refine ev_iinc (lv' := [(5, .int (4 : Int32)), (3, .long (0 : Int64)), (2, .int (-1 : Int32)), (1, .int (0 : Int32)), (0, .ref 42)]) (v := (4 : Int32)) d_103_128 rfl (by decide) (by decide) rfl ?_
  refine ev_goto (tgt := 9) d_103_131 rfl ?_
  refine ev_iload d_103_9 rfl ?_
  refine ev_iconst d_103_11 ci_4 ?_
  refine ev_icmpT (tgt := 134) d_103_12 rfl (show (4 : Int32) ≤ (4 : Int32) by decide) ?_
  refine ev_aload_n d_103_134 rfl ?_
  refine ev_aload_n d_103_135 rfl ?_
  refine ev_getf (v := .int (σ.1 42 22)) d_103_136 fl_7_177 (ltk (by decide) hN) rfl rfl ?_
  refine ev_iload_n d_103_139 rfl ?_
  refine ev_iadd (v := ((σ.1 42 22) + (0 : Int32))) d_103_140 rfl ?_
  refine ev_putf d_103_141 fl_7_177 (ltk (by decide) hN) rfl rfl (Or.inl rfl) ?_
  refine ev_iload_n d_103_144 rfl ?_
  refine ev_iconst d_103_145 ci_1 ?_
  refine ev_icmpF (tgt := 150) d_103_146 rfl (show ¬ ((0 : Int32) = (1 : Int32)) by decide) ?_
  exact ev_vret d_103_149 rfl
theorem ev_m_runO_30 (hN : 65 ≤ N) (b : Int32) (σ : mmS) (hM : ∀ j, j < 4 → σ.1 44 j = 0) (n : Nat) (hn : n < 201) : ∀ d i, i + d = n → Ev N L xs (102, 30, [(0, .ref 42), (1, .int (Int32.ofNat n)), (2, .int b), (3, .int (Int32.ofNat i))], [], 0, σ) (mmPI σ (σ.1 42 22 - b))
  | 0, i, h => by
    have hi : i = n := by omega
    subst hi
    refine ev_iload_n d_102_30 rfl ?_
    refine ev_iload_n d_102_31 rfl ?_
    refine ev_icmpT (tgt := 45) d_102_32 rfl (show Int32.ofNat i ≤ Int32.ofNat i from Int32.le_refl _) ?_
    refine ev_aload_n d_102_45 rfl ?_
    refine ev_getf (v := .int (σ.1 42 22)) d_102_46 fl_7_177 (ltk (by decide) hN) rfl rfl ?_
    refine ev_iload_n d_102_49 rfl ?_
    refine ev_isub (v := σ.1 42 22 - b) d_102_50 rfl ?_
    exact ev_iret d_102_51 rfl
  | d + 1, i, h => by
    obtain ⟨e1, e2, e3, e4⟩ := nat_s2 i (by omega)
    obtain ⟨f1, f2, f3, f4⟩ := nat_s2 n (by omega)
    refine ev_iload_n d_102_30 rfl ?_
    refine ev_iload_n d_102_31 rfl ?_
    refine ev_icmpF (tgt := 45) d_102_32 rfl (show ¬ Int32.ofNat n ≤ Int32.ofNat i by rw [Int32.le_iff_toInt_le, e4, f4]; omega) ?_
    refine ev_aload_n d_102_35 rfl ?_
    refine ev_cvV (As := []) (t := []) (e' := 0) d_102_36 ml_7_205 rfl rfl rfl rfl rfl (by decide) rfl (ltk (by decide) hN) rfl rfl rfl (ev_m_tickO hN σ hM) ?_
    refine ev_iinc (lv' := [(3, .int (Int32.ofNat (i + 1))), (0, .ref 42), (1, .int (Int32.ofNat n)), (2, .int b)]) (v := Int32.ofNat (i + 1)) d_102_39 rfl e3 (by decide) rfl ?_
    refine ev_goto (tgt := 30) d_102_42 rfl ?_
    refine ev_sub (lv' := [(0, .ref 42), (1, .int (Int32.ofNat n)), (2, .int b), (3, .int (Int32.ofNat (i + 1)))]) (by simp) ?_
    exact ev_m_runO_30 hN b σ hM n hn d (i + 1) (by omega)
def sp_m_runO (a0 : Int32) (σ : mmS) : Int32 × mmS :=
if a0 < (1 : Int32) then
  ((sp_m_fail (1 : Int32) (mmI σ 42 0 (0 : Int32))).1, (sp_m_fail (1 : Int32) (mmI σ 42 0 (0 : Int32))).2)
else
  if a0 ≤ (200 : Int32) then
    (((mmI σ 42 0 (0 : Int32)).1 42 22) - (σ.1 42 22), (mmI σ 42 0 (0 : Int32)))
  else
    ((sp_m_fail (1 : Int32) (mmI σ 42 0 (0 : Int32))).1, (sp_m_fail (1 : Int32) (mmI σ 42 0 (0 : Int32))).2)
theorem ev_m_runO (hN : 65 ≤ N) (a0 : Int32) (σ : mmS) (hM : ∀ j, j < 4 → σ.1 44 j = 0) : Ev N L xs (102, 0, lv_args 0 [.ref 42, .int a0], [], 0, σ) (mmSI (sp_m_runO a0 σ)) := by
  unfold sp_m_runO
  show Ev N L xs (102, 0, [(0, .ref 42), (1, .int a0)], [], 0, σ) _
  refine ev_aload_n d_102_0 rfl ?_
  refine ev_iconst d_102_1 ci_0 ?_
  refine ev_putf d_102_2 fl_7_81 (ltk (by decide) hN) rfl rfl (Or.inl rfl) ?_
  refine ev_iload_n d_102_5 rfl ?_
  refine ev_iconst d_102_6 ci_1 ?_
  refine ev_icmp_lt mmSI (tgt := 17) d_102_7 rfl (fun _h7 => ?_) (fun _h7 => ?_)
  · refine ev_aload_n d_102_17 rfl ?_
    refine ev_iconst d_102_18 ci_1 ?_
    refine ev_cvI (As := [.int (1 : Int32)]) (t := []) (e' := 0) d_102_19 ml_7_201 rfl rfl rfl rfl rfl (by decide) rfl (ltk (by decide) hN) rfl rfl rfl (ev_m_fail hN (1 : Int32) (mmI σ 42 0 (0 : Int32))) ?_
    exact ev_iret d_102_22 rfl
  · refine ev_iload_n d_102_10 rfl ?_
    refine ev_sipush d_102_11 cs_200 ?_
    refine ev_icmp_le mmSI (tgt := 23) d_102_14 rfl (fun _h14 => ?_) (fun _h14 => ?_)
    · refine ev_aload_n d_102_23 rfl ?_
      refine ev_getf (v := .int (σ.1 42 22)) d_102_24 fl_7_177 (ltk (by decide) hN) rfl rfl ?_
      refine ev_istore_n (lv' := [(2, .int (σ.1 42 22)), (0, .ref 42), (1, .int a0)]) d_102_27 (by decide) rfl ?_
      refine ev_iconst d_102_28 ci_0 ?_
      refine ev_istore_n (lv' := [(3, .int (0 : Int32)), (2, .int (σ.1 42 22)), (0, .ref 42), (1, .int a0)]) d_102_29 (by decide) rfl ?_
      refine ev_sub (lv' := [(0, .ref 42), (1, .int a0), (2, .int (σ.1 42 22)), (3, .int (0 : Int32))]) (by simp) ?_
      obtain ⟨n, hn, rfl⟩ := rn_of _h7 (by rw [Int32.not_lt]; assumption)
      exact ev_m_runO_30 hN _ (mmI σ 42 0 (0 : Int32)) (fun j hj => hM j hj) n hn n 0 (by omega)
    · refine ev_aload_n d_102_17 rfl ?_
      refine ev_iconst d_102_18 ci_1 ?_
      refine ev_cvI (As := [.int (1 : Int32)]) (t := []) (e' := 0) d_102_19 ml_7_201 rfl rfl rfl rfl rfl (by decide) rfl (ltk (by decide) hN) rfl rfl rfl (ev_m_fail hN (1 : Int32) (mmI σ 42 0 (0 : Int32))) ?_
      exact ev_iret d_102_22 rfl
def sp_m_clockO (a0 : Int32) (a1 : Int32) (σ : mmS) : Int32 × mmS :=
if (sp_m_out a0 (4 : Int32) (mmI σ 42 0 (0 : Int32))) = 0 then
  if (sp_m_out a1 (6 : Int32) (mmI σ 42 0 (0 : Int32))) = 0 then
    ((sp_m_fail (2 : Int32) (mmI σ 42 0 (0 : Int32))).1, (sp_m_fail (2 : Int32) (mmI σ 42 0 (0 : Int32))).2)
  else
    ((sp_m_fail (1 : Int32) (mmI σ 42 0 (0 : Int32))).1, (sp_m_fail (1 : Int32) (mmI σ 42 0 (0 : Int32))).2)
else
  ((sp_m_fail (1 : Int32) (mmI σ 42 0 (0 : Int32))).1, (sp_m_fail (1 : Int32) (mmI σ 42 0 (0 : Int32))).2)
theorem ev_m_clockO (hN : 65 ≤ N) (a0 : Int32) (a1 : Int32) (σ : mmS) (hM : ∀ j, j < 4 → σ.1 44 j = 0) : Ev N L xs (125, 0, lv_args 0 [.ref 42, .int a0, .int a1], [], 0, σ) (mmSI (sp_m_clockO a0 a1 σ)) := by
  unfold sp_m_clockO
  show Ev N L xs (125, 0, [(0, .ref 42), (1, .int a0), (2, .int a1)], [], 0, σ) _
  refine ev_aload_n d_125_0 rfl ?_
  refine ev_iconst d_125_1 ci_0 ?_
  refine ev_putf d_125_2 fl_7_81 (ltk (by decide) hN) rfl rfl (Or.inl rfl) ?_
  refine ev_iload_n d_125_5 rfl ?_
  refine ev_iconst d_125_6 ci_4 ?_
  refine ev_csI (As := [.int a0, .int (4 : Int32)]) (t := []) (e' := 0) d_125_7 ml_7_197 rfl rfl rfl rfl rfl (by decide) rfl rfl (ev_m_out hN a0 (4 : Int32) (mmI σ 42 0 (0 : Int32))) ?_
  refine ev_if_ne mmSI (tgt := 22) d_125_10 rfl (fun _h10 => ?_) (fun _h10 => ?_)
  · refine ev_aload_n d_125_22 rfl ?_
    refine ev_iconst d_125_23 ci_1 ?_
    refine ev_cvI (As := [.int (1 : Int32)]) (t := []) (e' := 0) d_125_24 ml_7_201 rfl rfl rfl rfl rfl (by decide) rfl (ltk (by decide) hN) rfl rfl rfl (ev_m_fail hN (1 : Int32) (mmI σ 42 0 (0 : Int32))) ?_
    exact ev_iret d_125_27 rfl
  · refine ev_iload_n d_125_13 rfl ?_
    refine ev_bipush d_125_14 cb_6 ?_
    refine ev_csI (As := [.int a1, .int (6 : Int32)]) (t := []) (e' := 0) d_125_16 ml_7_197 rfl rfl rfl rfl rfl (by decide) rfl rfl (ev_m_out hN a1 (6 : Int32) (mmI σ 42 0 (0 : Int32))) ?_
    refine ev_if_eq mmSI (tgt := 28) d_125_19 rfl (fun _h19 => ?_) (fun _h19 => ?_)
    · refine ev_aload_n d_125_28 rfl ?_
      refine ev_iload_n d_125_29 rfl ?_
      refine ev_cvI (As := [.int a0]) (t := []) (e' := 0) d_125_30 ml_7_171 rfl rfl rfl rfl rfl (by decide) rfl (ltk (by decide) hN) rfl rfl rfl (ev_m_works hN a0 (mmI σ 42 0 (0 : Int32)) (by apply mo_of; assumption)) ?_
      refine ev_ifT (tgt := 46) d_125_33 rfl (wk0 (fun j hj => hM j hj) (n4_lt (by apply mo_of; assumption))) ?_
      refine ev_aload_n d_125_46 rfl ?_
      refine ev_iconst d_125_47 ci_2 ?_
      refine ev_cvI (As := [.int (2 : Int32)]) (t := []) (e' := 0) d_125_48 ml_7_201 rfl rfl rfl rfl rfl (by decide) rfl (ltk (by decide) hN) rfl rfl rfl (ev_m_fail hN (2 : Int32) (mmI σ 42 0 (0 : Int32))) ?_
      exact ev_iret d_125_51 rfl
    · refine ev_aload_n d_125_22 rfl ?_
      refine ev_iconst d_125_23 ci_1 ?_
      refine ev_cvI (As := [.int (1 : Int32)]) (t := []) (e' := 0) d_125_24 ml_7_201 rfl rfl rfl rfl rfl (by decide) rfl (ltk (by decide) hN) rfl rfl rfl (ev_m_fail hN (1 : Int32) (mmI σ 42 0 (0 : Int32))) ?_
      exact ev_iret d_125_27 rfl
end SP
