section SP
variable {N L : Nat} {xs : Nat → Int32}
def sp_m_thrown (σ : mmS) : Int32 :=
(σ.1 42 0)
theorem ev_m_thrown (hN : 65 ≤ N) (σ : mmS) : Ev N L xs (95, 0, lv_args 0 [.ref 42], [], 0, σ) ((mmPI σ) (sp_m_thrown σ)) := by
  unfold sp_m_thrown
  show Ev N L xs (95, 0, [(0, .ref 42)], [], 0, σ) _
  refine ev_aload_n d_95_0 rfl ?_
  refine ev_getf (v := .int (σ.1 42 0)) d_95_1 fl_7_81 (ltk (by decide) hN) rfl rfl ?_
  exact ev_iret d_95_4 rfl
def sp_m_fail (a0 : Int32) (σ : mmS) : Int32 × mmS :=
((0 : Int32), (mmI σ 42 0 a0))
theorem ev_m_fail (hN : 65 ≤ N) (a0 : Int32) (σ : mmS) : Ev N L xs (101, 0, lv_args 0 [.ref 42, .int a0], [], 0, σ) (mmSI (sp_m_fail a0 σ)) := by
  unfold sp_m_fail
  show Ev N L xs (101, 0, [(0, .ref 42), (1, .int a0)], [], 0, σ) _
  refine ev_aload_n d_101_0 rfl ?_
  refine ev_iload_n d_101_1 rfl ?_
  refine ev_putf d_101_2 fl_7_81 (ltk (by decide) hN) rfl rfl (Or.inl rfl) ?_
  refine ev_iconst d_101_5 ci_0 ?_
  exact ev_iret d_101_6 rfl
def sp_m_out (a0 : Int32) (a1 : Int32) (σ : mmS) : Int32 :=
if a0 < 0 then
  (1 : Int32)
else
  if a0 < a1 then
    (0 : Int32)
  else
    (1 : Int32)
theorem ev_m_out (hN : 65 ≤ N) (a0 : Int32) (a1 : Int32) (σ : mmS) : Ev N L xs (97, 0, lv_args 0 [.int a0, .int a1], [], 0, σ) ((mmPI σ) (sp_m_out a0 a1 σ)) := by
  unfold sp_m_out
  show Ev N L xs (97, 0, [(0, .int a0), (1, .int a1)], [], 0, σ) _
  refine ev_iload_n d_97_0 rfl ?_
  refine ev_if_lt (mmPI σ) (tgt := 9) d_97_1 rfl (fun _h1 => ?_) (fun _h1 => ?_)
  · refine ev_iconst d_97_9 ci_1 ?_
    refine ev_goto (tgt := 14) d_97_10 rfl ?_
    exact ev_zret d_97_14 rfl (Or.inr rfl)
  · refine ev_iload_n d_97_4 rfl ?_
    refine ev_iload_n d_97_5 rfl ?_
    refine ev_icmp_lt (mmPI σ) (tgt := 13) d_97_6 rfl (fun _h6 => ?_) (fun _h6 => ?_)
    · refine ev_iconst d_97_13 ci_0 ?_
      exact ev_zret d_97_14 rfl (Or.inl rfl)
    · refine ev_iconst d_97_9 ci_1 ?_
      refine ev_goto (tgt := 14) d_97_10 rfl ?_
      exact ev_zret d_97_14 rfl (Or.inr rfl)
theorem mo_of {a : Int32} {σ : mmS} (h : sp_m_out a 4 σ = 0) : vp_in a 4 := by
  unfold sp_m_out at h
  by_cases h0 : a < 0
  · rw [if_pos h0] at h; exact absurd h (by decide)
  · rw [if_neg h0] at h
    by_cases h4 : (4 : Int32) ≤ a
    · have h5 : ¬ a < 4 := by rw [Int32.lt_iff_toInt_lt]; rw [Int32.le_iff_toInt_le] at h4; omega
      first
        | (rw [if_pos h4] at h; exact absurd h (by decide))
        | (rw [if_neg h5] at h; exact absurd h (by decide))
    · rintro (h1 | h1)
      · exact h0 h1
      · rw [Int32.le_iff_toInt_le] at h4
        have e4 : (4 : Int32).toInt = 4 := by decide
        rw [e4] at h4
        have h2 : 4 ≤ a.toInt.toNat := h1
        omega
theorem vx10 {a b : Int32} (ha : vp_in a 4) (h1 : ¬ b < 1) (h9 : ¬ (9 : Int32) < b) : vp_in (((10 : Int32) * a) + b) 40 := by
  rw [Int32.lt_iff_toInt_lt] at h1 h9
  have e9 : (9 : Int32).toInt = 9 := by decide
  have e1 : (1 : Int32).toInt = 1 := by decide
  rw [e9] at h9
  rw [e1] at h1
  have hb : b.toInt = 1 ∨ b.toInt = 2 ∨ b.toInt = 3 ∨ b.toInt = 4 ∨ b.toInt = 5 ∨ b.toInt = 6 ∨ b.toInt = 7 ∨ b.toInt = 8 ∨ b.toInt = 9 := by omega
  have hq : b = 1 ∨ b = 2 ∨ b = 3 ∨ b = 4 ∨ b = 5 ∨ b = 6 ∨ b = 7 ∨ b = 8 ∨ b = 9 := by
    rcases hb with h | h | h | h | h | h | h | h | h
    · exact Or.inl (Int32.toInt_inj.mp (h.trans (by decide)))
    · exact Or.inr (Or.inl (Int32.toInt_inj.mp (h.trans (by decide))))
    · exact Or.inr (Or.inr (Or.inl (Int32.toInt_inj.mp (h.trans (by decide)))))
    · exact Or.inr (Or.inr (Or.inr (Or.inl (Int32.toInt_inj.mp (h.trans (by decide))))))
    · exact Or.inr (Or.inr (Or.inr (Or.inr (Or.inl (Int32.toInt_inj.mp (h.trans (by decide)))))))
    · exact Or.inr (Or.inr (Or.inr (Or.inr (Or.inr (Or.inl (Int32.toInt_inj.mp (h.trans (by decide))))))))
    · exact Or.inr (Or.inr (Or.inr (Or.inr (Or.inr (Or.inr (Or.inl (Int32.toInt_inj.mp (h.trans (by decide)))))))))
    · exact Or.inr (Or.inr (Or.inr (Or.inr (Or.inr (Or.inr (Or.inr (Or.inl (Int32.toInt_inj.mp (h.trans (by decide))))))))))
    · exact Or.inr (Or.inr (Or.inr (Or.inr (Or.inr (Or.inr (Or.inr (Or.inr (Int32.toInt_inj.mp (h.trans (by decide))))))))))
  rcases n4 ha with rfl | rfl | rfl | rfl <;> rcases hq with rfl | rfl | rfl | rfl | rfl | rfl | rfl | rfl | rfl <;> exact vpi (by decide)
theorem vx32 {a b c : Int32} (ha : vp_in a 4) (hb : vp_in b 4) (hc : c = 0 ∨ c = 1) : vp_in ((((8 : Int32) * a) + ((2 : Int32) * b)) + c) 32 := by
  rcases n4 ha with rfl | rfl | rfl | rfl <;> rcases n4 hb with rfl | rfl | rfl | rfl <;> rcases hc with rfl | rfl <;> exact vpi (by decide)
def sp_m_works (a0 : Int32) (σ : mmS) : Int32 :=
if (σ.1 44 a0.toNatClampNeg) = 0 then
  (0 : Int32)
else
  if (σ.1 44 a0.toNatClampNeg) = (6 : Int32) then
    (0 : Int32)
  else
    (1 : Int32)
theorem ev_m_works (hN : 65 ≤ N) (a0 : Int32) (σ : mmS) (hn : vp_in a0 4) : Ev N L xs (98, 0, lv_args 0 [.ref 42, .int a0], [], 0, σ) ((mmPI σ) (sp_m_works a0 σ)) := by
  unfold sp_m_works
  show Ev N L xs (98, 0, [(0, .ref 42), (1, .int a0)], [], 0, σ) _
  refine ev_aload_n d_98_0 rfl ?_
  refine ev_getf (v := .ref 44) d_98_1 fl_7_13 (ltk (by decide) hN) rfl rfl ?_
  refine ev_iload_n d_98_4 rfl ?_
  refine ev_iald (i := a0.toNatClampNeg) d_98_5 (ltk (by decide) hN) rfl (by first | assumption | (apply mo_of; assumption)) rfl ?_
  refine ev_if_eq (mmPI σ) (tgt := 24) d_98_6 rfl (fun _h6 => ?_) (fun _h6 => ?_)
  · refine ev_iconst d_98_24 ci_0 ?_
    exact ev_zret d_98_25 rfl (Or.inl rfl)
  · refine ev_aload_n d_98_9 rfl ?_
    refine ev_getf (v := .ref 44) d_98_10 fl_7_13 (ltk (by decide) hN) rfl rfl ?_
    refine ev_iload_n d_98_13 rfl ?_
    refine ev_iald (i := a0.toNatClampNeg) d_98_14 (ltk (by decide) hN) rfl (by first | assumption | (apply mo_of; assumption)) rfl ?_
    refine ev_bipush d_98_15 cb_6 ?_
    refine ev_icmp_eq (mmPI σ) (tgt := 24) d_98_17 rfl (fun _h17 => ?_) (fun _h17 => ?_)
    · refine ev_iconst d_98_24 ci_0 ?_
      exact ev_zret d_98_25 rfl (Or.inl rfl)
    · refine ev_iconst d_98_20 ci_1 ?_
      refine ev_goto (tgt := 25) d_98_21 rfl ?_
      exact ev_zret d_98_25 rfl (Or.inr rfl)
def sp_m_forget (a0 : Int32) (σ : mmS) : mmS :=
(mmI (mmI (mmI (mmI (mmI (mmI (mmI (mmI σ 57 (((8 : Int32) * a0) + (0 : Int32)).toNatClampNeg (99 : Int32)) 57 (((8 : Int32) * a0) + (1 : Int32)).toNatClampNeg (99 : Int32)) 57 (((8 : Int32) * a0) + (2 : Int32)).toNatClampNeg (99 : Int32)) 57 (((8 : Int32) * a0) + (3 : Int32)).toNatClampNeg (99 : Int32)) 57 (((8 : Int32) * a0) + (4 : Int32)).toNatClampNeg (99 : Int32)) 57 (((8 : Int32) * a0) + (5 : Int32)).toNatClampNeg (99 : Int32)) 57 (((8 : Int32) * a0) + (6 : Int32)).toNatClampNeg (99 : Int32)) 57 (((8 : Int32) * a0) + (7 : Int32)).toNatClampNeg (99 : Int32))
theorem ev_m_forget (hN : 65 ≤ N) (a0 : Int32) (σ : mmS) (hn : vp_in a0 4) : Ev N L xs (94, 0, lv_args 0 [.ref 42, .int a0], [], 0, σ) (mmSV (sp_m_forget a0 σ)) := by
  unfold sp_m_forget
  show Ev N L xs (94, 0, [(0, .ref 42), (1, .int a0)], [], 0, σ) _
  refine ev_iconst d_94_0 ci_0 ?_
  refine ev_istore_n (lv' := [(2, .int (0 : Int32)), (0, .ref 42), (1, .int a0)]) d_94_1 (by decide) rfl ?_
  refine ev_iload_n d_94_2 rfl ?_
  refine ev_bipush d_94_3 cb_8 ?_
  refine ev_icmpF (tgt := 27) d_94_5 rfl (show ¬ ((8 : Int32) ≤ (0 : Int32)) by decide) ?_
  refine ev_aload_n d_94_8 rfl ?_
  refine ev_getf (v := .ref 57) d_94_9 fl_7_53 (ltk (by decide) hN) rfl rfl ?_
  refine ev_bipush d_94_12 cb_8 ?_
  refine ev_iload_n d_94_14 rfl ?_
  refine ev_imul (v := ((8 : Int32) * a0)) d_94_15 rfl ?_
  refine ev_iload_n d_94_16 rfl ?_
  refine ev_iadd (v := (((8 : Int32) * a0) + (0 : Int32))) d_94_17 rfl ?_
  refine ev_bipush d_94_18 cb_99 ?_
  refine ev_iastore (i := (((8 : Int32) * a0) + (0 : Int32)).toNatClampNeg) d_94_20 (ltk (by decide) hN) rfl (by have hn : vp_in a0 4 := (by first | assumption | (apply mo_of; assumption)); rcases n4 hn with rfl | rfl | rfl | rfl <;> exact vpi (by decide)) rfl ?_
  refine ev_iinc (lv' := [(2, .int (1 : Int32)), (0, .ref 42), (1, .int a0)]) (v := (1 : Int32)) d_94_21 rfl (by decide) (by decide) rfl ?_
  refine ev_goto (tgt := 2) d_94_24 rfl ?_
  refine ev_iload_n d_94_2 rfl ?_
  refine ev_bipush d_94_3 cb_8 ?_
  refine ev_icmpF (tgt := 27) d_94_5 rfl (show ¬ ((8 : Int32) ≤ (1 : Int32)) by decide) ?_
  refine ev_aload_n d_94_8 rfl ?_
  refine ev_getf (v := .ref 57) d_94_9 fl_7_53 (ltk (by decide) hN) rfl rfl ?_
  refine ev_bipush d_94_12 cb_8 ?_
  refine ev_iload_n d_94_14 rfl ?_
  refine ev_imul (v := ((8 : Int32) * a0)) d_94_15 rfl ?_
  refine ev_iload_n d_94_16 rfl ?_
  refine ev_iadd (v := (((8 : Int32) * a0) + (1 : Int32))) d_94_17 rfl ?_
  refine ev_bipush d_94_18 cb_99 ?_
  refine ev_iastore (i := (((8 : Int32) * a0) + (1 : Int32)).toNatClampNeg) d_94_20 (ltk (by decide) hN) rfl (by have hn : vp_in a0 4 := (by first | assumption | (apply mo_of; assumption)); rcases n4 hn with rfl | rfl | rfl | rfl <;> exact vpi (by decide)) rfl ?_
  refine ev_iinc (lv' := [(2, .int (2 : Int32)), (0, .ref 42), (1, .int a0)]) (v := (2 : Int32)) d_94_21 rfl (by decide) (by decide) rfl ?_
  refine ev_goto (tgt := 2) d_94_24 rfl ?_
  refine ev_iload_n d_94_2 rfl ?_
  refine ev_bipush d_94_3 cb_8 ?_
  refine ev_icmpF (tgt := 27) d_94_5 rfl (show ¬ ((8 : Int32) ≤ (2 : Int32)) by decide) ?_
  refine ev_aload_n d_94_8 rfl ?_
  refine ev_getf (v := .ref 57) d_94_9 fl_7_53 (ltk (by decide) hN) rfl rfl ?_
  refine ev_bipush d_94_12 cb_8 ?_
  refine ev_iload_n d_94_14 rfl ?_
  refine ev_imul (v := ((8 : Int32) * a0)) d_94_15 rfl ?_
  refine ev_iload_n d_94_16 rfl ?_
  refine ev_iadd (v := (((8 : Int32) * a0) + (2 : Int32))) d_94_17 rfl ?_
  refine ev_bipush d_94_18 cb_99 ?_
  refine ev_iastore (i := (((8 : Int32) * a0) + (2 : Int32)).toNatClampNeg) d_94_20 (ltk (by decide) hN) rfl (by have hn : vp_in a0 4 := (by first | assumption | (apply mo_of; assumption)); rcases n4 hn with rfl | rfl | rfl | rfl <;> exact vpi (by decide)) rfl ?_
  refine ev_iinc (lv' := [(2, .int (3 : Int32)), (0, .ref 42), (1, .int a0)]) (v := (3 : Int32)) d_94_21 rfl (by decide) (by decide) rfl ?_
  refine ev_goto (tgt := 2) d_94_24 rfl ?_
  refine ev_iload_n d_94_2 rfl ?_
  refine ev_bipush d_94_3 cb_8 ?_
  refine ev_icmpF (tgt := 27) d_94_5 rfl (show ¬ ((8 : Int32) ≤ (3 : Int32)) by decide) ?_
  refine ev_aload_n d_94_8 rfl ?_
  refine ev_getf (v := .ref 57) d_94_9 fl_7_53 (ltk (by decide) hN) rfl rfl ?_
  refine ev_bipush d_94_12 cb_8 ?_
  refine ev_iload_n d_94_14 rfl ?_
  refine ev_imul (v := ((8 : Int32) * a0)) d_94_15 rfl ?_
  refine ev_iload_n d_94_16 rfl ?_
  refine ev_iadd (v := (((8 : Int32) * a0) + (3 : Int32))) d_94_17 rfl ?_
  refine ev_bipush d_94_18 cb_99 ?_
  refine ev_iastore (i := (((8 : Int32) * a0) + (3 : Int32)).toNatClampNeg) d_94_20 (ltk (by decide) hN) rfl (by have hn : vp_in a0 4 := (by first | assumption | (apply mo_of; assumption)); rcases n4 hn with rfl | rfl | rfl | rfl <;> exact vpi (by decide)) rfl ?_
  refine ev_iinc (lv' := [(2, .int (4 : Int32)), (0, .ref 42), (1, .int a0)]) (v := (4 : Int32)) d_94_21 rfl (by decide) (by decide) rfl ?_
  refine ev_goto (tgt := 2) d_94_24 rfl ?_
  refine ev_iload_n d_94_2 rfl ?_
  refine ev_bipush d_94_3 cb_8 ?_
  refine ev_icmpF (tgt := 27) d_94_5 rfl (show ¬ ((8 : Int32) ≤ (4 : Int32)) by decide) ?_
  refine ev_aload_n d_94_8 rfl ?_
  refine ev_getf (v := .ref 57) d_94_9 fl_7_53 (ltk (by decide) hN) rfl rfl ?_
  refine ev_bipush d_94_12 cb_8 ?_
  refine ev_iload_n d_94_14 rfl ?_
  refine ev_imul (v := ((8 : Int32) * a0)) d_94_15 rfl ?_
  refine ev_iload_n d_94_16 rfl ?_
  refine ev_iadd (v := (((8 : Int32) * a0) + (4 : Int32))) d_94_17 rfl ?_
  refine ev_bipush d_94_18 cb_99 ?_
  refine ev_iastore (i := (((8 : Int32) * a0) + (4 : Int32)).toNatClampNeg) d_94_20 (ltk (by decide) hN) rfl (by have hn : vp_in a0 4 := (by first | assumption | (apply mo_of; assumption)); rcases n4 hn with rfl | rfl | rfl | rfl <;> exact vpi (by decide)) rfl ?_
  refine ev_iinc (lv' := [(2, .int (5 : Int32)), (0, .ref 42), (1, .int a0)]) (v := (5 : Int32)) d_94_21 rfl (by decide) (by decide) rfl ?_
  refine ev_goto (tgt := 2) d_94_24 rfl ?_
  refine ev_iload_n d_94_2 rfl ?_
  refine ev_bipush d_94_3 cb_8 ?_
  refine ev_icmpF (tgt := 27) d_94_5 rfl (show ¬ ((8 : Int32) ≤ (5 : Int32)) by decide) ?_
  refine ev_aload_n d_94_8 rfl ?_
  refine ev_getf (v := .ref 57) d_94_9 fl_7_53 (ltk (by decide) hN) rfl rfl ?_
  refine ev_bipush d_94_12 cb_8 ?_
  refine ev_iload_n d_94_14 rfl ?_
  refine ev_imul (v := ((8 : Int32) * a0)) d_94_15 rfl ?_
  refine ev_iload_n d_94_16 rfl ?_
  refine ev_iadd (v := (((8 : Int32) * a0) + (5 : Int32))) d_94_17 rfl ?_
  refine ev_bipush d_94_18 cb_99 ?_
  refine ev_iastore (i := (((8 : Int32) * a0) + (5 : Int32)).toNatClampNeg) d_94_20 (ltk (by decide) hN) rfl (by have hn : vp_in a0 4 := (by first | assumption | (apply mo_of; assumption)); rcases n4 hn with rfl | rfl | rfl | rfl <;> exact vpi (by decide)) rfl ?_
  refine ev_iinc (lv' := [(2, .int (6 : Int32)), (0, .ref 42), (1, .int a0)]) (v := (6 : Int32)) d_94_21 rfl (by decide) (by decide) rfl ?_
  refine ev_goto (tgt := 2) d_94_24 rfl ?_
  refine ev_iload_n d_94_2 rfl ?_
  refine ev_bipush d_94_3 cb_8 ?_
  refine ev_icmpF (tgt := 27) d_94_5 rfl (show ¬ ((8 : Int32) ≤ (6 : Int32)) by decide) ?_
  refine ev_aload_n d_94_8 rfl ?_
  refine ev_getf (v := .ref 57) d_94_9 fl_7_53 (ltk (by decide) hN) rfl rfl ?_
  refine ev_bipush d_94_12 cb_8 ?_
  refine ev_iload_n d_94_14 rfl ?_
  refine ev_imul (v := ((8 : Int32) * a0)) d_94_15 rfl ?_
  refine ev_iload_n d_94_16 rfl ?_
  refine ev_iadd (v := (((8 : Int32) * a0) + (6 : Int32))) d_94_17 rfl ?_
  refine ev_bipush d_94_18 cb_99 ?_
  refine ev_iastore (i := (((8 : Int32) * a0) + (6 : Int32)).toNatClampNeg) d_94_20 (ltk (by decide) hN) rfl (by have hn : vp_in a0 4 := (by first | assumption | (apply mo_of; assumption)); rcases n4 hn with rfl | rfl | rfl | rfl <;> exact vpi (by decide)) rfl ?_
  refine ev_iinc (lv' := [(2, .int (7 : Int32)), (0, .ref 42), (1, .int a0)]) (v := (7 : Int32)) d_94_21 rfl (by decide) (by decide) rfl ?_
  refine ev_goto (tgt := 2) d_94_24 rfl ?_
  refine ev_iload_n d_94_2 rfl ?_
  refine ev_bipush d_94_3 cb_8 ?_
  refine ev_icmpF (tgt := 27) d_94_5 rfl (show ¬ ((8 : Int32) ≤ (7 : Int32)) by decide) ?_
  refine ev_aload_n d_94_8 rfl ?_
  refine ev_getf (v := .ref 57) d_94_9 fl_7_53 (ltk (by decide) hN) rfl rfl ?_
  refine ev_bipush d_94_12 cb_8 ?_
  refine ev_iload_n d_94_14 rfl ?_
  refine ev_imul (v := ((8 : Int32) * a0)) d_94_15 rfl ?_
  refine ev_iload_n d_94_16 rfl ?_
  refine ev_iadd (v := (((8 : Int32) * a0) + (7 : Int32))) d_94_17 rfl ?_
  refine ev_bipush d_94_18 cb_99 ?_
  refine ev_iastore (i := (((8 : Int32) * a0) + (7 : Int32)).toNatClampNeg) d_94_20 (ltk (by decide) hN) rfl (by have hn : vp_in a0 4 := (by first | assumption | (apply mo_of; assumption)); rcases n4 hn with rfl | rfl | rfl | rfl <;> exact vpi (by decide)) rfl ?_
  refine ev_iinc (lv' := [(2, .int (8 : Int32)), (0, .ref 42), (1, .int a0)]) (v := (8 : Int32)) d_94_21 rfl (by decide) (by decide) rfl ?_
  refine ev_goto (tgt := 2) d_94_24 rfl ?_
  refine ev_iload_n d_94_2 rfl ?_
  refine ev_bipush d_94_3 cb_8 ?_
  refine ev_icmpT (tgt := 27) d_94_5 rfl (show (8 : Int32) ≤ (8 : Int32) by decide) ?_
  exact ev_vret d_94_27 rfl
def sp_m_listen (a0 : Int32) (σ : mmS) : mmS :=
(sp_m_forget a0 (mmI (mmI (mmI (mmI σ 44 a0.toNatClampNeg (1 : Int32)) 46 a0.toNatClampNeg (0 : Int32)) 47 a0.toNatClampNeg (0 : Int32)) 48 a0.toNatClampNeg (0 : Int32)))
theorem ev_m_listen (hN : 65 ≤ N) (a0 : Int32) (σ : mmS) (hn : vp_in a0 4) : Ev N L xs (99, 0, lv_args 0 [.ref 42, .int a0], [], 0, σ) (mmSV (sp_m_listen a0 σ)) := by
  unfold sp_m_listen
  show Ev N L xs (99, 0, [(0, .ref 42), (1, .int a0)], [], 0, σ) _
  refine ev_aload_n d_99_0 rfl ?_
  refine ev_getf (v := .ref 44) d_99_1 fl_7_13 (ltk (by decide) hN) rfl rfl ?_
  refine ev_iload_n d_99_4 rfl ?_
  refine ev_iconst d_99_5 ci_1 ?_
  refine ev_iastore (i := a0.toNatClampNeg) d_99_6 (ltk (by decide) hN) rfl (by first | assumption | (apply mo_of; assumption)) rfl ?_
  refine ev_aload_n d_99_7 rfl ?_
  refine ev_getf (v := .ref 46) d_99_8 fl_7_19 (ltk (by decide) hN) rfl rfl ?_
  refine ev_iload_n d_99_11 rfl ?_
  refine ev_iconst d_99_12 ci_0 ?_
  refine ev_iastore (i := a0.toNatClampNeg) d_99_13 (ltk (by decide) hN) rfl (by first | assumption | (apply mo_of; assumption)) rfl ?_
  refine ev_aload_n d_99_14 rfl ?_
  refine ev_getf (v := .ref 47) d_99_15 fl_7_22 (ltk (by decide) hN) rfl rfl ?_
  refine ev_iload_n d_99_18 rfl ?_
  refine ev_iconst d_99_19 ci_0 ?_
  refine ev_iastore (i := a0.toNatClampNeg) d_99_20 (ltk (by decide) hN) rfl (by first | assumption | (apply mo_of; assumption)) rfl ?_
  refine ev_aload_n d_99_21 rfl ?_
  refine ev_getf (v := .ref 48) d_99_22 fl_7_25 (ltk (by decide) hN) rfl rfl ?_
  refine ev_iload_n d_99_25 rfl ?_
  refine ev_iconst d_99_26 ci_0 ?_
  refine ev_iastore (i := a0.toNatClampNeg) d_99_27 (ltk (by decide) hN) rfl (by first | assumption | (apply mo_of; assumption)) rfl ?_
  refine ev_aload_n d_99_28 rfl ?_
  refine ev_iload_n d_99_29 rfl ?_
  refine ev_cvV (As := [.int a0]) (t := []) (e' := 0) d_99_30 ml_7_77 rfl rfl rfl rfl rfl (by decide) rfl (ltk (by decide) hN) rfl rfl rfl (ev_m_forget hN a0 (mmI (mmI (mmI (mmI σ 44 a0.toNatClampNeg (1 : Int32)) 46 a0.toNatClampNeg (0 : Int32)) 47 a0.toNatClampNeg (0 : Int32)) 48 a0.toNatClampNeg (0 : Int32)) hn) ?_
  exact ev_vret d_99_33 rfl
def sp_m_power (a0 : Int32) (σ : mmS) : mmS :=
if (sp_m_out a0 (4 : Int32) σ) = 0 then
  if (sp_m_works a0 σ) = 0 then
    (sp_m_listen a0 (mmI (mmI (mmI (mmI (mmI (mmI (mmI (mmI (mmI (mmI (mmI (mmI (mmI (mmI σ 42 0 (0 : Int32)) 45 a0.toNatClampNeg (0 : Int32)) 59 a0.toNatClampNeg (0 : Int32)) 60 a0.toNatClampNeg (0 : Int32)) 58 (((10 : Int32) * a0) + (0 : Int32)).toNatClampNeg (0 : Int32)) 58 (((10 : Int32) * a0) + (1 : Int32)).toNatClampNeg (0 : Int32)) 58 (((10 : Int32) * a0) + (2 : Int32)).toNatClampNeg (0 : Int32)) 58 (((10 : Int32) * a0) + (3 : Int32)).toNatClampNeg (0 : Int32)) 58 (((10 : Int32) * a0) + (4 : Int32)).toNatClampNeg (0 : Int32)) 58 (((10 : Int32) * a0) + (5 : Int32)).toNatClampNeg (0 : Int32)) 58 (((10 : Int32) * a0) + (6 : Int32)).toNatClampNeg (0 : Int32)) 58 (((10 : Int32) * a0) + (7 : Int32)).toNatClampNeg (0 : Int32)) 58 (((10 : Int32) * a0) + (8 : Int32)).toNatClampNeg (0 : Int32)) 58 (((10 : Int32) * a0) + (9 : Int32)).toNatClampNeg (0 : Int32)))
  else
    (mmI σ 42 0 (2 : Int32))
else
  (mmI σ 42 0 (1 : Int32))
theorem ev_m_power (hN : 65 ≤ N) (a0 : Int32) (σ : mmS) : Ev N L xs (96, 0, lv_args 0 [.ref 42, .int a0], [], 0, σ) (mmSV (sp_m_power a0 σ)) := by
  unfold sp_m_power
  show Ev N L xs (96, 0, [(0, .ref 42), (1, .int a0)], [], 0, σ) _
  refine ev_aload_n d_96_0 rfl ?_
  refine ev_iload_n d_96_1 rfl ?_
  refine ev_iconst d_96_2 ci_4 ?_
  refine ev_csI (As := [.int a0, .int (4 : Int32)]) (t := [.ref 42]) (e' := 0) d_96_3 ml_7_197 rfl rfl rfl rfl rfl (by decide) rfl rfl (ev_m_out hN a0 (4 : Int32) σ) ?_
  refine ev_if_eq mmSV (tgt := 13) d_96_6 rfl (fun _h6 => ?_) (fun _h6 => ?_)
  · refine ev_aload_n d_96_13 rfl ?_
    refine ev_iload_n d_96_14 rfl ?_
    refine ev_cvI (As := [.int a0]) (t := [.ref 42]) (e' := 0) d_96_15 ml_7_171 rfl rfl rfl rfl rfl (by decide) rfl (ltk (by decide) hN) rfl rfl rfl (ev_m_works hN a0 σ (by apply mo_of; assumption)) ?_
    refine ev_if_eq mmSV (tgt := 25) d_96_18 rfl (fun _h18 => ?_) (fun _h18 => ?_)
    · refine ev_iconst d_96_25 ci_0 ?_
      refine ev_putf d_96_26 fl_7_81 (ltk (by decide) hN) rfl rfl (Or.inl rfl) ?_
      refine ev_aload_n d_96_29 rfl ?_
      refine ev_getf (v := .int (0 : Int32)) d_96_30 fl_7_81 (ltk (by decide) hN) rfl rfl ?_
      refine ev_ifT (tgt := 37) d_96_33 rfl (show (0 : Int32) ≤ (0 : Int32) by decide) ?_
      refine ev_aload_n d_96_37 rfl ?_
      refine ev_getf (v := .ref 45) d_96_38 fl_7_16 (ltk (by decide) hN) rfl rfl ?_
      refine ev_iload_n d_96_41 rfl ?_
      refine ev_iconst d_96_42 ci_0 ?_
      refine ev_iastore (i := a0.toNatClampNeg) d_96_43 (ltk (by decide) hN) rfl (by have hn : vp_in a0 4 := (by first | assumption | (apply mo_of; assumption)); rcases n4 hn with rfl | rfl | rfl | rfl <;> exact vpi (by decide)) rfl ?_
      refine ev_aload_n d_96_44 rfl ?_
      refine ev_getf (v := .ref 59) d_96_45 fl_7_59 (ltk (by decide) hN) rfl rfl ?_
      refine ev_iload_n d_96_48 rfl ?_
      refine ev_iconst d_96_49 ci_0 ?_
      refine ev_iastore (i := a0.toNatClampNeg) d_96_50 (ltk (by decide) hN) rfl (by have hn : vp_in a0 4 := (by first | assumption | (apply mo_of; assumption)); rcases n4 hn with rfl | rfl | rfl | rfl <;> exact vpi (by decide)) rfl ?_
      refine ev_aload_n d_96_51 rfl ?_
      refine ev_getf (v := .ref 60) d_96_52 fl_7_62 (ltk (by decide) hN) rfl rfl ?_
      refine ev_iload_n d_96_55 rfl ?_
      refine ev_iconst d_96_56 ci_0 ?_
      refine ev_iastore (i := a0.toNatClampNeg) d_96_57 (ltk (by decide) hN) rfl (by have hn : vp_in a0 4 := (by first | assumption | (apply mo_of; assumption)); rcases n4 hn with rfl | rfl | rfl | rfl <;> exact vpi (by decide)) rfl ?_
      refine ev_iconst d_96_58 ci_0 ?_
      refine ev_istore_n (lv' := [(2, .int (0 : Int32)), (0, .ref 42), (1, .int a0)]) d_96_59 (by decide) rfl ?_
      refine ev_iload_n d_96_60 rfl ?_
      refine ev_bipush d_96_61 cb_10 ?_
      refine ev_icmpF (tgt := 84) d_96_63 rfl (show ¬ ((10 : Int32) ≤ (0 : Int32)) by decide) ?_
      refine ev_aload_n d_96_66 rfl ?_
      refine ev_getf (v := .ref 58) d_96_67 fl_7_56 (ltk (by decide) hN) rfl rfl ?_
      refine ev_bipush d_96_70 cb_10 ?_
      refine ev_iload_n d_96_72 rfl ?_
      refine ev_imul (v := ((10 : Int32) * a0)) d_96_73 rfl ?_
      refine ev_iload_n d_96_74 rfl ?_
      refine ev_iadd (v := (((10 : Int32) * a0) + (0 : Int32))) d_96_75 rfl ?_
      refine ev_iconst d_96_76 ci_0 ?_
      refine ev_iastore (i := (((10 : Int32) * a0) + (0 : Int32)).toNatClampNeg) d_96_77 (ltk (by decide) hN) rfl (by have hn : vp_in a0 4 := (by first | assumption | (apply mo_of; assumption)); rcases n4 hn with rfl | rfl | rfl | rfl <;> exact vpi (by decide)) rfl ?_
      refine ev_iinc (lv' := [(2, .int (1 : Int32)), (0, .ref 42), (1, .int a0)]) (v := (1 : Int32)) d_96_78 rfl (by decide) (by decide) rfl ?_
      refine ev_goto (tgt := 60) d_96_81 rfl ?_
      refine ev_iload_n d_96_60 rfl ?_
      refine ev_bipush d_96_61 cb_10 ?_
      refine ev_icmpF (tgt := 84) d_96_63 rfl (show ¬ ((10 : Int32) ≤ (1 : Int32)) by decide) ?_
      refine ev_aload_n d_96_66 rfl ?_
      refine ev_getf (v := .ref 58) d_96_67 fl_7_56 (ltk (by decide) hN) rfl rfl ?_
      refine ev_bipush d_96_70 cb_10 ?_
      refine ev_iload_n d_96_72 rfl ?_
      refine ev_imul (v := ((10 : Int32) * a0)) d_96_73 rfl ?_
      refine ev_iload_n d_96_74 rfl ?_
      refine ev_iadd (v := (((10 : Int32) * a0) + (1 : Int32))) d_96_75 rfl ?_
      refine ev_iconst d_96_76 ci_0 ?_
      refine ev_iastore (i := (((10 : Int32) * a0) + (1 : Int32)).toNatClampNeg) d_96_77 (ltk (by decide) hN) rfl (by have hn : vp_in a0 4 := (by first | assumption | (apply mo_of; assumption)); rcases n4 hn with rfl | rfl | rfl | rfl <;> exact vpi (by decide)) rfl ?_
      refine ev_iinc (lv' := [(2, .int (2 : Int32)), (0, .ref 42), (1, .int a0)]) (v := (2 : Int32)) d_96_78 rfl (by decide) (by decide) rfl ?_
      refine ev_goto (tgt := 60) d_96_81 rfl ?_
      refine ev_iload_n d_96_60 rfl ?_
      refine ev_bipush d_96_61 cb_10 ?_
      refine ev_icmpF (tgt := 84) d_96_63 rfl (show ¬ ((10 : Int32) ≤ (2 : Int32)) by decide) ?_
      refine ev_aload_n d_96_66 rfl ?_
      refine ev_getf (v := .ref 58) d_96_67 fl_7_56 (ltk (by decide) hN) rfl rfl ?_
      refine ev_bipush d_96_70 cb_10 ?_
      refine ev_iload_n d_96_72 rfl ?_
      refine ev_imul (v := ((10 : Int32) * a0)) d_96_73 rfl ?_
      refine ev_iload_n d_96_74 rfl ?_
      refine ev_iadd (v := (((10 : Int32) * a0) + (2 : Int32))) d_96_75 rfl ?_
      refine ev_iconst d_96_76 ci_0 ?_
      refine ev_iastore (i := (((10 : Int32) * a0) + (2 : Int32)).toNatClampNeg) d_96_77 (ltk (by decide) hN) rfl (by have hn : vp_in a0 4 := (by first | assumption | (apply mo_of; assumption)); rcases n4 hn with rfl | rfl | rfl | rfl <;> exact vpi (by decide)) rfl ?_
      refine ev_iinc (lv' := [(2, .int (3 : Int32)), (0, .ref 42), (1, .int a0)]) (v := (3 : Int32)) d_96_78 rfl (by decide) (by decide) rfl ?_
      refine ev_goto (tgt := 60) d_96_81 rfl ?_
      refine ev_iload_n d_96_60 rfl ?_
      refine ev_bipush d_96_61 cb_10 ?_
      refine ev_icmpF (tgt := 84) d_96_63 rfl (show ¬ ((10 : Int32) ≤ (3 : Int32)) by decide) ?_
      refine ev_aload_n d_96_66 rfl ?_
      refine ev_getf (v := .ref 58) d_96_67 fl_7_56 (ltk (by decide) hN) rfl rfl ?_
      refine ev_bipush d_96_70 cb_10 ?_
      refine ev_iload_n d_96_72 rfl ?_
      refine ev_imul (v := ((10 : Int32) * a0)) d_96_73 rfl ?_
      refine ev_iload_n d_96_74 rfl ?_
      refine ev_iadd (v := (((10 : Int32) * a0) + (3 : Int32))) d_96_75 rfl ?_
      refine ev_iconst d_96_76 ci_0 ?_
      refine ev_iastore (i := (((10 : Int32) * a0) + (3 : Int32)).toNatClampNeg) d_96_77 (ltk (by decide) hN) rfl (by have hn : vp_in a0 4 := (by first | assumption | (apply mo_of; assumption)); rcases n4 hn with rfl | rfl | rfl | rfl <;> exact vpi (by decide)) rfl ?_
      refine ev_iinc (lv' := [(2, .int (4 : Int32)), (0, .ref 42), (1, .int a0)]) (v := (4 : Int32)) d_96_78 rfl (by decide) (by decide) rfl ?_
      refine ev_goto (tgt := 60) d_96_81 rfl ?_
      refine ev_iload_n d_96_60 rfl ?_
      refine ev_bipush d_96_61 cb_10 ?_
      refine ev_icmpF (tgt := 84) d_96_63 rfl (show ¬ ((10 : Int32) ≤ (4 : Int32)) by decide) ?_
      refine ev_aload_n d_96_66 rfl ?_
      refine ev_getf (v := .ref 58) d_96_67 fl_7_56 (ltk (by decide) hN) rfl rfl ?_
      refine ev_bipush d_96_70 cb_10 ?_
      refine ev_iload_n d_96_72 rfl ?_
      refine ev_imul (v := ((10 : Int32) * a0)) d_96_73 rfl ?_
      refine ev_iload_n d_96_74 rfl ?_
      refine ev_iadd (v := (((10 : Int32) * a0) + (4 : Int32))) d_96_75 rfl ?_
      refine ev_iconst d_96_76 ci_0 ?_
      refine ev_iastore (i := (((10 : Int32) * a0) + (4 : Int32)).toNatClampNeg) d_96_77 (ltk (by decide) hN) rfl (by have hn : vp_in a0 4 := (by first | assumption | (apply mo_of; assumption)); rcases n4 hn with rfl | rfl | rfl | rfl <;> exact vpi (by decide)) rfl ?_
      refine ev_iinc (lv' := [(2, .int (5 : Int32)), (0, .ref 42), (1, .int a0)]) (v := (5 : Int32)) d_96_78 rfl (by decide) (by decide) rfl ?_
      refine ev_goto (tgt := 60) d_96_81 rfl ?_
      refine ev_iload_n d_96_60 rfl ?_
      refine ev_bipush d_96_61 cb_10 ?_
      refine ev_icmpF (tgt := 84) d_96_63 rfl (show ¬ ((10 : Int32) ≤ (5 : Int32)) by decide) ?_
      refine ev_aload_n d_96_66 rfl ?_
      refine ev_getf (v := .ref 58) d_96_67 fl_7_56 (ltk (by decide) hN) rfl rfl ?_
      refine ev_bipush d_96_70 cb_10 ?_
      refine ev_iload_n d_96_72 rfl ?_
      refine ev_imul (v := ((10 : Int32) * a0)) d_96_73 rfl ?_
      refine ev_iload_n d_96_74 rfl ?_
      refine ev_iadd (v := (((10 : Int32) * a0) + (5 : Int32))) d_96_75 rfl ?_
      refine ev_iconst d_96_76 ci_0 ?_
      refine ev_iastore (i := (((10 : Int32) * a0) + (5 : Int32)).toNatClampNeg) d_96_77 (ltk (by decide) hN) rfl (by have hn : vp_in a0 4 := (by first | assumption | (apply mo_of; assumption)); rcases n4 hn with rfl | rfl | rfl | rfl <;> exact vpi (by decide)) rfl ?_
      refine ev_iinc (lv' := [(2, .int (6 : Int32)), (0, .ref 42), (1, .int a0)]) (v := (6 : Int32)) d_96_78 rfl (by decide) (by decide) rfl ?_
      refine ev_goto (tgt := 60) d_96_81 rfl ?_
      refine ev_iload_n d_96_60 rfl ?_
      refine ev_bipush d_96_61 cb_10 ?_
      refine ev_icmpF (tgt := 84) d_96_63 rfl (show ¬ ((10 : Int32) ≤ (6 : Int32)) by decide) ?_
      refine ev_aload_n d_96_66 rfl ?_
      refine ev_getf (v := .ref 58) d_96_67 fl_7_56 (ltk (by decide) hN) rfl rfl ?_
      refine ev_bipush d_96_70 cb_10 ?_
      refine ev_iload_n d_96_72 rfl ?_
      refine ev_imul (v := ((10 : Int32) * a0)) d_96_73 rfl ?_
      refine ev_iload_n d_96_74 rfl ?_
      refine ev_iadd (v := (((10 : Int32) * a0) + (6 : Int32))) d_96_75 rfl ?_
      refine ev_iconst d_96_76 ci_0 ?_
      refine ev_iastore (i := (((10 : Int32) * a0) + (6 : Int32)).toNatClampNeg) d_96_77 (ltk (by decide) hN) rfl (by have hn : vp_in a0 4 := (by first | assumption | (apply mo_of; assumption)); rcases n4 hn with rfl | rfl | rfl | rfl <;> exact vpi (by decide)) rfl ?_
      refine ev_iinc (lv' := [(2, .int (7 : Int32)), (0, .ref 42), (1, .int a0)]) (v := (7 : Int32)) d_96_78 rfl (by decide) (by decide) rfl ?_
      refine ev_goto (tgt := 60) d_96_81 rfl ?_
      refine ev_iload_n d_96_60 rfl ?_
      refine ev_bipush d_96_61 cb_10 ?_
      refine ev_icmpF (tgt := 84) d_96_63 rfl (show ¬ ((10 : Int32) ≤ (7 : Int32)) by decide) ?_
      refine ev_aload_n d_96_66 rfl ?_
      refine ev_getf (v := .ref 58) d_96_67 fl_7_56 (ltk (by decide) hN) rfl rfl ?_
      refine ev_bipush d_96_70 cb_10 ?_
      refine ev_iload_n d_96_72 rfl ?_
      refine ev_imul (v := ((10 : Int32) * a0)) d_96_73 rfl ?_
      refine ev_iload_n d_96_74 rfl ?_
      refine ev_iadd (v := (((10 : Int32) * a0) + (7 : Int32))) d_96_75 rfl ?_
      refine ev_iconst d_96_76 ci_0 ?_
      refine ev_iastore (i := (((10 : Int32) * a0) + (7 : Int32)).toNatClampNeg) d_96_77 (ltk (by decide) hN) rfl (by have hn : vp_in a0 4 := (by first | assumption | (apply mo_of; assumption)); rcases n4 hn with rfl | rfl | rfl | rfl <;> exact vpi (by decide)) rfl ?_
      refine ev_iinc (lv' := [(2, .int (8 : Int32)), (0, .ref 42), (1, .int a0)]) (v := (8 : Int32)) d_96_78 rfl (by decide) (by decide) rfl ?_
      refine ev_goto (tgt := 60) d_96_81 rfl ?_
      refine ev_iload_n d_96_60 rfl ?_
      refine ev_bipush d_96_61 cb_10 ?_
      refine ev_icmpF (tgt := 84) d_96_63 rfl (show ¬ ((10 : Int32) ≤ (8 : Int32)) by decide) ?_
      refine ev_aload_n d_96_66 rfl ?_
      refine ev_getf (v := .ref 58) d_96_67 fl_7_56 (ltk (by decide) hN) rfl rfl ?_
      refine ev_bipush d_96_70 cb_10 ?_
      refine ev_iload_n d_96_72 rfl ?_
      refine ev_imul (v := ((10 : Int32) * a0)) d_96_73 rfl ?_
      refine ev_iload_n d_96_74 rfl ?_
      refine ev_iadd (v := (((10 : Int32) * a0) + (8 : Int32))) d_96_75 rfl ?_
      refine ev_iconst d_96_76 ci_0 ?_
      refine ev_iastore (i := (((10 : Int32) * a0) + (8 : Int32)).toNatClampNeg) d_96_77 (ltk (by decide) hN) rfl (by have hn : vp_in a0 4 := (by first | assumption | (apply mo_of; assumption)); rcases n4 hn with rfl | rfl | rfl | rfl <;> exact vpi (by decide)) rfl ?_
      refine ev_iinc (lv' := [(2, .int (9 : Int32)), (0, .ref 42), (1, .int a0)]) (v := (9 : Int32)) d_96_78 rfl (by decide) (by decide) rfl ?_
      refine ev_goto (tgt := 60) d_96_81 rfl ?_
      refine ev_iload_n d_96_60 rfl ?_
      refine ev_bipush d_96_61 cb_10 ?_
      refine ev_icmpF (tgt := 84) d_96_63 rfl (show ¬ ((10 : Int32) ≤ (9 : Int32)) by decide) ?_
      refine ev_aload_n d_96_66 rfl ?_
      refine ev_getf (v := .ref 58) d_96_67 fl_7_56 (ltk (by decide) hN) rfl rfl ?_
      refine ev_bipush d_96_70 cb_10 ?_
      refine ev_iload_n d_96_72 rfl ?_
      refine ev_imul (v := ((10 : Int32) * a0)) d_96_73 rfl ?_
      refine ev_iload_n d_96_74 rfl ?_
      refine ev_iadd (v := (((10 : Int32) * a0) + (9 : Int32))) d_96_75 rfl ?_
      refine ev_iconst d_96_76 ci_0 ?_
      refine ev_iastore (i := (((10 : Int32) * a0) + (9 : Int32)).toNatClampNeg) d_96_77 (ltk (by decide) hN) rfl (by have hn : vp_in a0 4 := (by first | assumption | (apply mo_of; assumption)); rcases n4 hn with rfl | rfl | rfl | rfl <;> exact vpi (by decide)) rfl ?_
      refine ev_iinc (lv' := [(2, .int (10 : Int32)), (0, .ref 42), (1, .int a0)]) (v := (10 : Int32)) d_96_78 rfl (by decide) (by decide) rfl ?_
      refine ev_goto (tgt := 60) d_96_81 rfl ?_
      refine ev_iload_n d_96_60 rfl ?_
      refine ev_bipush d_96_61 cb_10 ?_
      refine ev_icmpT (tgt := 84) d_96_63 rfl (show (10 : Int32) ≤ (10 : Int32) by decide) ?_
      refine ev_aload_n d_96_84 rfl ?_
      refine ev_iload_n d_96_85 rfl ?_
      refine ev_cvV (As := [.int a0]) (t := []) (e' := 0) d_96_86 ml_7_128 rfl rfl rfl rfl rfl (by decide) rfl (ltk (by decide) hN) rfl rfl rfl (ev_m_listen hN a0 (mmI (mmI (mmI (mmI (mmI (mmI (mmI (mmI (mmI (mmI (mmI (mmI (mmI (mmI σ 42 0 (0 : Int32)) 45 a0.toNatClampNeg (0 : Int32)) 59 a0.toNatClampNeg (0 : Int32)) 60 a0.toNatClampNeg (0 : Int32)) 58 (((10 : Int32) * a0) + (0 : Int32)).toNatClampNeg (0 : Int32)) 58 (((10 : Int32) * a0) + (1 : Int32)).toNatClampNeg (0 : Int32)) 58 (((10 : Int32) * a0) + (2 : Int32)).toNatClampNeg (0 : Int32)) 58 (((10 : Int32) * a0) + (3 : Int32)).toNatClampNeg (0 : Int32)) 58 (((10 : Int32) * a0) + (4 : Int32)).toNatClampNeg (0 : Int32)) 58 (((10 : Int32) * a0) + (5 : Int32)).toNatClampNeg (0 : Int32)) 58 (((10 : Int32) * a0) + (6 : Int32)).toNatClampNeg (0 : Int32)) 58 (((10 : Int32) * a0) + (7 : Int32)).toNatClampNeg (0 : Int32)) 58 (((10 : Int32) * a0) + (8 : Int32)).toNatClampNeg (0 : Int32)) 58 (((10 : Int32) * a0) + (9 : Int32)).toNatClampNeg (0 : Int32)) (by apply mo_of; assumption)) ?_
      exact ev_vret d_96_89 rfl
    · refine ev_iconst d_96_21 ci_2 ?_
      refine ev_goto (tgt := 26) d_96_22 rfl ?_
      refine ev_putf d_96_26 fl_7_81 (ltk (by decide) hN) rfl rfl (Or.inl rfl) ?_
      refine ev_aload_n d_96_29 rfl ?_
      refine ev_getf (v := .int (2 : Int32)) d_96_30 fl_7_81 (ltk (by decide) hN) rfl rfl ?_
      refine ev_ifF (tgt := 37) d_96_33 rfl (show ¬ ((2 : Int32) ≤ (0 : Int32)) by decide) ?_
      exact ev_vret d_96_36 rfl
  · refine ev_iconst d_96_9 ci_1 ?_
    refine ev_goto (tgt := 26) d_96_10 rfl ?_
    refine ev_putf d_96_26 fl_7_81 (ltk (by decide) hN) rfl rfl (Or.inl rfl) ?_
    refine ev_aload_n d_96_29 rfl ?_
    refine ev_getf (v := .int (1 : Int32)) d_96_30 fl_7_81 (ltk (by decide) hN) rfl rfl ?_
    refine ev_ifF (tgt := 37) d_96_33 rfl (show ¬ ((1 : Int32) ≤ (0 : Int32)) by decide) ?_
    exact ev_vret d_96_36 rfl
def sp_m_off (a0 : Int32) (σ : mmS) : Int32 × mmS :=
if (sp_m_out a0 (4 : Int32) (mmI σ 42 0 (0 : Int32))) = 0 then
  ((σ.1 44 a0.toNatClampNeg), (mmI (mmI σ 42 0 (0 : Int32)) 44 a0.toNatClampNeg (0 : Int32)))
else
  ((sp_m_fail (1 : Int32) (mmI σ 42 0 (0 : Int32))).1, (sp_m_fail (1 : Int32) (mmI σ 42 0 (0 : Int32))).2)
theorem ev_m_off (hN : 65 ≤ N) (a0 : Int32) (σ : mmS) : Ev N L xs (100, 0, lv_args 0 [.ref 42, .int a0], [], 0, σ) (mmSI (sp_m_off a0 σ)) := by
  unfold sp_m_off
  show Ev N L xs (100, 0, [(0, .ref 42), (1, .int a0)], [], 0, σ) _
  refine ev_aload_n d_100_0 rfl ?_
  refine ev_iconst d_100_1 ci_0 ?_
  refine ev_putf d_100_2 fl_7_81 (ltk (by decide) hN) rfl rfl (Or.inl rfl) ?_
  refine ev_iload_n d_100_5 rfl ?_
  refine ev_iconst d_100_6 ci_4 ?_
  refine ev_csI (As := [.int a0, .int (4 : Int32)]) (t := []) (e' := 0) d_100_7 ml_7_197 rfl rfl rfl rfl rfl (by decide) rfl rfl (ev_m_out hN a0 (4 : Int32) (mmI σ 42 0 (0 : Int32))) ?_
  refine ev_if_eq mmSI (tgt := 19) d_100_10 rfl (fun _h10 => ?_) (fun _h10 => ?_)
  · refine ev_aload_n d_100_19 rfl ?_
    refine ev_getf (v := .ref 44) d_100_20 fl_7_13 (ltk (by decide) hN) rfl rfl ?_
    refine ev_iload_n d_100_23 rfl ?_
    refine ev_iald (i := a0.toNatClampNeg) d_100_24 (ltk (by decide) hN) rfl (by first | assumption | (apply mo_of; assumption)) rfl ?_
    show Ev N L xs (100, 25, [(0, .ref 42), (1, .int a0)], [.int (σ.1 44 a0.toNatClampNeg)], 0, (mmI σ 42 0 (0 : Int32))) _
    refine ev_istore_n (lv' := [(2, .int (σ.1 44 a0.toNatClampNeg)), (0, .ref 42), (1, .int a0)]) d_100_25 (by decide) rfl ?_
    refine ev_aload_n d_100_26 rfl ?_
    refine ev_getf (v := .ref 44) d_100_27 fl_7_13 (ltk (by decide) hN) rfl rfl ?_
    refine ev_iload_n d_100_30 rfl ?_
    refine ev_iconst d_100_31 ci_0 ?_
    refine ev_iastore (i := a0.toNatClampNeg) d_100_32 (ltk (by decide) hN) rfl (by first | assumption | (apply mo_of; assumption)) rfl ?_
    refine ev_iload_n d_100_33 rfl ?_
    exact ev_iret d_100_34 rfl
  · refine ev_aload_n d_100_13 rfl ?_
    refine ev_iconst d_100_14 ci_1 ?_
    refine ev_cvI (As := [.int (1 : Int32)]) (t := []) (e' := 0) d_100_15 ml_7_201 rfl rfl rfl rfl rfl (by decide) rfl (ltk (by decide) hN) rfl rfl rfl (ev_m_fail hN (1 : Int32) (mmI σ 42 0 (0 : Int32))) ?_
    exact ev_iret d_100_18 rfl
def sp_m_value (a0 : Int32) (a1 : Int32) (σ : mmS) : mmS :=
if (sp_m_out a0 (4 : Int32) σ) = 0 then
  if (sp_m_out a1 (1024 : Int32) σ) = 0 then
    if (σ.1 44 a0.toNatClampNeg) = 0 then
      (mmI σ 42 0 (2 : Int32))
    else
      (mmI (mmI σ 42 0 (0 : Int32)) 59 a0.toNatClampNeg a1)
  else
    (mmI σ 42 0 (1 : Int32))
else
  (mmI σ 42 0 (1 : Int32))
theorem ev_m_value (hN : 65 ≤ N) (a0 : Int32) (a1 : Int32) (σ : mmS) : Ev N L xs (120, 0, lv_args 0 [.ref 42, .int a0, .int a1], [], 0, σ) (mmSV (sp_m_value a0 a1 σ)) := by
  unfold sp_m_value
  show Ev N L xs (120, 0, [(0, .ref 42), (1, .int a0), (2, .int a1)], [], 0, σ) _
  refine ev_aload_n d_120_0 rfl ?_
  refine ev_iload_n d_120_1 rfl ?_
  refine ev_iconst d_120_2 ci_4 ?_
  refine ev_csI (As := [.int a0, .int (4 : Int32)]) (t := [.ref 42]) (e' := 0) d_120_3 ml_7_197 rfl rfl rfl rfl rfl (by decide) rfl rfl (ev_m_out hN a0 (4 : Int32) σ) ?_
  refine ev_if_ne mmSV (tgt := 19) d_120_6 rfl (fun _h6 => ?_) (fun _h6 => ?_)
  · refine ev_iconst d_120_19 ci_1 ?_
    refine ev_goto (tgt := 37) d_120_20 rfl ?_
    refine ev_putf d_120_37 fl_7_81 (ltk (by decide) hN) rfl rfl (Or.inl rfl) ?_
    refine ev_aload_n d_120_40 rfl ?_
    refine ev_getf (v := .int (1 : Int32)) d_120_41 fl_7_81 (ltk (by decide) hN) rfl rfl ?_
    refine ev_ifT (tgt := 54) d_120_44 rfl (show ¬ (1 : Int32) = (0 : Int32) by decide) ?_
    exact ev_vret d_120_54 rfl
  · refine ev_iload_n d_120_9 rfl ?_
    refine ev_sipush d_120_10 cs_1024 ?_
    refine ev_csI (As := [.int a1, .int (1024 : Int32)]) (t := [.ref 42]) (e' := 0) d_120_13 ml_7_197 rfl rfl rfl rfl rfl (by decide) rfl rfl (ev_m_out hN a1 (1024 : Int32) σ) ?_
    refine ev_if_eq mmSV (tgt := 23) d_120_16 rfl (fun _h16 => ?_) (fun _h16 => ?_)
    · refine ev_aload_n d_120_23 rfl ?_
      refine ev_getf (v := .ref 44) d_120_24 fl_7_13 (ltk (by decide) hN) rfl rfl ?_
      refine ev_iload_n d_120_27 rfl ?_
      refine ev_iald (i := a0.toNatClampNeg) d_120_28 (ltk (by decide) hN) rfl (by first | assumption | (apply mo_of; assumption)) rfl ?_
      refine ev_if_ne mmSV (tgt := 36) d_120_29 rfl (fun _h29 => ?_) (fun _h29 => ?_)
      · refine ev_iconst d_120_36 ci_0 ?_
        refine ev_putf d_120_37 fl_7_81 (ltk (by decide) hN) rfl rfl (Or.inl rfl) ?_
        refine ev_aload_n d_120_40 rfl ?_
        refine ev_getf (v := .int (0 : Int32)) d_120_41 fl_7_81 (ltk (by decide) hN) rfl rfl ?_
        refine ev_ifF (tgt := 54) d_120_44 rfl (show ¬ (¬ (0 : Int32) = (0 : Int32)) by decide) ?_
        refine ev_aload_n d_120_47 rfl ?_
        refine ev_getf (v := .ref 59) d_120_48 fl_7_59 (ltk (by decide) hN) rfl rfl ?_
        refine ev_iload_n d_120_51 rfl ?_
        refine ev_iload_n d_120_52 rfl ?_
        refine ev_iastore (i := a0.toNatClampNeg) d_120_53 (ltk (by decide) hN) rfl (by first | assumption | (apply mo_of; assumption)) rfl ?_
        exact ev_vret d_120_54 rfl
      · refine ev_iconst d_120_32 ci_2 ?_
        refine ev_goto (tgt := 37) d_120_33 rfl ?_
        refine ev_putf d_120_37 fl_7_81 (ltk (by decide) hN) rfl rfl (Or.inl rfl) ?_
        refine ev_aload_n d_120_40 rfl ?_
        refine ev_getf (v := .int (2 : Int32)) d_120_41 fl_7_81 (ltk (by decide) hN) rfl rfl ?_
        refine ev_ifT (tgt := 54) d_120_44 rfl (show ¬ (2 : Int32) = (0 : Int32) by decide) ?_
        exact ev_vret d_120_54 rfl
    · refine ev_iconst d_120_19 ci_1 ?_
      refine ev_goto (tgt := 37) d_120_20 rfl ?_
      refine ev_putf d_120_37 fl_7_81 (ltk (by decide) hN) rfl rfl (Or.inl rfl) ?_
      refine ev_aload_n d_120_40 rfl ?_
      refine ev_getf (v := .int (1 : Int32)) d_120_41 fl_7_81 (ltk (by decide) hN) rfl rfl ?_
      refine ev_ifT (tgt := 54) d_120_44 rfl (show ¬ (1 : Int32) = (0 : Int32) by decide) ?_
      exact ev_vret d_120_54 rfl
def sp_m_post (a0 : Int32) (a1 : Int32) (a2 : Int32) (a3 : Int32) (a4 : Int32) (σ : mmS) : mmS :=
if (sp_m_out a0 (4 : Int32) σ) = 0 then
  if a1 < (5 : Int32) then
    (mmI σ 42 0 (1 : Int32))
  else
    if (9 : Int32) < a1 then
      (mmI σ 42 0 (1 : Int32))
    else
      if (sp_m_out a2 (1024 : Int32) σ) = 0 then
        if a4 = (1 : Int32) then
          if (sp_m_out a3 a4 σ) = 0 then
            if (σ.1 44 a0.toNatClampNeg) = 0 then
              (mmI σ 42 0 (2 : Int32))
            else
              if (σ.1 60 a0.toNatClampNeg) ≤ 0 then
                (mmI (mmI (mmI (mmI (mmI σ 42 0 (0 : Int32)) 60 a0.toNatClampNeg a1) 61 a0.toNatClampNeg a2) 62 a0.toNatClampNeg a3) 63 a0.toNatClampNeg a4)
              else
                (mmI σ 42 0 (2 : Int32))
          else
            (mmI σ 42 0 (1 : Int32))
        else
          if a4 = (2 : Int32) then
            if (sp_m_out a3 a4 σ) = 0 then
              if (σ.1 44 a0.toNatClampNeg) = 0 then
                (mmI σ 42 0 (2 : Int32))
              else
                if (σ.1 60 a0.toNatClampNeg) ≤ 0 then
                  (mmI (mmI (mmI (mmI (mmI σ 42 0 (0 : Int32)) 60 a0.toNatClampNeg a1) 61 a0.toNatClampNeg a2) 62 a0.toNatClampNeg a3) 63 a0.toNatClampNeg a4)
                else
                  (mmI σ 42 0 (2 : Int32))
            else
              (mmI σ 42 0 (1 : Int32))
          else
            if a4 = (4 : Int32) then
              if (sp_m_out a3 a4 σ) = 0 then
                if (σ.1 44 a0.toNatClampNeg) = 0 then
                  (mmI σ 42 0 (2 : Int32))
                else
                  if (σ.1 60 a0.toNatClampNeg) ≤ 0 then
                    (mmI (mmI (mmI (mmI (mmI σ 42 0 (0 : Int32)) 60 a0.toNatClampNeg a1) 61 a0.toNatClampNeg a2) 62 a0.toNatClampNeg a3) 63 a0.toNatClampNeg a4)
                  else
                    (mmI σ 42 0 (2 : Int32))
              else
                (mmI σ 42 0 (1 : Int32))
            else
              (mmI σ 42 0 (1 : Int32))
      else
        (mmI σ 42 0 (1 : Int32))
else
  (mmI σ 42 0 (1 : Int32))
theorem ev_m_post (hN : 65 ≤ N) (a0 : Int32) (a1 : Int32) (a2 : Int32) (a3 : Int32) (a4 : Int32) (σ : mmS) : Ev N L xs (121, 0, lv_args 0 [.ref 42, .int a0, .int a1, .int a2, .int a3, .int a4], [], 0, σ) (mmSV (sp_m_post a0 a1 a2 a3 a4 σ)) := by
  unfold sp_m_post
  show Ev N L xs (121, 0, [(0, .ref 42), (1, .int a0), (2, .int a1), (3, .int a2), (4, .int a3), (5, .int a4)], [], 0, σ) _
  refine ev_iload_n d_121_0 rfl ?_
  refine ev_iconst d_121_1 ci_4 ?_
  refine ev_csI (As := [.int a0, .int (4 : Int32)]) (t := []) (e' := 0) d_121_2 ml_7_197 rfl rfl rfl rfl rfl (by decide) rfl rfl (ev_m_out hN a0 (4 : Int32) σ) ?_
  refine ev_if_ne mmSV (tgt := 51) d_121_5 rfl (fun _h5 => ?_) (fun _h5 => ?_)
  · refine ev_iconst d_121_51 ci_0 ?_
    refine ev_istore (lv' := [(6, .int (0 : Int32)), (0, .ref 42), (1, .int a0), (2, .int a1), (3, .int a2), (4, .int a3), (5, .int a4)]) d_121_52 (by decide) rfl ?_
    refine ev_aload_n d_121_54 rfl ?_
    refine ev_iload d_121_55 rfl ?_
    refine ev_ifT (tgt := 70) d_121_57 rfl (show (0 : Int32) = (0 : Int32) by decide) ?_
    refine ev_iconst d_121_70 ci_1 ?_
    refine ev_goto (tgt := 97) d_121_71 rfl ?_
    refine ev_putf d_121_97 fl_7_81 (ltk (by decide) hN) rfl rfl (Or.inl rfl) ?_
    refine ev_aload_n d_121_100 rfl ?_
    refine ev_getf (v := .int (1 : Int32)) d_121_101 fl_7_81 (ltk (by decide) hN) rfl rfl ?_
    refine ev_ifF (tgt := 108) d_121_104 rfl (show ¬ ((1 : Int32) ≤ (0 : Int32)) by decide) ?_
    exact ev_vret d_121_107 rfl
  · refine ev_iload_n d_121_8 rfl ?_
    refine ev_iconst d_121_9 ci_5 ?_
    refine ev_icmp_lt mmSV (tgt := 51) d_121_10 rfl (fun _h10 => ?_) (fun _h10 => ?_)
    · refine ev_iconst d_121_51 ci_0 ?_
      refine ev_istore (lv' := [(6, .int (0 : Int32)), (0, .ref 42), (1, .int a0), (2, .int a1), (3, .int a2), (4, .int a3), (5, .int a4)]) d_121_52 (by decide) rfl ?_
      refine ev_aload_n d_121_54 rfl ?_
      refine ev_iload d_121_55 rfl ?_
      refine ev_ifT (tgt := 70) d_121_57 rfl (show (0 : Int32) = (0 : Int32) by decide) ?_
      refine ev_iconst d_121_70 ci_1 ?_
      refine ev_goto (tgt := 97) d_121_71 rfl ?_
      refine ev_putf d_121_97 fl_7_81 (ltk (by decide) hN) rfl rfl (Or.inl rfl) ?_
      refine ev_aload_n d_121_100 rfl ?_
      refine ev_getf (v := .int (1 : Int32)) d_121_101 fl_7_81 (ltk (by decide) hN) rfl rfl ?_
      refine ev_ifF (tgt := 108) d_121_104 rfl (show ¬ ((1 : Int32) ≤ (0 : Int32)) by decide) ?_
      exact ev_vret d_121_107 rfl
    · refine ev_iload_n d_121_13 rfl ?_
      refine ev_bipush d_121_14 cb_9 ?_
      refine ev_icmp_gt mmSV (tgt := 51) d_121_16 rfl (fun _h16 => ?_) (fun _h16 => ?_)
      · refine ev_iconst d_121_51 ci_0 ?_
        refine ev_istore (lv' := [(6, .int (0 : Int32)), (0, .ref 42), (1, .int a0), (2, .int a1), (3, .int a2), (4, .int a3), (5, .int a4)]) d_121_52 (by decide) rfl ?_
        refine ev_aload_n d_121_54 rfl ?_
        refine ev_iload d_121_55 rfl ?_
        refine ev_ifT (tgt := 70) d_121_57 rfl (show (0 : Int32) = (0 : Int32) by decide) ?_
        refine ev_iconst d_121_70 ci_1 ?_
        refine ev_goto (tgt := 97) d_121_71 rfl ?_
        refine ev_putf d_121_97 fl_7_81 (ltk (by decide) hN) rfl rfl (Or.inl rfl) ?_
        refine ev_aload_n d_121_100 rfl ?_
        refine ev_getf (v := .int (1 : Int32)) d_121_101 fl_7_81 (ltk (by decide) hN) rfl rfl ?_
        refine ev_ifF (tgt := 108) d_121_104 rfl (show ¬ ((1 : Int32) ≤ (0 : Int32)) by decide) ?_
        exact ev_vret d_121_107 rfl
      · refine ev_iload_n d_121_19 rfl ?_
        refine ev_sipush d_121_20 cs_1024 ?_
        refine ev_csI (As := [.int a2, .int (1024 : Int32)]) (t := []) (e' := 0) d_121_23 ml_7_197 rfl rfl rfl rfl rfl (by decide) rfl rfl (ev_m_out hN a2 (1024 : Int32) σ) ?_
        refine ev_if_ne mmSV (tgt := 51) d_121_26 rfl (fun _h26 => ?_) (fun _h26 => ?_)
        · refine ev_iconst d_121_51 ci_0 ?_
          refine ev_istore (lv' := [(6, .int (0 : Int32)), (0, .ref 42), (1, .int a0), (2, .int a1), (3, .int a2), (4, .int a3), (5, .int a4)]) d_121_52 (by decide) rfl ?_
          refine ev_aload_n d_121_54 rfl ?_
          refine ev_iload d_121_55 rfl ?_
          refine ev_ifT (tgt := 70) d_121_57 rfl (show (0 : Int32) = (0 : Int32) by decide) ?_
          refine ev_iconst d_121_70 ci_1 ?_
          refine ev_goto (tgt := 97) d_121_71 rfl ?_
          refine ev_putf d_121_97 fl_7_81 (ltk (by decide) hN) rfl rfl (Or.inl rfl) ?_
          refine ev_aload_n d_121_100 rfl ?_
          refine ev_getf (v := .int (1 : Int32)) d_121_101 fl_7_81 (ltk (by decide) hN) rfl rfl ?_
          refine ev_ifF (tgt := 108) d_121_104 rfl (show ¬ ((1 : Int32) ≤ (0 : Int32)) by decide) ?_
          exact ev_vret d_121_107 rfl
        · refine ev_iload d_121_29 rfl ?_
          refine ev_iconst d_121_31 ci_1 ?_
          refine ev_icmp_eq mmSV (tgt := 47) d_121_32 rfl (fun _h32 => ?_) (fun _h32 => ?_)
          · refine ev_iconst d_121_47 ci_1 ?_
            refine ev_goto (tgt := 52) d_121_48 rfl ?_
            refine ev_istore (lv' := [(6, .int (1 : Int32)), (0, .ref 42), (1, .int a0), (2, .int a1), (3, .int a2), (4, .int a3), (5, .int a4)]) d_121_52 (by decide) rfl ?_
            refine ev_aload_n d_121_54 rfl ?_
            refine ev_iload d_121_55 rfl ?_
            refine ev_ifF (tgt := 70) d_121_57 rfl (show ¬ ((1 : Int32) = (0 : Int32)) by decide) ?_
            refine ev_iload d_121_60 rfl ?_
            refine ev_iload d_121_62 rfl ?_
            refine ev_csI (As := [.int a3, .int a4]) (t := [.ref 42]) (e' := 0) d_121_64 ml_7_197 rfl rfl rfl rfl rfl (by decide) rfl rfl (ev_m_out hN a3 a4 σ) ?_
            refine ev_if_eq mmSV (tgt := 74) d_121_67 rfl (fun _h67 => ?_) (fun _h67 => ?_)
            · refine ev_aload_n d_121_74 rfl ?_
              refine ev_getf (v := .ref 44) d_121_75 fl_7_13 (ltk (by decide) hN) rfl rfl ?_
              refine ev_iload_n d_121_78 rfl ?_
              refine ev_iald (i := a0.toNatClampNeg) d_121_79 (ltk (by decide) hN) rfl (by first | assumption | (apply mo_of; assumption)) rfl ?_
              refine ev_if_eq mmSV (tgt := 92) d_121_80 rfl (fun _h80 => ?_) (fun _h80 => ?_)
              · refine ev_iconst d_121_92 ci_2 ?_
                refine ev_goto (tgt := 97) d_121_93 rfl ?_
                refine ev_putf d_121_97 fl_7_81 (ltk (by decide) hN) rfl rfl (Or.inl rfl) ?_
                refine ev_aload_n d_121_100 rfl ?_
                refine ev_getf (v := .int (2 : Int32)) d_121_101 fl_7_81 (ltk (by decide) hN) rfl rfl ?_
                refine ev_ifF (tgt := 108) d_121_104 rfl (show ¬ ((2 : Int32) ≤ (0 : Int32)) by decide) ?_
                exact ev_vret d_121_107 rfl
              · refine ev_aload_n d_121_83 rfl ?_
                refine ev_getf (v := .ref 60) d_121_84 fl_7_62 (ltk (by decide) hN) rfl rfl ?_
                refine ev_iload_n d_121_87 rfl ?_
                refine ev_iald (i := a0.toNatClampNeg) d_121_88 (ltk (by decide) hN) rfl (by first | assumption | (apply mo_of; assumption)) rfl ?_
                refine ev_if_le mmSV (tgt := 96) d_121_89 rfl (fun _h89 => ?_) (fun _h89 => ?_)
                · refine ev_iconst d_121_96 ci_0 ?_
                  refine ev_putf d_121_97 fl_7_81 (ltk (by decide) hN) rfl rfl (Or.inl rfl) ?_
                  refine ev_aload_n d_121_100 rfl ?_
                  refine ev_getf (v := .int (0 : Int32)) d_121_101 fl_7_81 (ltk (by decide) hN) rfl rfl ?_
                  refine ev_ifT (tgt := 108) d_121_104 rfl (show (0 : Int32) ≤ (0 : Int32) by decide) ?_
                  refine ev_aload_n d_121_108 rfl ?_
                  refine ev_getf (v := .ref 60) d_121_109 fl_7_62 (ltk (by decide) hN) rfl rfl ?_
                  refine ev_iload_n d_121_112 rfl ?_
                  refine ev_iload_n d_121_113 rfl ?_
                  refine ev_iastore (i := a0.toNatClampNeg) d_121_114 (ltk (by decide) hN) rfl (by first | assumption | (apply mo_of; assumption)) rfl ?_
                  refine ev_aload_n d_121_115 rfl ?_
                  refine ev_getf (v := .ref 61) d_121_116 fl_7_65 (ltk (by decide) hN) rfl rfl ?_
                  refine ev_iload_n d_121_119 rfl ?_
                  refine ev_iload_n d_121_120 rfl ?_
                  refine ev_iastore (i := a0.toNatClampNeg) d_121_121 (ltk (by decide) hN) rfl (by first | assumption | (apply mo_of; assumption)) rfl ?_
                  refine ev_aload_n d_121_122 rfl ?_
                  refine ev_getf (v := .ref 62) d_121_123 fl_7_68 (ltk (by decide) hN) rfl rfl ?_
                  refine ev_iload_n d_121_126 rfl ?_
                  refine ev_iload d_121_127 rfl ?_
                  refine ev_iastore (i := a0.toNatClampNeg) d_121_129 (ltk (by decide) hN) rfl (by first | assumption | (apply mo_of; assumption)) rfl ?_
                  refine ev_aload_n d_121_130 rfl ?_
                  refine ev_getf (v := .ref 63) d_121_131 fl_7_71 (ltk (by decide) hN) rfl rfl ?_
                  refine ev_iload_n d_121_134 rfl ?_
                  refine ev_iload d_121_135 rfl ?_
                  refine ev_iastore (i := a0.toNatClampNeg) d_121_137 (ltk (by decide) hN) rfl (by first | assumption | (apply mo_of; assumption)) rfl ?_
                  exact ev_vret d_121_138 rfl
                · refine ev_iconst d_121_92 ci_2 ?_
                  refine ev_goto (tgt := 97) d_121_93 rfl ?_
                  refine ev_putf d_121_97 fl_7_81 (ltk (by decide) hN) rfl rfl (Or.inl rfl) ?_
                  refine ev_aload_n d_121_100 rfl ?_
                  refine ev_getf (v := .int (2 : Int32)) d_121_101 fl_7_81 (ltk (by decide) hN) rfl rfl ?_
                  refine ev_ifF (tgt := 108) d_121_104 rfl (show ¬ ((2 : Int32) ≤ (0 : Int32)) by decide) ?_
                  exact ev_vret d_121_107 rfl
            · refine ev_iconst d_121_70 ci_1 ?_
              refine ev_goto (tgt := 97) d_121_71 rfl ?_
              refine ev_putf d_121_97 fl_7_81 (ltk (by decide) hN) rfl rfl (Or.inl rfl) ?_
              refine ev_aload_n d_121_100 rfl ?_
              refine ev_getf (v := .int (1 : Int32)) d_121_101 fl_7_81 (ltk (by decide) hN) rfl rfl ?_
              refine ev_ifF (tgt := 108) d_121_104 rfl (show ¬ ((1 : Int32) ≤ (0 : Int32)) by decide) ?_
              exact ev_vret d_121_107 rfl
          · refine ev_iload d_121_35 rfl ?_
            refine ev_iconst d_121_37 ci_2 ?_
            refine ev_icmp_eq mmSV (tgt := 47) d_121_38 rfl (fun _h38 => ?_) (fun _h38 => ?_)
            · refine ev_iconst d_121_47 ci_1 ?_
              refine ev_goto (tgt := 52) d_121_48 rfl ?_
              refine ev_istore (lv' := [(6, .int (1 : Int32)), (0, .ref 42), (1, .int a0), (2, .int a1), (3, .int a2), (4, .int a3), (5, .int a4)]) d_121_52 (by decide) rfl ?_
              refine ev_aload_n d_121_54 rfl ?_
              refine ev_iload d_121_55 rfl ?_
              refine ev_ifF (tgt := 70) d_121_57 rfl (show ¬ ((1 : Int32) = (0 : Int32)) by decide) ?_
              refine ev_iload d_121_60 rfl ?_
              refine ev_iload d_121_62 rfl ?_
              refine ev_csI (As := [.int a3, .int a4]) (t := [.ref 42]) (e' := 0) d_121_64 ml_7_197 rfl rfl rfl rfl rfl (by decide) rfl rfl (ev_m_out hN a3 a4 σ) ?_
              refine ev_if_eq mmSV (tgt := 74) d_121_67 rfl (fun _h67 => ?_) (fun _h67 => ?_)
              · refine ev_aload_n d_121_74 rfl ?_
                refine ev_getf (v := .ref 44) d_121_75 fl_7_13 (ltk (by decide) hN) rfl rfl ?_
                refine ev_iload_n d_121_78 rfl ?_
                refine ev_iald (i := a0.toNatClampNeg) d_121_79 (ltk (by decide) hN) rfl (by first | assumption | (apply mo_of; assumption)) rfl ?_
                refine ev_if_eq mmSV (tgt := 92) d_121_80 rfl (fun _h80 => ?_) (fun _h80 => ?_)
                · refine ev_iconst d_121_92 ci_2 ?_
                  refine ev_goto (tgt := 97) d_121_93 rfl ?_
                  refine ev_putf d_121_97 fl_7_81 (ltk (by decide) hN) rfl rfl (Or.inl rfl) ?_
                  refine ev_aload_n d_121_100 rfl ?_
                  refine ev_getf (v := .int (2 : Int32)) d_121_101 fl_7_81 (ltk (by decide) hN) rfl rfl ?_
                  refine ev_ifF (tgt := 108) d_121_104 rfl (show ¬ ((2 : Int32) ≤ (0 : Int32)) by decide) ?_
                  exact ev_vret d_121_107 rfl
                · refine ev_aload_n d_121_83 rfl ?_
                  refine ev_getf (v := .ref 60) d_121_84 fl_7_62 (ltk (by decide) hN) rfl rfl ?_
                  refine ev_iload_n d_121_87 rfl ?_
                  refine ev_iald (i := a0.toNatClampNeg) d_121_88 (ltk (by decide) hN) rfl (by first | assumption | (apply mo_of; assumption)) rfl ?_
                  refine ev_if_le mmSV (tgt := 96) d_121_89 rfl (fun _h89 => ?_) (fun _h89 => ?_)
                  · refine ev_iconst d_121_96 ci_0 ?_
                    refine ev_putf d_121_97 fl_7_81 (ltk (by decide) hN) rfl rfl (Or.inl rfl) ?_
                    refine ev_aload_n d_121_100 rfl ?_
                    refine ev_getf (v := .int (0 : Int32)) d_121_101 fl_7_81 (ltk (by decide) hN) rfl rfl ?_
                    refine ev_ifT (tgt := 108) d_121_104 rfl (show (0 : Int32) ≤ (0 : Int32) by decide) ?_
                    refine ev_aload_n d_121_108 rfl ?_
                    refine ev_getf (v := .ref 60) d_121_109 fl_7_62 (ltk (by decide) hN) rfl rfl ?_
                    refine ev_iload_n d_121_112 rfl ?_
                    refine ev_iload_n d_121_113 rfl ?_
                    refine ev_iastore (i := a0.toNatClampNeg) d_121_114 (ltk (by decide) hN) rfl (by first | assumption | (apply mo_of; assumption)) rfl ?_
                    refine ev_aload_n d_121_115 rfl ?_
                    refine ev_getf (v := .ref 61) d_121_116 fl_7_65 (ltk (by decide) hN) rfl rfl ?_
                    refine ev_iload_n d_121_119 rfl ?_
                    refine ev_iload_n d_121_120 rfl ?_
                    refine ev_iastore (i := a0.toNatClampNeg) d_121_121 (ltk (by decide) hN) rfl (by first | assumption | (apply mo_of; assumption)) rfl ?_
                    refine ev_aload_n d_121_122 rfl ?_
                    refine ev_getf (v := .ref 62) d_121_123 fl_7_68 (ltk (by decide) hN) rfl rfl ?_
                    refine ev_iload_n d_121_126 rfl ?_
                    refine ev_iload d_121_127 rfl ?_
                    refine ev_iastore (i := a0.toNatClampNeg) d_121_129 (ltk (by decide) hN) rfl (by first | assumption | (apply mo_of; assumption)) rfl ?_
                    refine ev_aload_n d_121_130 rfl ?_
                    refine ev_getf (v := .ref 63) d_121_131 fl_7_71 (ltk (by decide) hN) rfl rfl ?_
                    refine ev_iload_n d_121_134 rfl ?_
                    refine ev_iload d_121_135 rfl ?_
                    refine ev_iastore (i := a0.toNatClampNeg) d_121_137 (ltk (by decide) hN) rfl (by first | assumption | (apply mo_of; assumption)) rfl ?_
                    exact ev_vret d_121_138 rfl
                  · refine ev_iconst d_121_92 ci_2 ?_
                    refine ev_goto (tgt := 97) d_121_93 rfl ?_
                    refine ev_putf d_121_97 fl_7_81 (ltk (by decide) hN) rfl rfl (Or.inl rfl) ?_
                    refine ev_aload_n d_121_100 rfl ?_
                    refine ev_getf (v := .int (2 : Int32)) d_121_101 fl_7_81 (ltk (by decide) hN) rfl rfl ?_
                    refine ev_ifF (tgt := 108) d_121_104 rfl (show ¬ ((2 : Int32) ≤ (0 : Int32)) by decide) ?_
                    exact ev_vret d_121_107 rfl
              · refine ev_iconst d_121_70 ci_1 ?_
                refine ev_goto (tgt := 97) d_121_71 rfl ?_
                refine ev_putf d_121_97 fl_7_81 (ltk (by decide) hN) rfl rfl (Or.inl rfl) ?_
                refine ev_aload_n d_121_100 rfl ?_
                refine ev_getf (v := .int (1 : Int32)) d_121_101 fl_7_81 (ltk (by decide) hN) rfl rfl ?_
                refine ev_ifF (tgt := 108) d_121_104 rfl (show ¬ ((1 : Int32) ≤ (0 : Int32)) by decide) ?_
                exact ev_vret d_121_107 rfl
            · refine ev_iload d_121_41 rfl ?_
              refine ev_iconst d_121_43 ci_4 ?_
              refine ev_icmp_ne mmSV (tgt := 51) d_121_44 rfl (fun _h44 => ?_) (fun _h44 => ?_)
              · refine ev_iconst d_121_51 ci_0 ?_
                refine ev_istore (lv' := [(6, .int (0 : Int32)), (0, .ref 42), (1, .int a0), (2, .int a1), (3, .int a2), (4, .int a3), (5, .int a4)]) d_121_52 (by decide) rfl ?_
                refine ev_aload_n d_121_54 rfl ?_
                refine ev_iload d_121_55 rfl ?_
                refine ev_ifT (tgt := 70) d_121_57 rfl (show (0 : Int32) = (0 : Int32) by decide) ?_
                refine ev_iconst d_121_70 ci_1 ?_
                refine ev_goto (tgt := 97) d_121_71 rfl ?_
                refine ev_putf d_121_97 fl_7_81 (ltk (by decide) hN) rfl rfl (Or.inl rfl) ?_
                refine ev_aload_n d_121_100 rfl ?_
                refine ev_getf (v := .int (1 : Int32)) d_121_101 fl_7_81 (ltk (by decide) hN) rfl rfl ?_
                refine ev_ifF (tgt := 108) d_121_104 rfl (show ¬ ((1 : Int32) ≤ (0 : Int32)) by decide) ?_
                exact ev_vret d_121_107 rfl
              · refine ev_iconst d_121_47 ci_1 ?_
                refine ev_goto (tgt := 52) d_121_48 rfl ?_
                refine ev_istore (lv' := [(6, .int (1 : Int32)), (0, .ref 42), (1, .int a0), (2, .int a1), (3, .int a2), (4, .int a3), (5, .int a4)]) d_121_52 (by decide) rfl ?_
                refine ev_aload_n d_121_54 rfl ?_
                refine ev_iload d_121_55 rfl ?_
                refine ev_ifF (tgt := 70) d_121_57 rfl (show ¬ ((1 : Int32) = (0 : Int32)) by decide) ?_
                refine ev_iload d_121_60 rfl ?_
                refine ev_iload d_121_62 rfl ?_
                refine ev_csI (As := [.int a3, .int a4]) (t := [.ref 42]) (e' := 0) d_121_64 ml_7_197 rfl rfl rfl rfl rfl (by decide) rfl rfl (ev_m_out hN a3 a4 σ) ?_
                refine ev_if_eq mmSV (tgt := 74) d_121_67 rfl (fun _h67 => ?_) (fun _h67 => ?_)
                · refine ev_aload_n d_121_74 rfl ?_
                  refine ev_getf (v := .ref 44) d_121_75 fl_7_13 (ltk (by decide) hN) rfl rfl ?_
                  refine ev_iload_n d_121_78 rfl ?_
                  refine ev_iald (i := a0.toNatClampNeg) d_121_79 (ltk (by decide) hN) rfl (by first | assumption | (apply mo_of; assumption)) rfl ?_
                  refine ev_if_eq mmSV (tgt := 92) d_121_80 rfl (fun _h80 => ?_) (fun _h80 => ?_)
                  · refine ev_iconst d_121_92 ci_2 ?_
                    refine ev_goto (tgt := 97) d_121_93 rfl ?_
                    refine ev_putf d_121_97 fl_7_81 (ltk (by decide) hN) rfl rfl (Or.inl rfl) ?_
                    refine ev_aload_n d_121_100 rfl ?_
                    refine ev_getf (v := .int (2 : Int32)) d_121_101 fl_7_81 (ltk (by decide) hN) rfl rfl ?_
                    refine ev_ifF (tgt := 108) d_121_104 rfl (show ¬ ((2 : Int32) ≤ (0 : Int32)) by decide) ?_
                    exact ev_vret d_121_107 rfl
                  · refine ev_aload_n d_121_83 rfl ?_
                    refine ev_getf (v := .ref 60) d_121_84 fl_7_62 (ltk (by decide) hN) rfl rfl ?_
                    refine ev_iload_n d_121_87 rfl ?_
                    refine ev_iald (i := a0.toNatClampNeg) d_121_88 (ltk (by decide) hN) rfl (by first | assumption | (apply mo_of; assumption)) rfl ?_
                    refine ev_if_le mmSV (tgt := 96) d_121_89 rfl (fun _h89 => ?_) (fun _h89 => ?_)
                    · refine ev_iconst d_121_96 ci_0 ?_
                      refine ev_putf d_121_97 fl_7_81 (ltk (by decide) hN) rfl rfl (Or.inl rfl) ?_
                      refine ev_aload_n d_121_100 rfl ?_
                      refine ev_getf (v := .int (0 : Int32)) d_121_101 fl_7_81 (ltk (by decide) hN) rfl rfl ?_
                      refine ev_ifT (tgt := 108) d_121_104 rfl (show (0 : Int32) ≤ (0 : Int32) by decide) ?_
                      refine ev_aload_n d_121_108 rfl ?_
                      refine ev_getf (v := .ref 60) d_121_109 fl_7_62 (ltk (by decide) hN) rfl rfl ?_
                      refine ev_iload_n d_121_112 rfl ?_
                      refine ev_iload_n d_121_113 rfl ?_
                      refine ev_iastore (i := a0.toNatClampNeg) d_121_114 (ltk (by decide) hN) rfl (by first | assumption | (apply mo_of; assumption)) rfl ?_
                      refine ev_aload_n d_121_115 rfl ?_
                      refine ev_getf (v := .ref 61) d_121_116 fl_7_65 (ltk (by decide) hN) rfl rfl ?_
                      refine ev_iload_n d_121_119 rfl ?_
                      refine ev_iload_n d_121_120 rfl ?_
                      refine ev_iastore (i := a0.toNatClampNeg) d_121_121 (ltk (by decide) hN) rfl (by first | assumption | (apply mo_of; assumption)) rfl ?_
                      refine ev_aload_n d_121_122 rfl ?_
                      refine ev_getf (v := .ref 62) d_121_123 fl_7_68 (ltk (by decide) hN) rfl rfl ?_
                      refine ev_iload_n d_121_126 rfl ?_
                      refine ev_iload d_121_127 rfl ?_
                      refine ev_iastore (i := a0.toNatClampNeg) d_121_129 (ltk (by decide) hN) rfl (by first | assumption | (apply mo_of; assumption)) rfl ?_
                      refine ev_aload_n d_121_130 rfl ?_
                      refine ev_getf (v := .ref 63) d_121_131 fl_7_71 (ltk (by decide) hN) rfl rfl ?_
                      refine ev_iload_n d_121_134 rfl ?_
                      refine ev_iload d_121_135 rfl ?_
                      refine ev_iastore (i := a0.toNatClampNeg) d_121_137 (ltk (by decide) hN) rfl (by first | assumption | (apply mo_of; assumption)) rfl ?_
                      exact ev_vret d_121_138 rfl
                    · refine ev_iconst d_121_92 ci_2 ?_
                      refine ev_goto (tgt := 97) d_121_93 rfl ?_
                      refine ev_putf d_121_97 fl_7_81 (ltk (by decide) hN) rfl rfl (Or.inl rfl) ?_
                      refine ev_aload_n d_121_100 rfl ?_
                      refine ev_getf (v := .int (2 : Int32)) d_121_101 fl_7_81 (ltk (by decide) hN) rfl rfl ?_
                      refine ev_ifF (tgt := 108) d_121_104 rfl (show ¬ ((2 : Int32) ≤ (0 : Int32)) by decide) ?_
                      exact ev_vret d_121_107 rfl
                · refine ev_iconst d_121_70 ci_1 ?_
                  refine ev_goto (tgt := 97) d_121_71 rfl ?_
                  refine ev_putf d_121_97 fl_7_81 (ltk (by decide) hN) rfl rfl (Or.inl rfl) ?_
                  refine ev_aload_n d_121_100 rfl ?_
                  refine ev_getf (v := .int (1 : Int32)) d_121_101 fl_7_81 (ltk (by decide) hN) rfl rfl ?_
                  refine ev_ifF (tgt := 108) d_121_104 rfl (show ¬ ((1 : Int32) ≤ (0 : Int32)) by decide) ?_
                  exact ev_vret d_121_107 rfl
def sp_m_disturb (a0 : Int64) (σ : mmS) : mmS :=
if (lg_cmp a0 (0 : Int64)) < 0 then
  (mmI σ 42 0 (1 : Int32))
else
  if (lg_cmp a0 (144115188075855872 : Int64)) < 0 then
    (mmJ (mmI σ 42 0 (0 : Int32)) 42 26 (((mmI σ 42 0 (0 : Int32)).2 42 26) ^^^ a0))
  else
    (mmI σ 42 0 (1 : Int32))
theorem ev_m_disturb (hN : 65 ≤ N) (a0 : Int64) (σ : mmS) : Ev N L xs (122, 0, lv_args 0 [.ref 42, .long a0], [], 0, σ) (mmSV (sp_m_disturb a0 σ)) := by
  unfold sp_m_disturb
  show Ev N L xs (122, 0, [(0, .ref 42), (1, .long a0)], [], 0, σ) _
  refine ev_aload_n d_122_0 rfl ?_
  refine ev_lload_n d_122_1 rfl ?_
  refine ev_lconst d_122_2 rfl ?_
  refine ev_lcmp d_122_3 ?_
  refine ev_if_lt mmSV (tgt := 15) d_122_4 rfl (fun _h4 => ?_) (fun _h4 => ?_)
  · refine ev_iconst d_122_15 ci_1 ?_
    refine ev_goto (tgt := 20) d_122_16 rfl ?_
    refine ev_putf d_122_20 fl_7_81 (ltk (by decide) hN) rfl rfl (Or.inl rfl) ?_
    refine ev_aload_n d_122_23 rfl ?_
    refine ev_getf (v := .int (1 : Int32)) d_122_24 fl_7_81 (ltk (by decide) hN) rfl rfl ?_
    refine ev_ifT (tgt := 40) d_122_27 rfl (show ¬ (1 : Int32) = (0 : Int32) by decide) ?_
    exact ev_vret d_122_40 rfl
  · refine ev_lload_n d_122_7 rfl ?_
    refine ev_ldc2 d_122_8 kl_7_101 ?_
    refine ev_lcmp d_122_11 ?_
    refine ev_if_lt mmSV (tgt := 19) d_122_12 rfl (fun _h12 => ?_) (fun _h12 => ?_)
    · refine ev_iconst d_122_19 ci_0 ?_
      refine ev_putf d_122_20 fl_7_81 (ltk (by decide) hN) rfl rfl (Or.inl rfl) ?_
      refine ev_aload_n d_122_23 rfl ?_
      refine ev_getf (v := .int (0 : Int32)) d_122_24 fl_7_81 (ltk (by decide) hN) rfl rfl ?_
      refine ev_ifF (tgt := 40) d_122_27 rfl (show ¬ (¬ (0 : Int32) = (0 : Int32)) by decide) ?_
      refine ev_aload_n d_122_30 rfl ?_
      refine ev_aload_n d_122_31 rfl ?_
      refine ev_getf (v := .long ((mmI σ 42 0 (0 : Int32)).2 42 26)) d_122_32 fl_7_180 (ltk (by decide) hN) rfl rfl ?_
      refine ev_lload_n d_122_35 rfl ?_
      refine ev_lxor (v := (((mmI σ 42 0 (0 : Int32)).2 42 26) ^^^ a0)) d_122_36 rfl ?_
      refine ev_putl d_122_37 fl_7_180 (ltk (by decide) hN) rfl rfl rfl ?_
      exact ev_vret d_122_40 rfl
    · refine ev_iconst d_122_15 ci_1 ?_
      refine ev_goto (tgt := 20) d_122_16 rfl ?_
      refine ev_putf d_122_20 fl_7_81 (ltk (by decide) hN) rfl rfl (Or.inl rfl) ?_
      refine ev_aload_n d_122_23 rfl ?_
      refine ev_getf (v := .int (1 : Int32)) d_122_24 fl_7_81 (ltk (by decide) hN) rfl rfl ?_
      refine ev_ifT (tgt := 40) d_122_27 rfl (show ¬ (1 : Int32) = (0 : Int32) by decide) ?_
      exact ev_vret d_122_40 rfl
def sp_m_lose (a0 : Int32) (σ : mmS) : Int32 × mmS :=
if a0 < 0 then
  ((sp_m_fail (1 : Int32) (mmI σ 42 0 (0 : Int32))).1, (sp_m_fail (1 : Int32) (mmI σ 42 0 (0 : Int32))).2)
else
  if a0 ≤ ((1000 : Int32) - (σ.1 42 27)) then
    (((σ.1 42 27) + a0), (mmI (mmI σ 42 0 (0 : Int32)) 42 27 ((σ.1 42 27) + a0)))
  else
    ((sp_m_fail (1 : Int32) (mmI σ 42 0 (0 : Int32))).1, (sp_m_fail (1 : Int32) (mmI σ 42 0 (0 : Int32))).2)
theorem ev_m_lose (hN : 65 ≤ N) (a0 : Int32) (σ : mmS) : Ev N L xs (123, 0, lv_args 0 [.ref 42, .int a0], [], 0, σ) (mmSI (sp_m_lose a0 σ)) := by
  unfold sp_m_lose
  show Ev N L xs (123, 0, [(0, .ref 42), (1, .int a0)], [], 0, σ) _
  refine ev_aload_n d_123_0 rfl ?_
  refine ev_iconst d_123_1 ci_0 ?_
  refine ev_putf d_123_2 fl_7_81 (ltk (by decide) hN) rfl rfl (Or.inl rfl) ?_
  refine ev_iload_n d_123_5 rfl ?_
  refine ev_if_lt mmSI (tgt := 21) d_123_6 rfl (fun _h6 => ?_) (fun _h6 => ?_)
  · refine ev_aload_n d_123_21 rfl ?_
    refine ev_iconst d_123_22 ci_1 ?_
    refine ev_cvI (As := [.int (1 : Int32)]) (t := []) (e' := 0) d_123_23 ml_7_201 rfl rfl rfl rfl rfl (by decide) rfl (ltk (by decide) hN) rfl rfl rfl (ev_m_fail hN (1 : Int32) (mmI σ 42 0 (0 : Int32))) ?_
    exact ev_iret d_123_26 rfl
  · refine ev_iload_n d_123_9 rfl ?_
    refine ev_sipush d_123_10 cs_1000 ?_
    refine ev_aload_n d_123_13 rfl ?_
    refine ev_getf (v := .int (σ.1 42 27)) d_123_14 fl_7_190 (ltk (by decide) hN) rfl rfl ?_
    refine ev_isub (v := ((1000 : Int32) - (σ.1 42 27))) d_123_17 rfl ?_
    refine ev_icmp_le mmSI (tgt := 27) d_123_18 rfl (fun _h18 => ?_) (fun _h18 => ?_)
    · refine ev_aload_n d_123_27 rfl ?_
      refine ev_aload_n d_123_28 rfl ?_
      refine ev_getf (v := .int (σ.1 42 27)) d_123_29 fl_7_190 (ltk (by decide) hN) rfl rfl ?_
      refine ev_iload_n d_123_32 rfl ?_
      refine ev_iadd (v := ((σ.1 42 27) + a0)) d_123_33 rfl ?_
      refine ev_putf d_123_34 fl_7_190 (ltk (by decide) hN) rfl rfl (Or.inl rfl) ?_
      refine ev_aload_n d_123_37 rfl ?_
      refine ev_getf (v := .int ((σ.1 42 27) + a0)) d_123_38 fl_7_190 (ltk (by decide) hN) rfl rfl ?_
      exact ev_iret d_123_41 rfl
    · refine ev_aload_n d_123_21 rfl ?_
      refine ev_iconst d_123_22 ci_1 ?_
      refine ev_cvI (As := [.int (1 : Int32)]) (t := []) (e' := 0) d_123_23 ml_7_201 rfl rfl rfl rfl rfl (by decide) rfl (ltk (by decide) hN) rfl rfl rfl (ev_m_fail hN (1 : Int32) (mmI σ 42 0 (0 : Int32))) ?_
      exact ev_iret d_123_26 rfl
def sp_m_state (a0 : Int32) (σ : mmS) : Int32 × mmS :=
if (sp_m_out a0 (4 : Int32) (mmI σ 42 0 (0 : Int32))) = 0 then
  ((σ.1 44 a0.toNatClampNeg), (mmI σ 42 0 (0 : Int32)))
else
  ((sp_m_fail (1 : Int32) (mmI σ 42 0 (0 : Int32))).1, (sp_m_fail (1 : Int32) (mmI σ 42 0 (0 : Int32))).2)
theorem ev_m_state (hN : 65 ≤ N) (a0 : Int32) (σ : mmS) : Ev N L xs (124, 0, lv_args 0 [.ref 42, .int a0], [], 0, σ) (mmSI (sp_m_state a0 σ)) := by
  unfold sp_m_state
  show Ev N L xs (124, 0, [(0, .ref 42), (1, .int a0)], [], 0, σ) _
  refine ev_aload_n d_124_0 rfl ?_
  refine ev_iconst d_124_1 ci_0 ?_
  refine ev_putf d_124_2 fl_7_81 (ltk (by decide) hN) rfl rfl (Or.inl rfl) ?_
  refine ev_iload_n d_124_5 rfl ?_
  refine ev_iconst d_124_6 ci_4 ?_
  refine ev_csI (As := [.int a0, .int (4 : Int32)]) (t := []) (e' := 0) d_124_7 ml_7_197 rfl rfl rfl rfl rfl (by decide) rfl rfl (ev_m_out hN a0 (4 : Int32) (mmI σ 42 0 (0 : Int32))) ?_
  refine ev_if_eq mmSI (tgt := 21) d_124_10 rfl (fun _h10 => ?_) (fun _h10 => ?_)
  · refine ev_aload_n d_124_21 rfl ?_
    refine ev_getf (v := .ref 44) d_124_22 fl_7_13 (ltk (by decide) hN) rfl rfl ?_
    refine ev_iload_n d_124_25 rfl ?_
    refine ev_iald (i := a0.toNatClampNeg) d_124_26 (ltk (by decide) hN) rfl (by first | assumption | (apply mo_of; assumption)) rfl ?_
    show Ev N L xs (124, 27, [(0, .ref 42), (1, .int a0)], [.int (σ.1 44 a0.toNatClampNeg)], 0, (mmI σ 42 0 (0 : Int32))) _
    exact ev_iret d_124_27 rfl
  · refine ev_aload_n d_124_13 rfl ?_
    refine ev_iconst d_124_14 ci_1 ?_
    refine ev_cvI (As := [.int (1 : Int32)]) (t := []) (e' := 0) d_124_15 ml_7_201 rfl rfl rfl rfl rfl (by decide) rfl (ltk (by decide) hN) rfl rfl rfl (ev_m_fail hN (1 : Int32) (mmI σ 42 0 (0 : Int32))) ?_
    refine ev_goto (tgt := 27) d_124_18 rfl ?_
    exact ev_iret d_124_27 rfl
def sp_m_frames (σ : mmS) : Int32 × mmS :=
((σ.1 42 22), (mmI σ 42 0 (0 : Int32)))
theorem ev_m_frames (hN : 65 ≤ N) (σ : mmS) : Ev N L xs (128, 0, lv_args 0 [.ref 42], [], 0, σ) (mmSI (sp_m_frames σ)) := by
  unfold sp_m_frames
  show Ev N L xs (128, 0, [(0, .ref 42)], [], 0, σ) _
  refine ev_aload_n d_128_0 rfl ?_
  refine ev_iconst d_128_1 ci_0 ?_
  refine ev_putf d_128_2 fl_7_81 (ltk (by decide) hN) rfl rfl (Or.inl rfl) ?_
  refine ev_aload_n d_128_5 rfl ?_
  refine ev_getf (v := .int (σ.1 42 22)) d_128_6 fl_7_177 (ltk (by decide) hN) rfl rfl ?_
  exact ev_iret d_128_9 rfl
def sp_m_last (σ : mmS) : Int64 × mmS :=
if (σ.1 42 25) = 0 then
  if (σ.1 42 25) = 0 then
    ((0 : Int64), (mmI σ 42 0 (1 : Int32)))
  else
    (((mmI σ 42 0 (1 : Int32)).2 42 24), (mmI σ 42 0 (1 : Int32)))
else
  if (σ.1 42 25) = 0 then
    ((0 : Int64), (mmI σ 42 0 (0 : Int32)))
  else
    (((mmI σ 42 0 (0 : Int32)).2 42 24), (mmI σ 42 0 (0 : Int32)))
theorem ev_m_last (hN : 65 ≤ N) (σ : mmS) : Ev N L xs (129, 0, lv_args 0 [.ref 42], [], 0, σ) (mmSJ (sp_m_last σ)) := by
  unfold sp_m_last
  show Ev N L xs (129, 0, [(0, .ref 42)], [], 0, σ) _
  refine ev_aload_n d_129_0 rfl ?_
  refine ev_aload_n d_129_1 rfl ?_
  refine ev_getf (v := .int (σ.1 42 25)) d_129_2 fl_7_186 (ltk (by decide) hN) rfl rfl ?_
  refine ev_if_eq mmSJ (tgt := 12) d_129_5 rfl (fun _h5 => ?_) (fun _h5 => ?_)
  · refine ev_iconst d_129_12 ci_1 ?_
    refine ev_putf d_129_13 fl_7_81 (ltk (by decide) hN) rfl rfl (Or.inl rfl) ?_
    refine ev_aload_n d_129_16 rfl ?_
    refine ev_getf (v := .int (σ.1 42 25)) d_129_17 fl_7_186 (ltk (by decide) hN) rfl rfl ?_
    refine ev_if_eq mmSJ (tgt := 30) d_129_20 rfl (fun _h20 => ?_) (fun _h20 => ?_)
    · refine ev_lconst d_129_30 rfl ?_
      exact ev_lret d_129_31 rfl
    · refine ev_aload_n d_129_23 rfl ?_
      refine ev_getf (v := .long ((mmI σ 42 0 (1 : Int32)).2 42 24)) d_129_24 fl_7_183 (ltk (by decide) hN) rfl rfl ?_
      refine ev_goto (tgt := 31) d_129_27 rfl ?_
      exact ev_lret d_129_31 rfl
  · refine ev_iconst d_129_8 ci_0 ?_
    refine ev_goto (tgt := 13) d_129_9 rfl ?_
    refine ev_putf d_129_13 fl_7_81 (ltk (by decide) hN) rfl rfl (Or.inl rfl) ?_
    refine ev_aload_n d_129_16 rfl ?_
    refine ev_getf (v := .int (σ.1 42 25)) d_129_17 fl_7_186 (ltk (by decide) hN) rfl rfl ?_
    refine ev_if_eq mmSJ (tgt := 30) d_129_20 rfl (fun _h20 => ?_) (fun _h20 => ?_)
    · refine ev_lconst d_129_30 rfl ?_
      exact ev_lret d_129_31 rfl
    · refine ev_aload_n d_129_23 rfl ?_
      refine ev_getf (v := .long ((mmI σ 42 0 (0 : Int32)).2 42 24)) d_129_24 fl_7_183 (ltk (by decide) hN) rfl rfl ?_
      refine ev_goto (tgt := 31) d_129_27 rfl ?_
      exact ev_lret d_129_31 rfl
def sp_m_encode (a0 : Int32) (a1 : Int32) (a2 : Int32) (a3 : Int32) (σ : mmS) : Int64 × mmS :=
if (sp_m_out a0 (32 : Int32) (mmI σ 42 0 (0 : Int32))) = 0 then
  if (sp_m_out a1 (64 : Int32) (mmI σ 42 0 (0 : Int32))) = 0 then
    if (sp_m_out a3 (1024 : Int32) (mmI σ 42 0 (0 : Int32))) = 0 then
      if a2 = 0 then
        ((sp_m_wordOf a0 a1 (0 : Int32) a3 (mmI σ 42 0 (0 : Int32))), (mmI σ 42 0 (0 : Int32)))
      else
        ((sp_m_wordOf a0 a1 (1 : Int32) a3 (mmI σ 42 0 (0 : Int32))), (mmI σ 42 0 (0 : Int32)))
    else
      (((sp_m_fail (1 : Int32) (mmI σ 42 0 (0 : Int32))).1).toInt64, (sp_m_fail (1 : Int32) (mmI σ 42 0 (0 : Int32))).2)
  else
    (((sp_m_fail (1 : Int32) (mmI σ 42 0 (0 : Int32))).1).toInt64, (sp_m_fail (1 : Int32) (mmI σ 42 0 (0 : Int32))).2)
else
  (((sp_m_fail (1 : Int32) (mmI σ 42 0 (0 : Int32))).1).toInt64, (sp_m_fail (1 : Int32) (mmI σ 42 0 (0 : Int32))).2)
theorem ev_m_encode (hN : 65 ≤ N) (a0 : Int32) (a1 : Int32) (a2 : Int32) (a3 : Int32) (σ : mmS) : Ev N L xs (130, 0, lv_args 0 [.ref 42, .int a0, .int a1, .int a2, .int a3], [], 0, σ) (mmSJ (sp_m_encode a0 a1 a2 a3 σ)) := by
  unfold sp_m_encode
  show Ev N L xs (130, 0, [(0, .ref 42), (1, .int a0), (2, .int a1), (3, .int a2), (4, .int a3)], [], 0, σ) _
  refine ev_aload_n d_130_0 rfl ?_
  refine ev_iconst d_130_1 ci_0 ?_
  refine ev_putf d_130_2 fl_7_81 (ltk (by decide) hN) rfl rfl (Or.inl rfl) ?_
  refine ev_iload_n d_130_5 rfl ?_
  refine ev_bipush d_130_6 cb_32 ?_
  refine ev_csI (As := [.int a0, .int (32 : Int32)]) (t := []) (e' := 0) d_130_8 ml_7_197 rfl rfl rfl rfl rfl (by decide) rfl rfl (ev_m_out hN a0 (32 : Int32) (mmI σ 42 0 (0 : Int32))) ?_
  refine ev_if_ne mmSJ (tgt := 34) d_130_11 rfl (fun _h11 => ?_) (fun _h11 => ?_)
  · refine ev_aload_n d_130_34 rfl ?_
    refine ev_iconst d_130_35 ci_1 ?_
    refine ev_cvI (As := [.int (1 : Int32)]) (t := []) (e' := 0) d_130_36 ml_7_201 rfl rfl rfl rfl rfl (by decide) rfl (ltk (by decide) hN) rfl rfl rfl (ev_m_fail hN (1 : Int32) (mmI σ 42 0 (0 : Int32))) ?_
    refine ev_i2l (v := ((sp_m_fail (1 : Int32) (mmI σ 42 0 (0 : Int32))).1).toInt64) d_130_39 rfl ?_
    exact ev_lret d_130_40 rfl
  · refine ev_iload_n d_130_14 rfl ?_
    refine ev_bipush d_130_15 cb_64 ?_
    refine ev_csI (As := [.int a1, .int (64 : Int32)]) (t := []) (e' := 0) d_130_17 ml_7_197 rfl rfl rfl rfl rfl (by decide) rfl rfl (ev_m_out hN a1 (64 : Int32) (mmI σ 42 0 (0 : Int32))) ?_
    refine ev_if_ne mmSJ (tgt := 34) d_130_20 rfl (fun _h20 => ?_) (fun _h20 => ?_)
    · refine ev_aload_n d_130_34 rfl ?_
      refine ev_iconst d_130_35 ci_1 ?_
      refine ev_cvI (As := [.int (1 : Int32)]) (t := []) (e' := 0) d_130_36 ml_7_201 rfl rfl rfl rfl rfl (by decide) rfl (ltk (by decide) hN) rfl rfl rfl (ev_m_fail hN (1 : Int32) (mmI σ 42 0 (0 : Int32))) ?_
      refine ev_i2l (v := ((sp_m_fail (1 : Int32) (mmI σ 42 0 (0 : Int32))).1).toInt64) d_130_39 rfl ?_
      exact ev_lret d_130_40 rfl
    · refine ev_iload d_130_23 rfl ?_
      refine ev_sipush d_130_25 cs_1024 ?_
      refine ev_csI (As := [.int a3, .int (1024 : Int32)]) (t := []) (e' := 0) d_130_28 ml_7_197 rfl rfl rfl rfl rfl (by decide) rfl rfl (ev_m_out hN a3 (1024 : Int32) (mmI σ 42 0 (0 : Int32))) ?_
      refine ev_if_eq mmSJ (tgt := 41) d_130_31 rfl (fun _h31 => ?_) (fun _h31 => ?_)
      · refine ev_iload_n d_130_41 rfl ?_
        refine ev_iload_n d_130_42 rfl ?_
        refine ev_iload_n d_130_43 rfl ?_
        refine ev_if_eq mmSJ (tgt := 51) d_130_44 rfl (fun _h44 => ?_) (fun _h44 => ?_)
        · refine ev_iconst d_130_51 ci_0 ?_
          refine ev_iload d_130_52 rfl ?_
          refine ev_csJ (As := [.int a0, .int a1, .int (0 : Int32), .int a3]) (t := []) (e' := 0) d_130_54 ml_7_131 rfl rfl rfl rfl rfl (by decide) rfl rfl (ev_m_wordOf hN a0 a1 (0 : Int32) a3 (mmI σ 42 0 (0 : Int32))) ?_
          exact ev_lret d_130_57 rfl
        · refine ev_iconst d_130_47 ci_1 ?_
          refine ev_goto (tgt := 52) d_130_48 rfl ?_
          refine ev_iload d_130_52 rfl ?_
          refine ev_csJ (As := [.int a0, .int a1, .int (1 : Int32), .int a3]) (t := []) (e' := 0) d_130_54 ml_7_131 rfl rfl rfl rfl rfl (by decide) rfl rfl (ev_m_wordOf hN a0 a1 (1 : Int32) a3 (mmI σ 42 0 (0 : Int32))) ?_
          exact ev_lret d_130_57 rfl
      · refine ev_aload_n d_130_34 rfl ?_
        refine ev_iconst d_130_35 ci_1 ?_
        refine ev_cvI (As := [.int (1 : Int32)]) (t := []) (e' := 0) d_130_36 ml_7_201 rfl rfl rfl rfl rfl (by decide) rfl (ltk (by decide) hN) rfl rfl rfl (ev_m_fail hN (1 : Int32) (mmI σ 42 0 (0 : Int32))) ?_
        refine ev_i2l (v := ((sp_m_fail (1 : Int32) (mmI σ 42 0 (0 : Int32))).1).toInt64) d_130_39 rfl ?_
        exact ev_lret d_130_40 rfl
def sp_m_decode (a0 : Int64) (σ : mmS) : Int32 × mmS :=
if (sp_m_wrong a0 σ) ≤ 0 then
  if (sp_m_startupOf a0 (mmI σ 42 0 (sp_m_wrong a0 σ))) = 0 then
    (((((sp_m_idOf a0 (mmI σ 42 0 (sp_m_wrong a0 σ))) + ((32 : Int32) * (sp_m_cycleOf a0 (mmI σ 42 0 (sp_m_wrong a0 σ))))) + (0 : Int32)) + ((4096 : Int32) * (sp_m_valueOf a0 (mmI σ 42 0 (sp_m_wrong a0 σ))))), (mmI σ 42 0 (sp_m_wrong a0 σ)))
  else
    (((((sp_m_idOf a0 (mmI σ 42 0 (sp_m_wrong a0 σ))) + ((32 : Int32) * (sp_m_cycleOf a0 (mmI σ 42 0 (sp_m_wrong a0 σ))))) + (2048 : Int32)) + ((4096 : Int32) * (sp_m_valueOf a0 (mmI σ 42 0 (sp_m_wrong a0 σ))))), (mmI σ 42 0 (sp_m_wrong a0 σ)))
else
  ((0 : Int32), (mmI σ 42 0 (sp_m_wrong a0 σ)))
theorem ev_m_decode (hN : 65 ≤ N) (a0 : Int64) (σ : mmS) : Ev N L xs (131, 0, lv_args 0 [.ref 42, .long a0], [], 0, σ) (mmSI (sp_m_decode a0 σ)) := by
  unfold sp_m_decode
  show Ev N L xs (131, 0, [(0, .ref 42), (1, .long a0)], [], 0, σ) _
  refine ev_aload_n d_131_0 rfl ?_
  refine ev_lload_n d_131_1 rfl ?_
  refine ev_csI (As := [.long a0]) (t := [.ref 42]) (e' := 0) d_131_2 ml_7_158 rfl rfl rfl rfl rfl (by decide) rfl rfl (ev_m_wrong hN a0 σ) ?_
  refine ev_putf d_131_5 fl_7_81 (ltk (by decide) hN) rfl rfl (Or.inl rfl) ?_
  refine ev_aload_n d_131_8 rfl ?_
  refine ev_getf (v := .int (sp_m_wrong a0 σ)) d_131_9 fl_7_81 (ltk (by decide) hN) rfl rfl ?_
  refine ev_if_le mmSI (tgt := 19) d_131_12 rfl (fun _h12 => ?_) (fun _h12 => ?_)
  · refine ev_lload_n d_131_19 rfl ?_
    refine ev_csI (As := [.long a0]) (t := []) (e' := 0) d_131_20 ml_7_150 rfl rfl rfl rfl rfl (by decide) rfl rfl (ev_m_idOf hN a0 (mmI σ 42 0 (sp_m_wrong a0 σ))) ?_
    refine ev_bipush d_131_23 cb_32 ?_
    refine ev_lload_n d_131_25 rfl ?_
    refine ev_csI (As := [.long a0]) (t := [.int (32 : Int32), .int (sp_m_idOf a0 (mmI σ 42 0 (sp_m_wrong a0 σ)))]) (e' := 0) d_131_26 ml_7_161 rfl rfl rfl rfl rfl (by decide) rfl rfl (ev_m_cycleOf hN a0 (mmI σ 42 0 (sp_m_wrong a0 σ))) ?_
    refine ev_imul (v := ((32 : Int32) * (sp_m_cycleOf a0 (mmI σ 42 0 (sp_m_wrong a0 σ))))) d_131_29 rfl ?_
    refine ev_iadd (v := ((sp_m_idOf a0 (mmI σ 42 0 (sp_m_wrong a0 σ))) + ((32 : Int32) * (sp_m_cycleOf a0 (mmI σ 42 0 (sp_m_wrong a0 σ)))))) d_131_30 rfl ?_
    refine ev_lload_n d_131_31 rfl ?_
    refine ev_csI (As := [.long a0]) (t := [.int ((sp_m_idOf a0 (mmI σ 42 0 (sp_m_wrong a0 σ))) + ((32 : Int32) * (sp_m_cycleOf a0 (mmI σ 42 0 (sp_m_wrong a0 σ)))))]) (e' := 0) d_131_32 ml_7_154 rfl rfl rfl rfl rfl (by decide) rfl rfl (ev_m_startupOf hN a0 (mmI σ 42 0 (sp_m_wrong a0 σ))) ?_
    refine ev_if_eq mmSI (tgt := 44) d_131_35 rfl (fun _h35 => ?_) (fun _h35 => ?_)
    · refine ev_iconst d_131_44 ci_0 ?_
      refine ev_iadd (v := (((sp_m_idOf a0 (mmI σ 42 0 (sp_m_wrong a0 σ))) + ((32 : Int32) * (sp_m_cycleOf a0 (mmI σ 42 0 (sp_m_wrong a0 σ))))) + (0 : Int32))) d_131_45 rfl ?_
      refine ev_sipush d_131_46 cs_4096 ?_
      refine ev_lload_n d_131_49 rfl ?_
      refine ev_csI (As := [.long a0]) (t := [.int (4096 : Int32), .int (((sp_m_idOf a0 (mmI σ 42 0 (sp_m_wrong a0 σ))) + ((32 : Int32) * (sp_m_cycleOf a0 (mmI σ 42 0 (sp_m_wrong a0 σ))))) + (0 : Int32))]) (e' := 0) d_131_50 ml_7_168 rfl rfl rfl rfl rfl (by decide) rfl rfl (ev_m_valueOf hN a0 (mmI σ 42 0 (sp_m_wrong a0 σ))) ?_
      refine ev_imul (v := ((4096 : Int32) * (sp_m_valueOf a0 (mmI σ 42 0 (sp_m_wrong a0 σ))))) d_131_53 rfl ?_
      refine ev_iadd (v := ((((sp_m_idOf a0 (mmI σ 42 0 (sp_m_wrong a0 σ))) + ((32 : Int32) * (sp_m_cycleOf a0 (mmI σ 42 0 (sp_m_wrong a0 σ))))) + (0 : Int32)) + ((4096 : Int32) * (sp_m_valueOf a0 (mmI σ 42 0 (sp_m_wrong a0 σ)))))) d_131_54 rfl ?_
      exact ev_iret d_131_55 rfl
    · refine ev_sipush d_131_38 cs_2048 ?_
      refine ev_goto (tgt := 45) d_131_41 rfl ?_
      refine ev_iadd (v := (((sp_m_idOf a0 (mmI σ 42 0 (sp_m_wrong a0 σ))) + ((32 : Int32) * (sp_m_cycleOf a0 (mmI σ 42 0 (sp_m_wrong a0 σ))))) + (2048 : Int32))) d_131_45 rfl ?_
      refine ev_sipush d_131_46 cs_4096 ?_
      refine ev_lload_n d_131_49 rfl ?_
      refine ev_csI (As := [.long a0]) (t := [.int (4096 : Int32), .int (((sp_m_idOf a0 (mmI σ 42 0 (sp_m_wrong a0 σ))) + ((32 : Int32) * (sp_m_cycleOf a0 (mmI σ 42 0 (sp_m_wrong a0 σ))))) + (2048 : Int32))]) (e' := 0) d_131_50 ml_7_168 rfl rfl rfl rfl rfl (by decide) rfl rfl (ev_m_valueOf hN a0 (mmI σ 42 0 (sp_m_wrong a0 σ))) ?_
      refine ev_imul (v := ((4096 : Int32) * (sp_m_valueOf a0 (mmI σ 42 0 (sp_m_wrong a0 σ))))) d_131_53 rfl ?_
      refine ev_iadd (v := ((((sp_m_idOf a0 (mmI σ 42 0 (sp_m_wrong a0 σ))) + ((32 : Int32) * (sp_m_cycleOf a0 (mmI σ 42 0 (sp_m_wrong a0 σ))))) + (2048 : Int32)) + ((4096 : Int32) * (sp_m_valueOf a0 (mmI σ 42 0 (sp_m_wrong a0 σ)))))) d_131_54 rfl ?_
      exact ev_iret d_131_55 rfl
  · refine ev_iconst d_131_15 ci_0 ?_
    refine ev_goto (tgt := 55) d_131_16 rfl ?_
    exact ev_iret d_131_55 rfl
def sp_m_deviation (a0 : Int32) (a1 : Int32) (a2 : Int32) (σ : mmS) : Int32 × mmS :=
if (sp_m_out a0 (4 : Int32) (mmI σ 42 0 (0 : Int32))) = 0 then
  if (sp_m_out a1 (4 : Int32) (mmI σ 42 0 (0 : Int32))) = 0 then
    if a2 = 0 then
      if (σ.1 57 ((((8 : Int32) * a0) + ((2 : Int32) * a1)) + (0 : Int32)).toNatClampNeg) = (99 : Int32) then
        ((sp_m_fail (2 : Int32) (mmI σ 42 0 (0 : Int32))).1, (sp_m_fail (2 : Int32) (mmI σ 42 0 (0 : Int32))).2)
      else
        ((σ.1 57 ((((8 : Int32) * a0) + ((2 : Int32) * a1)) + (0 : Int32)).toNatClampNeg), (mmI σ 42 0 (0 : Int32)))
    else
      if (σ.1 57 ((((8 : Int32) * a0) + ((2 : Int32) * a1)) + (1 : Int32)).toNatClampNeg) = (99 : Int32) then
        ((sp_m_fail (2 : Int32) (mmI σ 42 0 (0 : Int32))).1, (sp_m_fail (2 : Int32) (mmI σ 42 0 (0 : Int32))).2)
      else
        ((σ.1 57 ((((8 : Int32) * a0) + ((2 : Int32) * a1)) + (1 : Int32)).toNatClampNeg), (mmI σ 42 0 (0 : Int32)))
  else
    ((sp_m_fail (1 : Int32) (mmI σ 42 0 (0 : Int32))).1, (sp_m_fail (1 : Int32) (mmI σ 42 0 (0 : Int32))).2)
else
  ((sp_m_fail (1 : Int32) (mmI σ 42 0 (0 : Int32))).1, (sp_m_fail (1 : Int32) (mmI σ 42 0 (0 : Int32))).2)
theorem ev_m_deviation (hN : 65 ≤ N) (a0 : Int32) (a1 : Int32) (a2 : Int32) (σ : mmS) : Ev N L xs (126, 0, lv_args 0 [.ref 42, .int a0, .int a1, .int a2], [], 0, σ) (mmSI (sp_m_deviation a0 a1 a2 σ)) := by
  unfold sp_m_deviation
  show Ev N L xs (126, 0, [(0, .ref 42), (1, .int a0), (2, .int a1), (3, .int a2)], [], 0, σ) _
  refine ev_aload_n d_126_0 rfl ?_
  refine ev_iconst d_126_1 ci_0 ?_
  refine ev_putf d_126_2 fl_7_81 (ltk (by decide) hN) rfl rfl (Or.inl rfl) ?_
  refine ev_iload_n d_126_5 rfl ?_
  refine ev_iconst d_126_6 ci_4 ?_
  refine ev_csI (As := [.int a0, .int (4 : Int32)]) (t := []) (e' := 0) d_126_7 ml_7_197 rfl rfl rfl rfl rfl (by decide) rfl rfl (ev_m_out hN a0 (4 : Int32) (mmI σ 42 0 (0 : Int32))) ?_
  refine ev_if_ne mmSI (tgt := 21) d_126_10 rfl (fun _h10 => ?_) (fun _h10 => ?_)
  · refine ev_aload_n d_126_21 rfl ?_
    refine ev_iconst d_126_22 ci_1 ?_
    refine ev_cvI (As := [.int (1 : Int32)]) (t := []) (e' := 0) d_126_23 ml_7_201 rfl rfl rfl rfl rfl (by decide) rfl (ltk (by decide) hN) rfl rfl rfl (ev_m_fail hN (1 : Int32) (mmI σ 42 0 (0 : Int32))) ?_
    exact ev_iret d_126_26 rfl
  · refine ev_iload_n d_126_13 rfl ?_
    refine ev_iconst d_126_14 ci_4 ?_
    refine ev_csI (As := [.int a1, .int (4 : Int32)]) (t := []) (e' := 0) d_126_15 ml_7_197 rfl rfl rfl rfl rfl (by decide) rfl rfl (ev_m_out hN a1 (4 : Int32) (mmI σ 42 0 (0 : Int32))) ?_
    refine ev_if_eq mmSI (tgt := 27) d_126_18 rfl (fun _h18 => ?_) (fun _h18 => ?_)
    · refine ev_aload_n d_126_27 rfl ?_
      refine ev_getf (v := .ref 57) d_126_28 fl_7_53 (ltk (by decide) hN) rfl rfl ?_
      refine ev_bipush d_126_31 cb_8 ?_
      refine ev_iload_n d_126_33 rfl ?_
      refine ev_imul (v := ((8 : Int32) * a0)) d_126_34 rfl ?_
      refine ev_iconst d_126_35 ci_2 ?_
      refine ev_iload_n d_126_36 rfl ?_
      refine ev_imul (v := ((2 : Int32) * a1)) d_126_37 rfl ?_
      refine ev_iadd (v := (((8 : Int32) * a0) + ((2 : Int32) * a1))) d_126_38 rfl ?_
      refine ev_iload_n d_126_39 rfl ?_
      refine ev_if_eq mmSI (tgt := 47) d_126_40 rfl (fun _h40 => ?_) (fun _h40 => ?_)
      · refine ev_iconst d_126_47 ci_0 ?_
        refine ev_iadd (v := ((((8 : Int32) * a0) + ((2 : Int32) * a1)) + (0 : Int32))) d_126_48 rfl ?_
        refine ev_iald (i := ((((8 : Int32) * a0) + ((2 : Int32) * a1)) + (0 : Int32)).toNatClampNeg) d_126_49 (ltk (by decide) hN) rfl (vx32 (by apply mo_of; assumption) (by apply mo_of; assumption) (by first | (left; rfl) | (right; rfl))) rfl ?_
        show Ev N L xs (126, 50, [(0, .ref 42), (1, .int a0), (2, .int a1), (3, .int a2)], [.int (σ.1 57 ((((8 : Int32) * a0) + ((2 : Int32) * a1)) + (0 : Int32)).toNatClampNeg)], 0, (mmI σ 42 0 (0 : Int32))) _
        refine ev_istore (lv' := [(4, .int (σ.1 57 ((((8 : Int32) * a0) + ((2 : Int32) * a1)) + (0 : Int32)).toNatClampNeg)), (0, .ref 42), (1, .int a0), (2, .int a1), (3, .int a2)]) d_126_50 (by decide) rfl ?_
        refine ev_iload d_126_52 rfl ?_
        refine ev_bipush d_126_54 cb_99 ?_
        refine ev_icmp_ne mmSI (tgt := 67) d_126_56 rfl (fun _h56 => ?_) (fun _h56 => ?_)
        · refine ev_iload d_126_67 rfl ?_
          exact ev_iret d_126_69 rfl
        · refine ev_aload_n d_126_59 rfl ?_
          refine ev_iconst d_126_60 ci_2 ?_
          refine ev_cvI (As := [.int (2 : Int32)]) (t := []) (e' := 0) d_126_61 ml_7_201 rfl rfl rfl rfl rfl (by decide) rfl (ltk (by decide) hN) rfl rfl rfl (ev_m_fail hN (2 : Int32) (mmI σ 42 0 (0 : Int32))) ?_
          refine ev_goto (tgt := 69) d_126_64 rfl ?_
          exact ev_iret d_126_69 rfl
      · refine ev_iconst d_126_43 ci_1 ?_
        refine ev_goto (tgt := 48) d_126_44 rfl ?_
        refine ev_iadd (v := ((((8 : Int32) * a0) + ((2 : Int32) * a1)) + (1 : Int32))) d_126_48 rfl ?_
        refine ev_iald (i := ((((8 : Int32) * a0) + ((2 : Int32) * a1)) + (1 : Int32)).toNatClampNeg) d_126_49 (ltk (by decide) hN) rfl (vx32 (by apply mo_of; assumption) (by apply mo_of; assumption) (by first | (left; rfl) | (right; rfl))) rfl ?_
        show Ev N L xs (126, 50, [(0, .ref 42), (1, .int a0), (2, .int a1), (3, .int a2)], [.int (σ.1 57 ((((8 : Int32) * a0) + ((2 : Int32) * a1)) + (1 : Int32)).toNatClampNeg)], 0, (mmI σ 42 0 (0 : Int32))) _
        refine ev_istore (lv' := [(4, .int (σ.1 57 ((((8 : Int32) * a0) + ((2 : Int32) * a1)) + (1 : Int32)).toNatClampNeg)), (0, .ref 42), (1, .int a0), (2, .int a1), (3, .int a2)]) d_126_50 (by decide) rfl ?_
        refine ev_iload d_126_52 rfl ?_
        refine ev_bipush d_126_54 cb_99 ?_
        refine ev_icmp_ne mmSI (tgt := 67) d_126_56 rfl (fun _h56 => ?_) (fun _h56 => ?_)
        · refine ev_iload d_126_67 rfl ?_
          exact ev_iret d_126_69 rfl
        · refine ev_aload_n d_126_59 rfl ?_
          refine ev_iconst d_126_60 ci_2 ?_
          refine ev_cvI (As := [.int (2 : Int32)]) (t := []) (e' := 0) d_126_61 ml_7_201 rfl rfl rfl rfl rfl (by decide) rfl (ltk (by decide) hN) rfl rfl rfl (ev_m_fail hN (2 : Int32) (mmI σ 42 0 (0 : Int32))) ?_
          refine ev_goto (tgt := 69) d_126_64 rfl ?_
          exact ev_iret d_126_69 rfl
    · refine ev_aload_n d_126_21 rfl ?_
      refine ev_iconst d_126_22 ci_1 ?_
      refine ev_cvI (As := [.int (1 : Int32)]) (t := []) (e' := 0) d_126_23 ml_7_201 rfl rfl rfl rfl rfl (by decide) rfl (ltk (by decide) hN) rfl rfl rfl (ev_m_fail hN (1 : Int32) (mmI σ 42 0 (0 : Int32))) ?_
      exact ev_iret d_126_26 rfl
def sp_m_got (a0 : Int32) (a1 : Int32) (σ : mmS) : Int32 × mmS :=
if (sp_m_out a0 (4 : Int32) (mmI σ 42 0 (0 : Int32))) = 0 then
  if a1 < (1 : Int32) then
    ((sp_m_fail (1 : Int32) (mmI σ 42 0 (0 : Int32))).1, (sp_m_fail (1 : Int32) (mmI σ 42 0 (0 : Int32))).2)
  else
    if a1 ≤ (9 : Int32) then
      if (σ.1 58 (((10 : Int32) * a0) + a1).toNatClampNeg) = 0 then
        ((sp_m_fail (2 : Int32) (mmI σ 42 0 (0 : Int32))).1, (sp_m_fail (2 : Int32) (mmI σ 42 0 (0 : Int32))).2)
      else
        (((σ.1 58 (((10 : Int32) * a0) + a1).toNatClampNeg) - (1 : Int32)), (mmI σ 42 0 (0 : Int32)))
    else
      ((sp_m_fail (1 : Int32) (mmI σ 42 0 (0 : Int32))).1, (sp_m_fail (1 : Int32) (mmI σ 42 0 (0 : Int32))).2)
else
  ((sp_m_fail (1 : Int32) (mmI σ 42 0 (0 : Int32))).1, (sp_m_fail (1 : Int32) (mmI σ 42 0 (0 : Int32))).2)
theorem ev_m_got (hN : 65 ≤ N) (a0 : Int32) (a1 : Int32) (σ : mmS) : Ev N L xs (127, 0, lv_args 0 [.ref 42, .int a0, .int a1], [], 0, σ) (mmSI (sp_m_got a0 a1 σ)) := by
  unfold sp_m_got
  show Ev N L xs (127, 0, [(0, .ref 42), (1, .int a0), (2, .int a1)], [], 0, σ) _
  refine ev_aload_n d_127_0 rfl ?_
  refine ev_iconst d_127_1 ci_0 ?_
  refine ev_putf d_127_2 fl_7_81 (ltk (by decide) hN) rfl rfl (Or.inl rfl) ?_
  refine ev_iload_n d_127_5 rfl ?_
  refine ev_iconst d_127_6 ci_4 ?_
  refine ev_csI (As := [.int a0, .int (4 : Int32)]) (t := []) (e' := 0) d_127_7 ml_7_197 rfl rfl rfl rfl rfl (by decide) rfl rfl (ev_m_out hN a0 (4 : Int32) (mmI σ 42 0 (0 : Int32))) ?_
  refine ev_if_ne mmSI (tgt := 24) d_127_10 rfl (fun _h10 => ?_) (fun _h10 => ?_)
  · refine ev_aload_n d_127_24 rfl ?_
    refine ev_iconst d_127_25 ci_1 ?_
    refine ev_cvI (As := [.int (1 : Int32)]) (t := []) (e' := 0) d_127_26 ml_7_201 rfl rfl rfl rfl rfl (by decide) rfl (ltk (by decide) hN) rfl rfl rfl (ev_m_fail hN (1 : Int32) (mmI σ 42 0 (0 : Int32))) ?_
    exact ev_iret d_127_29 rfl
  · refine ev_iload_n d_127_13 rfl ?_
    refine ev_iconst d_127_14 ci_1 ?_
    refine ev_icmp_lt mmSI (tgt := 24) d_127_15 rfl (fun _h15 => ?_) (fun _h15 => ?_)
    · refine ev_aload_n d_127_24 rfl ?_
      refine ev_iconst d_127_25 ci_1 ?_
      refine ev_cvI (As := [.int (1 : Int32)]) (t := []) (e' := 0) d_127_26 ml_7_201 rfl rfl rfl rfl rfl (by decide) rfl (ltk (by decide) hN) rfl rfl rfl (ev_m_fail hN (1 : Int32) (mmI σ 42 0 (0 : Int32))) ?_
      exact ev_iret d_127_29 rfl
    · refine ev_iload_n d_127_18 rfl ?_
      refine ev_bipush d_127_19 cb_9 ?_
      refine ev_icmp_le mmSI (tgt := 30) d_127_21 rfl (fun _h21 => ?_) (fun _h21 => ?_)
      · refine ev_aload_n d_127_30 rfl ?_
        refine ev_getf (v := .ref 58) d_127_31 fl_7_56 (ltk (by decide) hN) rfl rfl ?_
        refine ev_bipush d_127_34 cb_10 ?_
        refine ev_iload_n d_127_36 rfl ?_
        refine ev_imul (v := ((10 : Int32) * a0)) d_127_37 rfl ?_
        refine ev_iload_n d_127_38 rfl ?_
        refine ev_iadd (v := (((10 : Int32) * a0) + a1)) d_127_39 rfl ?_
        refine ev_iald (i := (((10 : Int32) * a0) + a1).toNatClampNeg) d_127_40 (ltk (by decide) hN) rfl (vx10 (by apply mo_of; assumption) (by assumption) (by first | assumption | (rw [Int32.not_lt]; assumption))) rfl ?_
        show Ev N L xs (127, 41, [(0, .ref 42), (1, .int a0), (2, .int a1)], [.int (σ.1 58 (((10 : Int32) * a0) + a1).toNatClampNeg)], 0, (mmI σ 42 0 (0 : Int32))) _
        refine ev_if_ne mmSI (tgt := 52) d_127_41 rfl (fun _h41 => ?_) (fun _h41 => ?_)
        · refine ev_aload_n d_127_52 rfl ?_
          refine ev_getf (v := .ref 58) d_127_53 fl_7_56 (ltk (by decide) hN) rfl rfl ?_
          refine ev_bipush d_127_56 cb_10 ?_
          refine ev_iload_n d_127_58 rfl ?_
          refine ev_imul (v := ((10 : Int32) * a0)) d_127_59 rfl ?_
          refine ev_iload_n d_127_60 rfl ?_
          refine ev_iadd (v := (((10 : Int32) * a0) + a1)) d_127_61 rfl ?_
          refine ev_iald (i := (((10 : Int32) * a0) + a1).toNatClampNeg) d_127_62 (ltk (by decide) hN) rfl (vx10 (by apply mo_of; assumption) (by assumption) (by first | assumption | (rw [Int32.not_lt]; assumption))) rfl ?_
          show Ev N L xs (127, 63, [(0, .ref 42), (1, .int a0), (2, .int a1)], [.int (σ.1 58 (((10 : Int32) * a0) + a1).toNatClampNeg)], 0, (mmI σ 42 0 (0 : Int32))) _
          refine ev_iconst d_127_63 ci_1 ?_
          refine ev_isub (v := ((σ.1 58 (((10 : Int32) * a0) + a1).toNatClampNeg) - (1 : Int32))) d_127_64 rfl ?_
          exact ev_iret d_127_65 rfl
        · refine ev_aload_n d_127_44 rfl ?_
          refine ev_iconst d_127_45 ci_2 ?_
          refine ev_cvI (As := [.int (2 : Int32)]) (t := []) (e' := 0) d_127_46 ml_7_201 rfl rfl rfl rfl rfl (by decide) rfl (ltk (by decide) hN) rfl rfl rfl (ev_m_fail hN (2 : Int32) (mmI σ 42 0 (0 : Int32))) ?_
          refine ev_goto (tgt := 65) d_127_49 rfl ?_
          exact ev_iret d_127_65 rfl
      · refine ev_aload_n d_127_24 rfl ?_
        refine ev_iconst d_127_25 ci_1 ?_
        refine ev_cvI (As := [.int (1 : Int32)]) (t := []) (e' := 0) d_127_26 ml_7_201 rfl rfl rfl rfl rfl (by decide) rfl (ltk (by decide) hN) rfl rfl rfl (ev_m_fail hN (1 : Int32) (mmI σ 42 0 (0 : Int32))) ?_
        exact ev_iret d_127_29 rfl
end SP
