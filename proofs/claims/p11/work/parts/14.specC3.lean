section SP
variable {N L : Nat} {xs : Nat → Int32}
def idok (i : Int32) : Prop := ¬ i < 1 ∧ ¬ (9 : Int32) < i
theorem id_cs {i : Int32} (h : idok i) : i = 1 ∨ i = 2 ∨ i = 3 ∨ i = 4 ∨ i = 5 ∨ i = 6 ∨ i = 7 ∨ i = 8 ∨ i = 9 := by
  obtain ⟨h1, h9⟩ := h
  rw [Int32.lt_iff_toInt_lt] at h1 h9
  have e9 : (9 : Int32).toInt = 9 := by decide
  have e1 : (1 : Int32).toInt = 1 := by decide
  rw [e9] at h9
  rw [e1] at h1
  have hb : i.toInt = 1 ∨ i.toInt = 2 ∨ i.toInt = 3 ∨ i.toInt = 4 ∨ i.toInt = 5 ∨ i.toInt = 6 ∨ i.toInt = 7 ∨ i.toInt = 8 ∨ i.toInt = 9 := by omega
  have hz : ∀ {k : Int32}, i.toInt = k.toInt → i = k := fun h => Int32.toInt_inj.mp h
  rcases hb with h | h | h | h | h | h | h | h | h
  · exact Or.inl (hz (h.trans (by decide)))
  · exact Or.inr (Or.inl (hz (h.trans (by decide))))
  · exact Or.inr (Or.inr (Or.inl (hz (h.trans (by decide)))))
  · exact Or.inr (Or.inr (Or.inr (Or.inl (hz (h.trans (by decide))))))
  · exact Or.inr (Or.inr (Or.inr (Or.inr (Or.inl (hz (h.trans (by decide)))))))
  · exact Or.inr (Or.inr (Or.inr (Or.inr (Or.inr (Or.inl (hz (h.trans (by decide))))))))
  · exact Or.inr (Or.inr (Or.inr (Or.inr (Or.inr (Or.inr (Or.inl (hz (h.trans (by decide)))))))))
  · exact Or.inr (Or.inr (Or.inr (Or.inr (Or.inr (Or.inr (Or.inr (Or.inl (hz (h.trans (by decide))))))))))
  · exact Or.inr (Or.inr (Or.inr (Or.inr (Or.inr (Or.inr (Or.inr (Or.inr (hz (h.trans (by decide))))))))))
theorem id10 {i : Int32} (h : idok i) : vp_in i 10 := by
  rcases id_cs h with rfl | rfl | rfl | rfl | rfl | rfl | rfl | rfl | rfl <;> exact vpi (by decide)
theorem id4 {i : Int32} (h : idok i) (h5 : ¬ 5 ≤ i) : vp_in (i - 1) 4 := by
  rcases id_cs h with rfl | rfl | rfl | rfl | rfl | rfl | rfl | rfl | rfl
  all_goals first | exact vpi (by decide) | exact absurd (by decide) h5
def sp_n_hearInTime (j : Nat) (a0 : Int64) (σ : mmS) : mmS :=
if (sp_w_cycleIn a0 σ) = (σ.1 (10 * j + 3) 1) then
  if (sp_w_idIn a0 σ) < (5 : Int32) then
    if (sp_b_isWithin ((σ.1 (10 * j + 3) 0) - (sp_n_dueAt ((sp_w_idIn a0 σ) - (1 : Int32)) σ)) (-3 : Int32) (3 : Int32) σ) = 0 then
      if (σ.1 (10 * j + 2) 7) = (2 : Int32) then
        if (sp_w_startupIn a0 σ) = 0 then
          σ
        else
          (sp_n_listen j σ)
      else
        σ
    else
      (mmI (sp_d_note j ((sp_w_idIn a0 σ) - (1 : Int32)) (sp_t_isOdd j σ) ((σ.1 (10 * j + 3) 0) - (sp_n_dueAt ((sp_w_idIn a0 σ) - (1 : Int32)) σ)) σ) (10 * j + 11) (sp_w_idIn a0 σ).toNatClampNeg (sp_w_valueIn a0 (sp_d_note j ((sp_w_idIn a0 σ) - (1 : Int32)) (sp_t_isOdd j σ) ((σ.1 (10 * j + 3) 0) - (sp_n_dueAt ((sp_w_idIn a0 σ) - (1 : Int32)) σ)) σ)))
  else
    if (sp_n_isInMinislots j σ) = 0 then
      σ
    else
      (mmI (mmI (mmI σ (10 * j + 11) (sp_w_idIn a0 σ).toNatClampNeg (sp_w_valueIn a0 σ)) (10 * j + 2) 10 (sp_w_idIn a0 σ)) (10 * j + 2) 11 (1 : Int32))
else
  if (sp_w_idIn a0 σ) < (5 : Int32) then
    if (σ.1 (10 * j + 2) 7) = (2 : Int32) then
      if (sp_w_startupIn a0 σ) = 0 then
        σ
      else
        (sp_n_listen j σ)
    else
      σ
  else
    σ
theorem ev_n_hearInTime (hN : 65 ≤ N) (j : Nat) (a0 : Int64) (σ : mmS) (hj : j < 4) (hid : idok (sp_w_idIn a0 σ)) : Ev N L xs (63, 0, lv_args 0 [.ref (10 * j + 2), .long a0], [], 0, σ) (mmSV (sp_n_hearInTime j a0 σ)) := by
  unfold sp_n_hearInTime
  show Ev N L xs (63, 0, [(0, .ref (10 * j + 2)), (1, .long a0)], [], 0, σ) _
  refine ev_lload_n d_63_0 rfl ?_
  refine ev_csI (As := [.long a0]) (t := []) (e' := 0) d_63_1 ml_3_97 rfl rfl rfl rfl rfl (by decide) rfl rfl (ev_w_idIn hN a0 σ) ?_
  refine ev_istore_n (lv' := [(3, .int (sp_w_idIn a0 σ)), (0, .ref (10 * j + 2)), (1, .long a0)]) d_63_4 (by decide) rfl ?_
  refine ev_lload_n d_63_5 rfl ?_
  refine ev_csI (As := [.long a0]) (t := []) (e' := 0) d_63_6 ml_3_101 rfl rfl rfl rfl rfl (by decide) rfl rfl (ev_w_cycleIn hN a0 σ) ?_
  refine ev_aload_n d_63_9 rfl ?_
  refine ev_getf (v := .ref (10 * j + 3)) d_63_10 fl_3_21 (ltn (by decide) hj hN) (shq_2 hj) rfl ?_
  refine ev_getf (v := .int (σ.1 (10 * j + 3) 1)) d_63_13 fl_3_167 (ltn (by decide) hj hN) (shq_3 hj) rfl ?_
  refine ev_icmp_ne mmSV (tgt := 23) d_63_16 rfl (fun _h16 => ?_) (fun _h16 => ?_)
  · refine ev_iconst d_63_23 ci_0 ?_
    refine ev_istore (lv' := [(4, .int (0 : Int32)), (3, .int (sp_w_idIn a0 σ)), (0, .ref (10 * j + 2)), (1, .long a0)]) d_63_24 (by decide) rfl ?_
    refine ev_iload_n d_63_26 rfl ?_
    refine ev_iconst d_63_27 ci_5 ?_
    refine ev_icmp_lt mmSV (tgt := 64) d_63_28 rfl (fun _h28 => ?_) (fun _h28 => ?_)
    · refine ev_aload_n d_63_64 rfl ?_
      refine ev_getf (v := .ref (10 * j + 3)) d_63_65 fl_3_21 (ltn (by decide) hj hN) (shq_2 hj) rfl ?_
      refine ev_getf (v := .int (σ.1 (10 * j + 3) 0)) d_63_68 fl_3_144 (ltn (by decide) hj hN) (shq_3 hj) rfl ?_
      refine ev_iload_n d_63_71 rfl ?_
      refine ev_iconst d_63_72 ci_1 ?_
      refine ev_isub (v := ((sp_w_idIn a0 σ) - (1 : Int32))) d_63_73 rfl ?_
      refine ev_csI (As := [.int ((sp_w_idIn a0 σ) - (1 : Int32))]) (t := [.int (σ.1 (10 * j + 3) 0)]) (e' := 0) d_63_74 ml_3_160 rfl rfl rfl rfl rfl (by decide) rfl rfl (ev_n_dueAt hN ((sp_w_idIn a0 σ) - (1 : Int32)) σ) ?_
      refine ev_isub (v := ((σ.1 (10 * j + 3) 0) - (sp_n_dueAt ((sp_w_idIn a0 σ) - (1 : Int32)) σ))) d_63_77 rfl ?_
      refine ev_istore (lv' := [(5, .int ((σ.1 (10 * j + 3) 0) - (sp_n_dueAt ((sp_w_idIn a0 σ) - (1 : Int32)) σ))), (4, .int (0 : Int32)), (3, .int (sp_w_idIn a0 σ)), (0, .ref (10 * j + 2)), (1, .long a0)]) d_63_78 (by decide) rfl ?_
      refine ev_iload d_63_80 rfl ?_
      refine ev_ifT (tgt := 128) d_63_82 rfl (show (0 : Int32) = (0 : Int32) by decide) ?_
      refine ev_aload_n d_63_128 rfl ?_
      refine ev_getf (v := .int (σ.1 (10 * j + 2) 7)) d_63_129 fl_3_56 (ltn (by decide) hj hN) (shq_2 hj) rfl ?_
      refine ev_iconst d_63_132 ci_2 ?_
      refine ev_icmp_ne mmSV (tgt := 147) d_63_133 rfl (fun _h133 => ?_) (fun _h133 => ?_)
      · exact ev_vret d_63_147 rfl
      · refine ev_lload_n d_63_136 rfl ?_
        refine ev_csI (As := [.long a0]) (t := []) (e' := 0) d_63_137 ml_3_91 rfl rfl rfl rfl rfl (by decide) rfl rfl (ev_w_startupIn hN a0 σ) ?_
        refine ev_if_eq mmSV (tgt := 147) d_63_140 rfl (fun _h140 => ?_) (fun _h140 => ?_)
        · exact ev_vret d_63_147 rfl
        · refine ev_aload_n d_63_143 rfl ?_
          refine ev_cvV (As := []) (t := []) (e' := 0) d_63_144 ml_3_73 rfl rfl rfl rfl rfl (by decide) rfl (ltn (by decide) hj hN) (shq_2 hj) rfl rfl (ev_n_listen hN j σ hj) ?_
          exact ev_vret d_63_147 rfl
    · refine ev_iload d_63_31 rfl ?_
      refine ev_ifT (tgt := 63) d_63_33 rfl (show (0 : Int32) = (0 : Int32) by decide) ?_
      exact ev_vret d_63_63 rfl
  · refine ev_iconst d_63_19 ci_1 ?_
    refine ev_goto (tgt := 24) d_63_20 rfl ?_
    refine ev_istore (lv' := [(4, .int (1 : Int32)), (3, .int (sp_w_idIn a0 σ)), (0, .ref (10 * j + 2)), (1, .long a0)]) d_63_24 (by decide) rfl ?_
    refine ev_iload_n d_63_26 rfl ?_
    refine ev_iconst d_63_27 ci_5 ?_
    refine ev_icmp_lt mmSV (tgt := 64) d_63_28 rfl (fun _h28 => ?_) (fun _h28 => ?_)
    · refine ev_aload_n d_63_64 rfl ?_
      refine ev_getf (v := .ref (10 * j + 3)) d_63_65 fl_3_21 (ltn (by decide) hj hN) (shq_2 hj) rfl ?_
      refine ev_getf (v := .int (σ.1 (10 * j + 3) 0)) d_63_68 fl_3_144 (ltn (by decide) hj hN) (shq_3 hj) rfl ?_
      refine ev_iload_n d_63_71 rfl ?_
      refine ev_iconst d_63_72 ci_1 ?_
      refine ev_isub (v := ((sp_w_idIn a0 σ) - (1 : Int32))) d_63_73 rfl ?_
      refine ev_csI (As := [.int ((sp_w_idIn a0 σ) - (1 : Int32))]) (t := [.int (σ.1 (10 * j + 3) 0)]) (e' := 0) d_63_74 ml_3_160 rfl rfl rfl rfl rfl (by decide) rfl rfl (ev_n_dueAt hN ((sp_w_idIn a0 σ) - (1 : Int32)) σ) ?_
      refine ev_isub (v := ((σ.1 (10 * j + 3) 0) - (sp_n_dueAt ((sp_w_idIn a0 σ) - (1 : Int32)) σ))) d_63_77 rfl ?_
      refine ev_istore (lv' := [(5, .int ((σ.1 (10 * j + 3) 0) - (sp_n_dueAt ((sp_w_idIn a0 σ) - (1 : Int32)) σ))), (4, .int (1 : Int32)), (3, .int (sp_w_idIn a0 σ)), (0, .ref (10 * j + 2)), (1, .long a0)]) d_63_78 (by decide) rfl ?_
      refine ev_iload d_63_80 rfl ?_
      refine ev_ifF (tgt := 128) d_63_82 rfl (show ¬ ((1 : Int32) = (0 : Int32)) by decide) ?_
      refine ev_iload d_63_85 rfl ?_
      refine ev_bipush d_63_87 cb_m3 ?_
      refine ev_iconst d_63_89 ci_3 ?_
      refine ev_csI (As := [.int ((σ.1 (10 * j + 3) 0) - (sp_n_dueAt ((sp_w_idIn a0 σ) - (1 : Int32)) σ)), .int (-3 : Int32), .int (3 : Int32)]) (t := []) (e' := 0) d_63_90 ml_3_156 rfl rfl rfl rfl rfl (by decide) rfl rfl (ev_b_isWithin hN ((σ.1 (10 * j + 3) 0) - (sp_n_dueAt ((sp_w_idIn a0 σ) - (1 : Int32)) σ)) (-3 : Int32) (3 : Int32) σ) ?_
      refine ev_if_eq mmSV (tgt := 128) d_63_93 rfl (fun _h93 => ?_) (fun _h93 => ?_)
      · refine ev_aload_n d_63_128 rfl ?_
        refine ev_getf (v := .int (σ.1 (10 * j + 2) 7)) d_63_129 fl_3_56 (ltn (by decide) hj hN) (shq_2 hj) rfl ?_
        refine ev_iconst d_63_132 ci_2 ?_
        refine ev_icmp_ne mmSV (tgt := 147) d_63_133 rfl (fun _h133 => ?_) (fun _h133 => ?_)
        · exact ev_vret d_63_147 rfl
        · refine ev_lload_n d_63_136 rfl ?_
          refine ev_csI (As := [.long a0]) (t := []) (e' := 0) d_63_137 ml_3_91 rfl rfl rfl rfl rfl (by decide) rfl rfl (ev_w_startupIn hN a0 σ) ?_
          refine ev_if_eq mmSV (tgt := 147) d_63_140 rfl (fun _h140 => ?_) (fun _h140 => ?_)
          · exact ev_vret d_63_147 rfl
          · refine ev_aload_n d_63_143 rfl ?_
            refine ev_cvV (As := []) (t := []) (e' := 0) d_63_144 ml_3_73 rfl rfl rfl rfl rfl (by decide) rfl (ltn (by decide) hj hN) (shq_2 hj) rfl rfl (ev_n_listen hN j σ hj) ?_
            exact ev_vret d_63_147 rfl
      · refine ev_aload_n d_63_96 rfl ?_
        refine ev_getf (v := .ref (10 * j + 5)) d_63_97 fl_3_35 (ltn (by decide) hj hN) (shq_2 hj) rfl ?_
        refine ev_iload_n d_63_100 rfl ?_
        refine ev_iconst d_63_101 ci_1 ?_
        refine ev_isub (v := ((sp_w_idIn a0 σ) - (1 : Int32))) d_63_102 rfl ?_
        refine ev_aload_n d_63_103 rfl ?_
        refine ev_getf (v := .ref (10 * j + 3)) d_63_104 fl_3_21 (ltn (by decide) hj hN) (shq_2 hj) rfl ?_
        refine ev_cvI (As := []) (t := [.int ((sp_w_idIn a0 σ) - (1 : Int32)), .ref (10 * j + 5)]) (e' := 0) d_63_107 ml_3_150 rfl rfl rfl rfl rfl (by decide) rfl (ltn (by decide) hj hN) (shq_3 hj) rfl rfl (ev_t_isOdd hN j σ hj) ?_
        refine ev_iload d_63_110 rfl ?_
        refine ev_cvV (As := [.int ((sp_w_idIn a0 σ) - (1 : Int32)), .int (sp_t_isOdd j σ), .int ((σ.1 (10 * j + 3) 0) - (sp_n_dueAt ((sp_w_idIn a0 σ) - (1 : Int32)) σ))]) (t := []) (e' := 0) d_63_112 ml_3_197 rfl rfl rfl rfl rfl (by decide) rfl (ltn (by decide) hj hN) (shq_5 hj) rfl rfl (ev_d_note hN j ((sp_w_idIn a0 σ) - (1 : Int32)) (sp_t_isOdd j σ) ((σ.1 (10 * j + 3) 0) - (sp_n_dueAt ((sp_w_idIn a0 σ) - (1 : Int32)) σ)) σ hj (id4 hid (by first | assumption | (rw [Int32.not_le]; assumption)))) ?_
        refine ev_aload_n d_63_115 rfl ?_
        refine ev_getf (v := .ref (10 * j + 11)) d_63_116 fl_3_46 (ltn (by decide) hj hN) (shq_2 hj) rfl ?_
        refine ev_iload_n d_63_119 rfl ?_
        refine ev_lload_n d_63_120 rfl ?_
        refine ev_csI (As := [.long a0]) (t := [.int (sp_w_idIn a0 σ), .ref (10 * j + 11)]) (e' := 0) d_63_121 ml_3_194 rfl rfl rfl rfl rfl (by decide) rfl rfl (ev_w_valueIn hN a0 (sp_d_note j ((sp_w_idIn a0 σ) - (1 : Int32)) (sp_t_isOdd j σ) ((σ.1 (10 * j + 3) 0) - (sp_n_dueAt ((sp_w_idIn a0 σ) - (1 : Int32)) σ)) σ)) ?_
        refine ev_iastore (i := (sp_w_idIn a0 σ).toNatClampNeg) d_63_124 (ltn (by decide) hj hN) (shq_11 hj) (id10 hid) rfl ?_
        refine ev_goto (tgt := 147) d_63_125 rfl ?_
        exact ev_vret d_63_147 rfl
    · refine ev_iload d_63_31 rfl ?_
      refine ev_ifF (tgt := 63) d_63_33 rfl (show ¬ ((1 : Int32) = (0 : Int32)) by decide) ?_
      refine ev_aload_n d_63_36 rfl ?_
      refine ev_cvI (As := []) (t := []) (e' := 0) d_63_37 ml_3_141 rfl rfl rfl rfl rfl (by decide) rfl (ltn (by decide) hj hN) (shq_2 hj) rfl rfl (ev_n_isInMinislots hN j σ hj) ?_
      refine ev_if_eq mmSV (tgt := 63) d_63_40 rfl (fun _h40 => ?_) (fun _h40 => ?_)
      · exact ev_vret d_63_63 rfl
      · refine ev_aload_n d_63_43 rfl ?_
        refine ev_getf (v := .ref (10 * j + 11)) d_63_44 fl_3_46 (ltn (by decide) hj hN) (shq_2 hj) rfl ?_
        refine ev_iload_n d_63_47 rfl ?_
        refine ev_lload_n d_63_48 rfl ?_
        refine ev_csI (As := [.long a0]) (t := [.int (sp_w_idIn a0 σ), .ref (10 * j + 11)]) (e' := 0) d_63_49 ml_3_194 rfl rfl rfl rfl rfl (by decide) rfl rfl (ev_w_valueIn hN a0 σ) ?_
        refine ev_iastore (i := (sp_w_idIn a0 σ).toNatClampNeg) d_63_52 (ltn (by decide) hj hN) (shq_11 hj) (id10 hid) rfl ?_
        refine ev_aload_n d_63_53 rfl ?_
        refine ev_iload_n d_63_54 rfl ?_
        refine ev_putf d_63_55 fl_3_121 (ltn (by decide) hj hN) (shq_2 hj) rfl (Or.inl rfl) ?_
        refine ev_aload_n d_63_58 rfl ?_
        refine ev_iconst d_63_59 ci_1 ?_
        refine ev_putf d_63_60 fl_3_124 (ltn (by decide) hj hN) (shq_2 hj) rfl (Or.inr ⟨rfl, (Or.inr rfl)⟩) ?_
        exact ev_vret d_63_63 rfl
def sp_n_hear (j : Nat) (a0 : Int64) (a1 : Int32) (σ : mmS) : mmS :=
if (σ.1 (10 * j + 2) 7) = (1 : Int32) then
  if a1 = 0 then
    if (sp_w_startupIn a0 (mmI σ (10 * j + 4) 0 (0 : Int32))) = 0 then
      (mmI σ (10 * j + 4) 0 (0 : Int32))
    else
      (sp_n_hearListening j (sp_w_idIn a0 (mmI σ (10 * j + 4) 0 (0 : Int32))) (sp_w_cycleIn a0 (mmI σ (10 * j + 4) 0 (0 : Int32))) (mmI σ (10 * j + 4) 0 (0 : Int32)))
  else
    (mmI σ (10 * j + 4) 0 (0 : Int32))
else
  if a1 = 0 then
    (sp_n_hearInTime j a0 σ)
  else
    σ
theorem ev_n_hear (hN : 65 ≤ N) (j : Nat) (a0 : Int64) (a1 : Int32) (σ : mmS) (hj : j < 4) (hz : a1 = 0 → idok (sp_w_idIn a0 σ)) : Ev N L xs (58, 0, lv_args 0 [.ref (10 * j + 2), .long a0, .int a1], [], 0, σ) (mmSV (sp_n_hear j a0 a1 σ)) := by
  unfold sp_n_hear
  show Ev N L xs (58, 0, [(0, .ref (10 * j + 2)), (1, .long a0), (3, .int a1)], [], 0, σ) _
  refine ev_aload_n d_58_0 rfl ?_
  refine ev_getf (v := .int (σ.1 (10 * j + 2) 7)) d_58_1 fl_3_56 (ltn (by decide) hj hN) (shq_2 hj) rfl ?_
  refine ev_iconst d_58_4 ci_1 ?_
  refine ev_icmp_ne mmSV (tgt := 42) d_58_5 rfl (fun _h5 => ?_) (fun _h5 => ?_)
  · refine ev_iload_n d_58_42 rfl ?_
    refine ev_if_ne mmSV (tgt := 51) d_58_43 rfl (fun _h43 => ?_) (fun _h43 => ?_)
    · exact ev_vret d_58_51 rfl
    · refine ev_aload_n d_58_46 rfl ?_
      refine ev_lload_n d_58_47 rfl ?_
      refine ev_cvV (As := [.long a0]) (t := []) (e' := 0) d_58_48 ml_3_108 rfl rfl rfl rfl rfl (by decide) rfl (ltn (by decide) hj hN) (shq_2 hj) rfl rfl (ev_n_hearInTime hN j a0 σ hj (hz (by assumption))) ?_
      exact ev_vret d_58_51 rfl
  · refine ev_aload_n d_58_8 rfl ?_
    refine ev_getf (v := .ref (10 * j + 4)) d_58_9 fl_3_28 (ltn (by decide) hj hN) (shq_2 hj) rfl ?_
    refine ev_iconst d_58_12 ci_0 ?_
    refine ev_putf d_58_13 fl_3_88 (ltn (by decide) hj hN) (shq_4 hj) rfl (Or.inl rfl) ?_
    refine ev_iload_n d_58_16 rfl ?_
    refine ev_if_ne mmSV (tgt := 51) d_58_17 rfl (fun _h17 => ?_) (fun _h17 => ?_)
    · exact ev_vret d_58_51 rfl
    · refine ev_lload_n d_58_20 rfl ?_
      refine ev_csI (As := [.long a0]) (t := []) (e' := 0) d_58_21 ml_3_91 rfl rfl rfl rfl rfl (by decide) rfl rfl (ev_w_startupIn hN a0 (mmI σ (10 * j + 4) 0 (0 : Int32))) ?_
      refine ev_if_eq mmSV (tgt := 51) d_58_24 rfl (fun _h24 => ?_) (fun _h24 => ?_)
      · exact ev_vret d_58_51 rfl
      · refine ev_aload_n d_58_27 rfl ?_
        refine ev_lload_n d_58_28 rfl ?_
        refine ev_csI (As := [.long a0]) (t := [.ref (10 * j + 2)]) (e' := 0) d_58_29 ml_3_97 rfl rfl rfl rfl rfl (by decide) rfl rfl (ev_w_idIn hN a0 (mmI σ (10 * j + 4) 0 (0 : Int32))) ?_
        refine ev_lload_n d_58_32 rfl ?_
        refine ev_csI (As := [.long a0]) (t := [.int (sp_w_idIn a0 (mmI σ (10 * j + 4) 0 (0 : Int32))), .ref (10 * j + 2)]) (e' := 0) d_58_33 ml_3_101 rfl rfl rfl rfl rfl (by decide) rfl rfl (ev_w_cycleIn hN a0 (mmI σ (10 * j + 4) 0 (0 : Int32))) ?_
        refine ev_cvV (As := [.int (sp_w_idIn a0 (mmI σ (10 * j + 4) 0 (0 : Int32))), .int (sp_w_cycleIn a0 (mmI σ (10 * j + 4) 0 (0 : Int32)))]) (t := []) (e' := 0) d_58_36 ml_3_104 rfl rfl rfl rfl rfl (by decide) rfl (ltn (by decide) hj hN) (shq_2 hj) rfl rfl (ev_n_hearListening hN j (sp_w_idIn a0 (mmI σ (10 * j + 4) 0 (0 : Int32))) (sp_w_cycleIn a0 (mmI σ (10 * j + 4) 0 (0 : Int32))) (mmI σ (10 * j + 4) 0 (0 : Int32)) hj) ?_
        refine ev_goto (tgt := 51) d_58_39 rfl ?_
        exact ev_vret d_58_51 rfl
def sp_w_isNoise (a0 : Int64) (σ : mmS) : Int32 :=
if (sp_w_isHeadRight a0 σ) = 0 then
  (1 : Int32)
else
  if (sp_w_isWholeRight a0 σ) = 0 then
    (1 : Int32)
  else
    if (sp_b_isWithin (sp_w_idIn a0 σ) (1 : Int32) (9 : Int32) σ) = 0 then
      (1 : Int32)
    else
      if (sp_w_startupIn a0 σ) = 0 then
        (0 : Int32)
      else
        if (sp_w_idIn a0 σ) ≤ (2 : Int32) then
          (0 : Int32)
        else
          (1 : Int32)
theorem ev_w_isNoise (hN : 65 ≤ N) (a0 : Int64) (σ : mmS) : Ev N L xs (53, 0, lv_args 0 [.long a0], [], 0, σ) ((mmPI σ) (sp_w_isNoise a0 σ)) := by
  unfold sp_w_isNoise
  show Ev N L xs (53, 0, [(0, .long a0)], [], 0, σ) _
  refine ev_lload_n d_53_0 rfl ?_
  refine ev_csI (As := [.long a0]) (t := []) (e' := 0) d_53_1 ml_8_22 rfl rfl rfl rfl rfl (by decide) rfl rfl (ev_w_isHeadRight hN a0 σ) ?_
  refine ev_if_eq (mmPI σ) (tgt := 14) d_53_4 rfl (fun _h4 => ?_) (fun _h4 => ?_)
  · refine ev_iconst d_53_14 ci_1 ?_
    exact ev_zret d_53_15 rfl (Or.inr rfl)
  · refine ev_lload_n d_53_7 rfl ?_
    refine ev_csI (As := [.long a0]) (t := []) (e' := 0) d_53_8 ml_8_26 rfl rfl rfl rfl rfl (by decide) rfl rfl (ev_w_isWholeRight hN a0 σ) ?_
    refine ev_if_ne (mmPI σ) (tgt := 16) d_53_11 rfl (fun _h11 => ?_) (fun _h11 => ?_)
    · refine ev_lload_n d_53_16 rfl ?_
      refine ev_csI (As := [.long a0]) (t := []) (e' := 0) d_53_17 ml_8_29 rfl rfl rfl rfl rfl (by decide) rfl rfl (ev_w_idIn hN a0 σ) ?_
      refine ev_istore_n (lv' := [(2, .int (sp_w_idIn a0 σ)), (0, .long a0)]) d_53_20 (by decide) rfl ?_
      refine ev_iload_n d_53_21 rfl ?_
      refine ev_iconst d_53_22 ci_1 ?_
      refine ev_bipush d_53_23 cb_9 ?_
      refine ev_csI (As := [.int (sp_w_idIn a0 σ), .int (1 : Int32), .int (9 : Int32)]) (t := []) (e' := 0) d_53_25 ml_8_33 rfl rfl rfl rfl rfl (by decide) rfl rfl (ev_b_isWithin hN (sp_w_idIn a0 σ) (1 : Int32) (9 : Int32) σ) ?_
      refine ev_if_eq (mmPI σ) (tgt := 43) d_53_28 rfl (fun _h28 => ?_) (fun _h28 => ?_)
      · refine ev_iconst d_53_43 ci_1 ?_
        refine ev_goto (tgt := 48) d_53_44 rfl ?_
        exact ev_zret d_53_48 rfl (Or.inr rfl)
      · refine ev_lload_n d_53_31 rfl ?_
        refine ev_csI (As := [.long a0]) (t := []) (e' := 0) d_53_32 ml_8_37 rfl rfl rfl rfl rfl (by decide) rfl rfl (ev_w_startupIn hN a0 σ) ?_
        refine ev_if_eq (mmPI σ) (tgt := 47) d_53_35 rfl (fun _h35 => ?_) (fun _h35 => ?_)
        · refine ev_iconst d_53_47 ci_0 ?_
          exact ev_zret d_53_48 rfl (Or.inl rfl)
        · refine ev_iload_n d_53_38 rfl ?_
          refine ev_iconst d_53_39 ci_2 ?_
          refine ev_icmp_le (mmPI σ) (tgt := 47) d_53_40 rfl (fun _h40 => ?_) (fun _h40 => ?_)
          · refine ev_iconst d_53_47 ci_0 ?_
            exact ev_zret d_53_48 rfl (Or.inl rfl)
          · refine ev_iconst d_53_43 ci_1 ?_
            refine ev_goto (tgt := 48) d_53_44 rfl ?_
            exact ev_zret d_53_48 rfl (Or.inr rfl)
    · refine ev_iconst d_53_14 ci_1 ?_
      exact ev_zret d_53_15 rfl (Or.inr rfl)
theorem noise_id {w : Int64} {σ : mmS} (h : sp_w_isNoise w σ = 0) : idok (sp_w_idIn w σ) := by
  by_cases h3 : sp_b_isWithin (sp_w_idIn w σ) 1 9 σ = 0
  · exfalso
    unfold sp_w_isNoise at h
    rw [if_pos h3] at h
    repeat' (first | exact absurd h (by decide) | split at h)
  · unfold sp_b_isWithin at h3
    refine ⟨fun q => ?_, fun q => ?_⟩
    · rw [if_pos q] at h3; exact h3 rfl
    · rw [if_pos q] at h3
      split at h3 <;> exact h3 rfl
theorem sp_n_hear_2 (j : Nat) (w : Int64) (b : Int32) (σ : mmS) : (sp_n_hear j w b σ).2 = σ.2 := by
  unfold sp_n_hear sp_n_hearListening sp_n_hearInTime sp_s_note sp_d_note
  repeat' (first | rfl | split)
def sp_b_carry_L4 (d : Int32) (z : Int32) (σ : mmS) : mmS :=
σ
theorem ev_b_carry_L4 (hN : 65 ≤ N) (d : Int32) (z : Int32) (σ : mmS) (hz : z = 0 → idok (sp_w_idIn (σ.2 0 4) σ)) : Ev N L xs (52, 45, [(0, .ref 0), (1, .int d), (4, .int z), (5, .int (4 : Int32))], [], 0, σ) (mmSV (sp_b_carry_L4 d z σ)) := by
  unfold sp_b_carry_L4
  refine ev_iload d_52_45 rfl ?_
  refine ev_iconst d_52_47 ci_4 ?_
  refine ev_icmpT (tgt := 92) d_52_48 rfl (show (4 : Int32) ≤ (4 : Int32) by decide) ?_
  exact ev_vret d_52_92 rfl
def sp_b_carry_L3 (d : Int32) (z : Int32) (σ : mmS) : mmS :=
if (3 : Int32) = d then
  (sp_b_carry_L4 d z σ)
else
  if (sp_n_isAwake 3 σ) = 0 then
    (sp_b_carry_L4 d z σ)
  else
    (sp_b_carry_L4 d z (sp_n_hear 3 (σ.2 0 4) z σ))
theorem ev_b_carry_L3 (hN : 65 ≤ N) (d : Int32) (z : Int32) (σ : mmS) (hz : z = 0 → idok (sp_w_idIn (σ.2 0 4) σ)) : Ev N L xs (52, 45, [(0, .ref 0), (1, .int d), (4, .int z), (5, .int (3 : Int32))], [], 0, σ) (mmSV (sp_b_carry_L3 d z σ)) := by
  unfold sp_b_carry_L3
  refine ev_iload d_52_45 rfl ?_
  refine ev_iconst d_52_47 ci_4 ?_
  refine ev_icmpF (tgt := 92) d_52_48 rfl (show ¬ ((4 : Int32) ≤ (3 : Int32)) by decide) ?_
  refine ev_iload d_52_51 rfl ?_
  refine ev_iload_n d_52_53 rfl ?_
  refine ev_icmp_eq mmSV (tgt := 86) d_52_54 rfl (fun _h54 => ?_) (fun _h54 => ?_)
  · refine ev_iinc (lv' := [(5, .int (4 : Int32)), (0, .ref 0), (1, .int d), (4, .int z)]) (v := (4 : Int32)) d_52_86 rfl (by decide) (by decide) rfl ?_
    refine ev_goto (tgt := 45) d_52_89 rfl ?_
    refine ev_sub (lv' := [(0, .ref 0), (1, .int d), (4, .int z), (5, .int (4 : Int32))]) (by simp) ?_
    exact ev_b_carry_L4 hN d z σ (by first | exact hz | (rw [sp_n_hear_2]; exact hz))
  · refine ev_aload_n d_52_57 rfl ?_
    refine ev_getf (v := .ref 1) d_52_58 fl_6_11 (ltk (by decide) hN) rfl rfl ?_
    refine ev_iload d_52_61 rfl ?_
    refine ev_aaload (i := 3) d_52_63 (ltk (by decide) hN) rfl (vpi (by decide)) (by decide) ?_
    show Ev N L xs (52, 64, [(0, .ref 0), (1, .int d), (4, .int z), (5, .int (3 : Int32))], [.ref 32], 0, σ) _
    refine ev_cvI (As := []) (t := []) (e' := 0) d_52_64 ml_6_28 rfl rfl rfl rfl rfl (by decide) rfl (ltk (by decide) hN) rfl rfl rfl (ev_n_isAwake hN 3 σ (by decide)) ?_
    refine ev_if_eq mmSV (tgt := 86) d_52_67 rfl (fun _h67 => ?_) (fun _h67 => ?_)
    · refine ev_iinc (lv' := [(5, .int (4 : Int32)), (0, .ref 0), (1, .int d), (4, .int z)]) (v := (4 : Int32)) d_52_86 rfl (by decide) (by decide) rfl ?_
      refine ev_goto (tgt := 45) d_52_89 rfl ?_
      refine ev_sub (lv' := [(0, .ref 0), (1, .int d), (4, .int z), (5, .int (4 : Int32))]) (by simp) ?_
      exact ev_b_carry_L4 hN d z σ (by first | exact hz | (rw [sp_n_hear_2]; exact hz))
    · refine ev_aload_n d_52_70 rfl ?_
      refine ev_getf (v := .ref 1) d_52_71 fl_6_11 (ltk (by decide) hN) rfl rfl ?_
      refine ev_iload d_52_74 rfl ?_
      refine ev_aaload (i := 3) d_52_76 (ltk (by decide) hN) rfl (vpi (by decide)) (by decide) ?_
      show Ev N L xs (52, 77, [(0, .ref 0), (1, .int d), (4, .int z), (5, .int (3 : Int32))], [.ref 32], 0, σ) _
      refine ev_aload_n d_52_77 rfl ?_
      refine ev_getf (v := .long (σ.2 0 4)) d_52_78 fl_6_20 (ltk (by decide) hN) rfl rfl ?_
      refine ev_iload d_52_81 rfl ?_
      refine ev_cvV (As := [.long (σ.2 0 4), .int z]) (t := []) (e' := 0) d_52_83 ml_6_194 rfl rfl rfl rfl rfl (by decide) rfl (ltk (by decide) hN) rfl rfl rfl (ev_n_hear hN 3 (σ.2 0 4) z σ (by decide) hz) ?_
      refine ev_iinc (lv' := [(5, .int (4 : Int32)), (0, .ref 0), (1, .int d), (4, .int z)]) (v := (4 : Int32)) d_52_86 rfl (by decide) (by decide) rfl ?_
      refine ev_goto (tgt := 45) d_52_89 rfl ?_
      refine ev_sub (lv' := [(0, .ref 0), (1, .int d), (4, .int z), (5, .int (4 : Int32))]) (by simp) ?_
      exact ev_b_carry_L4 hN d z (sp_n_hear 3 (σ.2 0 4) z σ) (by first | exact hz | (rw [sp_n_hear_2]; exact hz))
def sp_b_carry_L2 (d : Int32) (z : Int32) (σ : mmS) : mmS :=
if (2 : Int32) = d then
  (sp_b_carry_L3 d z σ)
else
  if (sp_n_isAwake 2 σ) = 0 then
    (sp_b_carry_L3 d z σ)
  else
    (sp_b_carry_L3 d z (sp_n_hear 2 (σ.2 0 4) z σ))
theorem ev_b_carry_L2 (hN : 65 ≤ N) (d : Int32) (z : Int32) (σ : mmS) (hz : z = 0 → idok (sp_w_idIn (σ.2 0 4) σ)) : Ev N L xs (52, 45, [(0, .ref 0), (1, .int d), (4, .int z), (5, .int (2 : Int32))], [], 0, σ) (mmSV (sp_b_carry_L2 d z σ)) := by
  unfold sp_b_carry_L2
  refine ev_iload d_52_45 rfl ?_
  refine ev_iconst d_52_47 ci_4 ?_
  refine ev_icmpF (tgt := 92) d_52_48 rfl (show ¬ ((4 : Int32) ≤ (2 : Int32)) by decide) ?_
  refine ev_iload d_52_51 rfl ?_
  refine ev_iload_n d_52_53 rfl ?_
  refine ev_icmp_eq mmSV (tgt := 86) d_52_54 rfl (fun _h54 => ?_) (fun _h54 => ?_)
  · refine ev_iinc (lv' := [(5, .int (3 : Int32)), (0, .ref 0), (1, .int d), (4, .int z)]) (v := (3 : Int32)) d_52_86 rfl (by decide) (by decide) rfl ?_
    refine ev_goto (tgt := 45) d_52_89 rfl ?_
    refine ev_sub (lv' := [(0, .ref 0), (1, .int d), (4, .int z), (5, .int (3 : Int32))]) (by simp) ?_
    exact ev_b_carry_L3 hN d z σ (by first | exact hz | (rw [sp_n_hear_2]; exact hz))
  · refine ev_aload_n d_52_57 rfl ?_
    refine ev_getf (v := .ref 1) d_52_58 fl_6_11 (ltk (by decide) hN) rfl rfl ?_
    refine ev_iload d_52_61 rfl ?_
    refine ev_aaload (i := 2) d_52_63 (ltk (by decide) hN) rfl (vpi (by decide)) (by decide) ?_
    show Ev N L xs (52, 64, [(0, .ref 0), (1, .int d), (4, .int z), (5, .int (2 : Int32))], [.ref 22], 0, σ) _
    refine ev_cvI (As := []) (t := []) (e' := 0) d_52_64 ml_6_28 rfl rfl rfl rfl rfl (by decide) rfl (ltk (by decide) hN) rfl rfl rfl (ev_n_isAwake hN 2 σ (by decide)) ?_
    refine ev_if_eq mmSV (tgt := 86) d_52_67 rfl (fun _h67 => ?_) (fun _h67 => ?_)
    · refine ev_iinc (lv' := [(5, .int (3 : Int32)), (0, .ref 0), (1, .int d), (4, .int z)]) (v := (3 : Int32)) d_52_86 rfl (by decide) (by decide) rfl ?_
      refine ev_goto (tgt := 45) d_52_89 rfl ?_
      refine ev_sub (lv' := [(0, .ref 0), (1, .int d), (4, .int z), (5, .int (3 : Int32))]) (by simp) ?_
      exact ev_b_carry_L3 hN d z σ (by first | exact hz | (rw [sp_n_hear_2]; exact hz))
    · refine ev_aload_n d_52_70 rfl ?_
      refine ev_getf (v := .ref 1) d_52_71 fl_6_11 (ltk (by decide) hN) rfl rfl ?_
      refine ev_iload d_52_74 rfl ?_
      refine ev_aaload (i := 2) d_52_76 (ltk (by decide) hN) rfl (vpi (by decide)) (by decide) ?_
      show Ev N L xs (52, 77, [(0, .ref 0), (1, .int d), (4, .int z), (5, .int (2 : Int32))], [.ref 22], 0, σ) _
      refine ev_aload_n d_52_77 rfl ?_
      refine ev_getf (v := .long (σ.2 0 4)) d_52_78 fl_6_20 (ltk (by decide) hN) rfl rfl ?_
      refine ev_iload d_52_81 rfl ?_
      refine ev_cvV (As := [.long (σ.2 0 4), .int z]) (t := []) (e' := 0) d_52_83 ml_6_194 rfl rfl rfl rfl rfl (by decide) rfl (ltk (by decide) hN) rfl rfl rfl (ev_n_hear hN 2 (σ.2 0 4) z σ (by decide) hz) ?_
      refine ev_iinc (lv' := [(5, .int (3 : Int32)), (0, .ref 0), (1, .int d), (4, .int z)]) (v := (3 : Int32)) d_52_86 rfl (by decide) (by decide) rfl ?_
      refine ev_goto (tgt := 45) d_52_89 rfl ?_
      refine ev_sub (lv' := [(0, .ref 0), (1, .int d), (4, .int z), (5, .int (3 : Int32))]) (by simp) ?_
      exact ev_b_carry_L3 hN d z (sp_n_hear 2 (σ.2 0 4) z σ) (by first | exact hz | (rw [sp_n_hear_2]; exact hz))
def sp_b_carry_L1 (d : Int32) (z : Int32) (σ : mmS) : mmS :=
if (1 : Int32) = d then
  (sp_b_carry_L2 d z σ)
else
  if (sp_n_isAwake 1 σ) = 0 then
    (sp_b_carry_L2 d z σ)
  else
    (sp_b_carry_L2 d z (sp_n_hear 1 (σ.2 0 4) z σ))
theorem ev_b_carry_L1 (hN : 65 ≤ N) (d : Int32) (z : Int32) (σ : mmS) (hz : z = 0 → idok (sp_w_idIn (σ.2 0 4) σ)) : Ev N L xs (52, 45, [(0, .ref 0), (1, .int d), (4, .int z), (5, .int (1 : Int32))], [], 0, σ) (mmSV (sp_b_carry_L1 d z σ)) := by
  unfold sp_b_carry_L1
  refine ev_iload d_52_45 rfl ?_
  refine ev_iconst d_52_47 ci_4 ?_
  refine ev_icmpF (tgt := 92) d_52_48 rfl (show ¬ ((4 : Int32) ≤ (1 : Int32)) by decide) ?_
  refine ev_iload d_52_51 rfl ?_
  refine ev_iload_n d_52_53 rfl ?_
  refine ev_icmp_eq mmSV (tgt := 86) d_52_54 rfl (fun _h54 => ?_) (fun _h54 => ?_)
  · refine ev_iinc (lv' := [(5, .int (2 : Int32)), (0, .ref 0), (1, .int d), (4, .int z)]) (v := (2 : Int32)) d_52_86 rfl (by decide) (by decide) rfl ?_
    refine ev_goto (tgt := 45) d_52_89 rfl ?_
    refine ev_sub (lv' := [(0, .ref 0), (1, .int d), (4, .int z), (5, .int (2 : Int32))]) (by simp) ?_
    exact ev_b_carry_L2 hN d z σ (by first | exact hz | (rw [sp_n_hear_2]; exact hz))
  · refine ev_aload_n d_52_57 rfl ?_
    refine ev_getf (v := .ref 1) d_52_58 fl_6_11 (ltk (by decide) hN) rfl rfl ?_
    refine ev_iload d_52_61 rfl ?_
    refine ev_aaload (i := 1) d_52_63 (ltk (by decide) hN) rfl (vpi (by decide)) (by decide) ?_
    show Ev N L xs (52, 64, [(0, .ref 0), (1, .int d), (4, .int z), (5, .int (1 : Int32))], [.ref 12], 0, σ) _
    refine ev_cvI (As := []) (t := []) (e' := 0) d_52_64 ml_6_28 rfl rfl rfl rfl rfl (by decide) rfl (ltk (by decide) hN) rfl rfl rfl (ev_n_isAwake hN 1 σ (by decide)) ?_
    refine ev_if_eq mmSV (tgt := 86) d_52_67 rfl (fun _h67 => ?_) (fun _h67 => ?_)
    · refine ev_iinc (lv' := [(5, .int (2 : Int32)), (0, .ref 0), (1, .int d), (4, .int z)]) (v := (2 : Int32)) d_52_86 rfl (by decide) (by decide) rfl ?_
      refine ev_goto (tgt := 45) d_52_89 rfl ?_
      refine ev_sub (lv' := [(0, .ref 0), (1, .int d), (4, .int z), (5, .int (2 : Int32))]) (by simp) ?_
      exact ev_b_carry_L2 hN d z σ (by first | exact hz | (rw [sp_n_hear_2]; exact hz))
    · refine ev_aload_n d_52_70 rfl ?_
      refine ev_getf (v := .ref 1) d_52_71 fl_6_11 (ltk (by decide) hN) rfl rfl ?_
      refine ev_iload d_52_74 rfl ?_
      refine ev_aaload (i := 1) d_52_76 (ltk (by decide) hN) rfl (vpi (by decide)) (by decide) ?_
      show Ev N L xs (52, 77, [(0, .ref 0), (1, .int d), (4, .int z), (5, .int (1 : Int32))], [.ref 12], 0, σ) _
      refine ev_aload_n d_52_77 rfl ?_
      refine ev_getf (v := .long (σ.2 0 4)) d_52_78 fl_6_20 (ltk (by decide) hN) rfl rfl ?_
      refine ev_iload d_52_81 rfl ?_
      refine ev_cvV (As := [.long (σ.2 0 4), .int z]) (t := []) (e' := 0) d_52_83 ml_6_194 rfl rfl rfl rfl rfl (by decide) rfl (ltk (by decide) hN) rfl rfl rfl (ev_n_hear hN 1 (σ.2 0 4) z σ (by decide) hz) ?_
      refine ev_iinc (lv' := [(5, .int (2 : Int32)), (0, .ref 0), (1, .int d), (4, .int z)]) (v := (2 : Int32)) d_52_86 rfl (by decide) (by decide) rfl ?_
      refine ev_goto (tgt := 45) d_52_89 rfl ?_
      refine ev_sub (lv' := [(0, .ref 0), (1, .int d), (4, .int z), (5, .int (2 : Int32))]) (by simp) ?_
      exact ev_b_carry_L2 hN d z (sp_n_hear 1 (σ.2 0 4) z σ) (by first | exact hz | (rw [sp_n_hear_2]; exact hz))
def sp_b_carry_L0 (d : Int32) (z : Int32) (σ : mmS) : mmS :=
if (0 : Int32) = d then
  (sp_b_carry_L1 d z σ)
else
  if (sp_n_isAwake 0 σ) = 0 then
    (sp_b_carry_L1 d z σ)
  else
    (sp_b_carry_L1 d z (sp_n_hear 0 (σ.2 0 4) z σ))
theorem ev_b_carry_L0 (hN : 65 ≤ N) (d : Int32) (z : Int32) (σ : mmS) (hz : z = 0 → idok (sp_w_idIn (σ.2 0 4) σ)) : Ev N L xs (52, 45, [(0, .ref 0), (1, .int d), (4, .int z), (5, .int (0 : Int32))], [], 0, σ) (mmSV (sp_b_carry_L0 d z σ)) := by
  unfold sp_b_carry_L0
  refine ev_iload d_52_45 rfl ?_
  refine ev_iconst d_52_47 ci_4 ?_
  refine ev_icmpF (tgt := 92) d_52_48 rfl (show ¬ ((4 : Int32) ≤ (0 : Int32)) by decide) ?_
  refine ev_iload d_52_51 rfl ?_
  refine ev_iload_n d_52_53 rfl ?_
  refine ev_icmp_eq mmSV (tgt := 86) d_52_54 rfl (fun _h54 => ?_) (fun _h54 => ?_)
  · refine ev_iinc (lv' := [(5, .int (1 : Int32)), (0, .ref 0), (1, .int d), (4, .int z)]) (v := (1 : Int32)) d_52_86 rfl (by decide) (by decide) rfl ?_
    refine ev_goto (tgt := 45) d_52_89 rfl ?_
    refine ev_sub (lv' := [(0, .ref 0), (1, .int d), (4, .int z), (5, .int (1 : Int32))]) (by simp) ?_
    exact ev_b_carry_L1 hN d z σ (by first | exact hz | (rw [sp_n_hear_2]; exact hz))
  · refine ev_aload_n d_52_57 rfl ?_
    refine ev_getf (v := .ref 1) d_52_58 fl_6_11 (ltk (by decide) hN) rfl rfl ?_
    refine ev_iload d_52_61 rfl ?_
    refine ev_aaload (i := 0) d_52_63 (ltk (by decide) hN) rfl (vpi (by decide)) (by decide) ?_
    show Ev N L xs (52, 64, [(0, .ref 0), (1, .int d), (4, .int z), (5, .int (0 : Int32))], [.ref 2], 0, σ) _
    refine ev_cvI (As := []) (t := []) (e' := 0) d_52_64 ml_6_28 rfl rfl rfl rfl rfl (by decide) rfl (ltk (by decide) hN) rfl rfl rfl (ev_n_isAwake hN 0 σ (by decide)) ?_
    refine ev_if_eq mmSV (tgt := 86) d_52_67 rfl (fun _h67 => ?_) (fun _h67 => ?_)
    · refine ev_iinc (lv' := [(5, .int (1 : Int32)), (0, .ref 0), (1, .int d), (4, .int z)]) (v := (1 : Int32)) d_52_86 rfl (by decide) (by decide) rfl ?_
      refine ev_goto (tgt := 45) d_52_89 rfl ?_
      refine ev_sub (lv' := [(0, .ref 0), (1, .int d), (4, .int z), (5, .int (1 : Int32))]) (by simp) ?_
      exact ev_b_carry_L1 hN d z σ (by first | exact hz | (rw [sp_n_hear_2]; exact hz))
    · refine ev_aload_n d_52_70 rfl ?_
      refine ev_getf (v := .ref 1) d_52_71 fl_6_11 (ltk (by decide) hN) rfl rfl ?_
      refine ev_iload d_52_74 rfl ?_
      refine ev_aaload (i := 0) d_52_76 (ltk (by decide) hN) rfl (vpi (by decide)) (by decide) ?_
      show Ev N L xs (52, 77, [(0, .ref 0), (1, .int d), (4, .int z), (5, .int (0 : Int32))], [.ref 2], 0, σ) _
      refine ev_aload_n d_52_77 rfl ?_
      refine ev_getf (v := .long (σ.2 0 4)) d_52_78 fl_6_20 (ltk (by decide) hN) rfl rfl ?_
      refine ev_iload d_52_81 rfl ?_
      refine ev_cvV (As := [.long (σ.2 0 4), .int z]) (t := []) (e' := 0) d_52_83 ml_6_194 rfl rfl rfl rfl rfl (by decide) rfl (ltk (by decide) hN) rfl rfl rfl (ev_n_hear hN 0 (σ.2 0 4) z σ (by decide) hz) ?_
      refine ev_iinc (lv' := [(5, .int (1 : Int32)), (0, .ref 0), (1, .int d), (4, .int z)]) (v := (1 : Int32)) d_52_86 rfl (by decide) (by decide) rfl ?_
      refine ev_goto (tgt := 45) d_52_89 rfl ?_
      refine ev_sub (lv' := [(0, .ref 0), (1, .int d), (4, .int z), (5, .int (1 : Int32))]) (by simp) ?_
      exact ev_b_carry_L1 hN d z (sp_n_hear 0 (σ.2 0 4) z σ) (by first | exact hz | (rw [sp_n_hear_2]; exact hz))
def sp_b_carry (a0 : Int32) (a1 : Int64) (σ : mmS) : mmS :=
if ((mmJ (mmJ σ 0 4 (a1 ^^^ (σ.2 0 1))) 0 1 (0 : Int64)).1 0 2) ≤ 0 then
  (sp_b_carry_L0 a0 (sp_w_isNoise ((mmJ (mmJ σ 0 4 (a1 ^^^ (σ.2 0 1))) 0 1 (0 : Int64)).2 0 4) (mmJ (mmJ σ 0 4 (a1 ^^^ (σ.2 0 1))) 0 1 (0 : Int64))) (mmJ (mmJ σ 0 4 (a1 ^^^ (σ.2 0 1))) 0 1 (0 : Int64)))
else
  (mmI (mmJ (mmJ σ 0 4 (a1 ^^^ (σ.2 0 1))) 0 1 (0 : Int64)) 0 2 (((mmJ (mmJ σ 0 4 (a1 ^^^ (σ.2 0 1))) 0 1 (0 : Int64)).1 0 2) - (1 : Int32)))
theorem ev_b_carry (hN : 65 ≤ N) (a0 : Int32) (a1 : Int64) (σ : mmS) : Ev N L xs (52, 0, lv_args 0 [.ref 0, .int a0, .long a1], [], 0, σ) (mmSV (sp_b_carry a0 a1 σ)) := by
  unfold sp_b_carry
  show Ev N L xs (52, 0, [(0, .ref 0), (1, .int a0), (2, .long a1)], [], 0, σ) _
  refine ev_aload_n d_52_0 rfl ?_
  refine ev_lload_n d_52_1 rfl ?_
  refine ev_aload_n d_52_2 rfl ?_
  refine ev_getf (v := .long (σ.2 0 1)) d_52_3 fl_6_88 (ltk (by decide) hN) rfl rfl ?_
  refine ev_lxor (v := (a1 ^^^ (σ.2 0 1))) d_52_6 rfl ?_
  refine ev_putl d_52_7 fl_6_20 (ltk (by decide) hN) rfl rfl rfl ?_
  refine ev_aload_n d_52_10 rfl ?_
  refine ev_lconst d_52_11 rfl ?_
  refine ev_putl d_52_12 fl_6_88 (ltk (by decide) hN) rfl rfl rfl ?_
  refine ev_aload_n d_52_15 rfl ?_
  refine ev_getf (v := .int ((mmJ (mmJ σ 0 4 (a1 ^^^ (σ.2 0 1))) 0 1 (0 : Int64)).1 0 2)) d_52_16 fl_6_91 (ltk (by decide) hN) rfl rfl ?_
  refine ev_if_le mmSV (tgt := 33) d_52_19 rfl (fun _h19 => ?_) (fun _h19 => ?_)
  · refine ev_aload_n d_52_33 rfl ?_
    refine ev_getf (v := .long ((mmJ (mmJ σ 0 4 (a1 ^^^ (σ.2 0 1))) 0 1 (0 : Int64)).2 0 4)) d_52_34 fl_6_20 (ltk (by decide) hN) rfl rfl ?_
    refine ev_csI (As := [.long ((mmJ (mmJ σ 0 4 (a1 ^^^ (σ.2 0 1))) 0 1 (0 : Int64)).2 0 4)]) (t := []) (e' := 0) d_52_37 ml_6_191 rfl rfl rfl rfl rfl (by decide) rfl rfl (ev_w_isNoise hN ((mmJ (mmJ σ 0 4 (a1 ^^^ (σ.2 0 1))) 0 1 (0 : Int64)).2 0 4) (mmJ (mmJ σ 0 4 (a1 ^^^ (σ.2 0 1))) 0 1 (0 : Int64))) ?_
    refine ev_istore (lv' := [(4, .int (sp_w_isNoise ((mmJ (mmJ σ 0 4 (a1 ^^^ (σ.2 0 1))) 0 1 (0 : Int64)).2 0 4) (mmJ (mmJ σ 0 4 (a1 ^^^ (σ.2 0 1))) 0 1 (0 : Int64)))), (0, .ref 0), (1, .int a0), (2, .long a1)]) d_52_40 (by decide) rfl ?_
    refine ev_iconst d_52_42 ci_0 ?_
    refine ev_istore (lv' := [(5, .int (0 : Int32)), (4, .int (sp_w_isNoise ((mmJ (mmJ σ 0 4 (a1 ^^^ (σ.2 0 1))) 0 1 (0 : Int64)).2 0 4) (mmJ (mmJ σ 0 4 (a1 ^^^ (σ.2 0 1))) 0 1 (0 : Int64)))), (0, .ref 0), (1, .int a0), (2, .long a1)]) d_52_43 (by decide) rfl ?_
    refine ev_sub (lv' := [(0, .ref 0), (1, .int a0), (4, .int (sp_w_isNoise ((mmJ (mmJ σ 0 4 (a1 ^^^ (σ.2 0 1))) 0 1 (0 : Int64)).2 0 4) (mmJ (mmJ σ 0 4 (a1 ^^^ (σ.2 0 1))) 0 1 (0 : Int64)))), (5, .int (0 : Int32))]) (by simp) ?_
    exact ev_b_carry_L0 hN a0 (sp_w_isNoise ((mmJ (mmJ σ 0 4 (a1 ^^^ (σ.2 0 1))) 0 1 (0 : Int64)).2 0 4) (mmJ (mmJ σ 0 4 (a1 ^^^ (σ.2 0 1))) 0 1 (0 : Int64))) (mmJ (mmJ σ 0 4 (a1 ^^^ (σ.2 0 1))) 0 1 (0 : Int64)) (fun h => noise_id h)
  · refine ev_aload_n d_52_22 rfl ?_
    refine ev_dup d_52_23 rfl ?_
    refine ev_getf (v := .int ((mmJ (mmJ σ 0 4 (a1 ^^^ (σ.2 0 1))) 0 1 (0 : Int64)).1 0 2)) d_52_24 fl_6_91 (ltk (by decide) hN) rfl rfl ?_
    refine ev_iconst d_52_27 ci_1 ?_
    refine ev_isub (v := (((mmJ (mmJ σ 0 4 (a1 ^^^ (σ.2 0 1))) 0 1 (0 : Int64)).1 0 2) - (1 : Int32))) d_52_28 rfl ?_
    refine ev_putf d_52_29 fl_6_91 (ltk (by decide) hN) rfl rfl (Or.inl rfl) ?_
    exact ev_vret d_52_32 rfl
end SP
