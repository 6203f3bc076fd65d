section SP
variable {N L : Nat} {xs : Nat → Int32}
theorem jm_decide {σ : mmS} {a b : Int32} (hJ : Jm σ) : Jm (sp_m_decide a b σ) := by
  unfold sp_m_decide
  repeat' (with_reducible first | exact hJ | exact jm_listen hJ | refine jm_I (by decide) ?_ | split)
theorem jm_m_reflB_L4 {σ : mmS} {a b : Int32} (hJ : Jm σ) : Jm (sp_m_reflB_L4 a b σ) := by
  unfold sp_m_reflB_L4
  repeat' (with_reducible first | exact hJ | refine jm_decide ?_ | refine jm_I (by decide) ?_ | split)
theorem jm_m_reflB_L3 {σ : mmS} {a b : Int32} (hJ : Jm σ) : Jm (sp_m_reflB_L3 a b σ) := by
  unfold sp_m_reflB_L3
  repeat' (with_reducible first | exact hJ | refine jm_decide ?_ | refine jm_I (by decide) ?_ | refine jm_m_reflB_L4 ?_ | split)
theorem jm_m_reflB_L2 {σ : mmS} {a b : Int32} (hJ : Jm σ) : Jm (sp_m_reflB_L2 a b σ) := by
  unfold sp_m_reflB_L2
  repeat' (with_reducible first | exact hJ | refine jm_decide ?_ | refine jm_I (by decide) ?_ | refine jm_m_reflB_L3 ?_ | split)
theorem jm_m_reflB_L1 {σ : mmS} {a b : Int32} (hJ : Jm σ) : Jm (sp_m_reflB_L1 a b σ) := by
  unfold sp_m_reflB_L1
  repeat' (with_reducible first | exact hJ | refine jm_decide ?_ | refine jm_I (by decide) ?_ | refine jm_m_reflB_L2 ?_ | split)
theorem jm_m_reflB_L0 {σ : mmS} {a b : Int32} (hJ : Jm σ) : Jm (sp_m_reflB_L0 a b σ) := by
  unfold sp_m_reflB_L0
  repeat' (with_reducible first | exact hJ | refine jm_decide ?_ | refine jm_I (by decide) ?_ | refine jm_m_reflB_L1 ?_ | split)
theorem jm_m_reflA_L4 {σ : mmS} {a b : Int32} (hJ : Jm σ) : Jm (sp_m_reflA_L4 a b σ) := by
  unfold sp_m_reflA_L4
  repeat' (with_reducible first | exact hJ | refine jm_decide ?_ | refine jm_I (by decide) ?_ | refine jm_m_reflB_L0 ?_ | split)
theorem jm_m_reflA_L3 {σ : mmS} {a b : Int32} (hJ : Jm σ) : Jm (sp_m_reflA_L3 a b σ) := by
  unfold sp_m_reflA_L3
  repeat' (with_reducible first | exact hJ | refine jm_decide ?_ | refine jm_I (by decide) ?_ | refine jm_m_reflA_L4 ?_ | refine jm_m_reflB_L0 ?_ | split)
theorem jm_m_reflA_L2 {σ : mmS} {a b : Int32} (hJ : Jm σ) : Jm (sp_m_reflA_L2 a b σ) := by
  unfold sp_m_reflA_L2
  repeat' (with_reducible first | exact hJ | refine jm_decide ?_ | refine jm_I (by decide) ?_ | refine jm_m_reflA_L3 ?_ | refine jm_m_reflB_L0 ?_ | split)
theorem jm_m_reflA_L1 {σ : mmS} {a b : Int32} (hJ : Jm σ) : Jm (sp_m_reflA_L1 a b σ) := by
  unfold sp_m_reflA_L1
  repeat' (with_reducible first | exact hJ | refine jm_decide ?_ | refine jm_I (by decide) ?_ | refine jm_m_reflA_L2 ?_ | refine jm_m_reflB_L0 ?_ | split)
theorem jm_m_reflA_L0 {σ : mmS} {a b : Int32} (hJ : Jm σ) : Jm (sp_m_reflA_L0 a b σ) := by
  unfold sp_m_reflA_L0
  repeat' (with_reducible first | exact hJ | refine jm_decide ?_ | refine jm_I (by decide) ?_ | refine jm_m_reflA_L1 ?_ | refine jm_m_reflB_L0 ?_ | split)
theorem jm_reflect {σ : mmS} {a : Int32} (hJ : Jm σ) : Jm (sp_m_reflect a σ) := by
  unfold sp_m_reflect
  repeat' (with_reducible first | exact hJ | refine jm_m_reflA_L0 ?_ | refine jm_I (by decide) ?_)
def sp_m_sends (a0 : Int32) (σ : mmS) : Int32 × mmS :=
if (σ.1 49 a0.toNatClampNeg) = (((10 : Int32) * a0) + (4 : Int32)) then
  if (σ.1 44 a0.toNatClampNeg) = (2 : Int32) then
    if (2 : Int32) ≤ a0 then
      ((1 : Int32), (mmJ σ 42 23 (sp_m_wordOf (a0 + (1 : Int32)) (σ.1 50 a0.toNatClampNeg) (0 : Int32) (σ.1 59 a0.toNatClampNeg) σ)))
    else
      ((1 : Int32), (mmJ σ 42 23 (sp_m_wordOf (a0 + (1 : Int32)) (σ.1 50 a0.toNatClampNeg) (1 : Int32) (σ.1 59 a0.toNatClampNeg) σ)))
  else
    if (σ.1 44 a0.toNatClampNeg) = (4 : Int32) then
      if (2 : Int32) ≤ a0 then
        ((1 : Int32), (mmJ σ 42 23 (sp_m_wordOf (a0 + (1 : Int32)) (σ.1 50 a0.toNatClampNeg) (0 : Int32) (σ.1 59 a0.toNatClampNeg) σ)))
      else
        ((1 : Int32), (mmJ σ 42 23 (sp_m_wordOf (a0 + (1 : Int32)) (σ.1 50 a0.toNatClampNeg) (1 : Int32) (σ.1 59 a0.toNatClampNeg) σ)))
    else
      if (2 : Int32) ≤ a0 then
        ((0 : Int32), σ)
      else
        if (σ.1 44 a0.toNatClampNeg) = (3 : Int32) then
          if (σ.1 54 a0.toNatClampNeg) ≤ 0 then
            ((0 : Int32), σ)
          else
            if (2 : Int32) ≤ a0 then
              ((1 : Int32), (mmJ σ 42 23 (sp_m_wordOf (a0 + (1 : Int32)) (σ.1 50 a0.toNatClampNeg) (0 : Int32) (σ.1 59 a0.toNatClampNeg) σ)))
            else
              ((1 : Int32), (mmJ σ 42 23 (sp_m_wordOf (a0 + (1 : Int32)) (σ.1 50 a0.toNatClampNeg) (1 : Int32) (σ.1 59 a0.toNatClampNeg) σ)))
        else
          ((0 : Int32), σ)
else
  if (σ.1 49 a0.toNatClampNeg) ≤ (40 : Int32) then
    ((0 : Int32), σ)
  else
    if (60 : Int32) ≤ (σ.1 49 a0.toNatClampNeg) then
      ((0 : Int32), σ)
    else
      if ((σ.1 49 a0.toNatClampNeg) - (σ.1 49 a0.toNatClampNeg) / (4 : Int32) * (4 : Int32)) = (2 : Int32) then
        if (σ.1 44 a0.toNatClampNeg) = (4 : Int32) then
          if (σ.1 56 a0.toNatClampNeg) = 0 then
            if (σ.1 60 a0.toNatClampNeg) = 0 then
              ((0 : Int32), σ)
            else
              if (σ.1 60 a0.toNatClampNeg) = (σ.1 55 a0.toNatClampNeg) then
                if ((σ.1 50 a0.toNatClampNeg) - (σ.1 50 a0.toNatClampNeg) / (σ.1 63 a0.toNatClampNeg) * (σ.1 63 a0.toNatClampNeg)) = (σ.1 62 a0.toNatClampNeg) then
                  ((1 : Int32), (mmI (mmI (mmJ σ 42 23 (sp_m_wordOf (σ.1 60 a0.toNatClampNeg) (σ.1 50 a0.toNatClampNeg) (0 : Int32) (σ.1 61 a0.toNatClampNeg) σ)) 60 a0.toNatClampNeg (0 : Int32)) 56 a0.toNatClampNeg (1 : Int32)))
                else
                  ((0 : Int32), σ)
              else
                ((0 : Int32), σ)
          else
            ((0 : Int32), σ)
        else
          ((0 : Int32), σ)
      else
        ((0 : Int32), σ)
theorem ev_m_sends (hN : 65 ≤ N) (a0 : Int32) (σ : mmS) (hn : vp_in a0 4) (hJ : Jm σ) : Ev N L xs (110, 0, lv_args 0 [.ref 42, .int a0], [], 0, σ) (mmSI (sp_m_sends a0 σ)) := by
  unfold sp_m_sends
  show Ev N L xs (110, 0, [(0, .ref 42), (1, .int a0)], [], 0, σ) _
  refine ev_aload_n d_110_0 rfl ?_
  refine ev_getf (v := .ref 49) d_110_1 fl_7_28 (ltk (by decide) hN) rfl rfl ?_
  refine ev_iload_n d_110_4 rfl ?_
  refine ev_iald (i := a0.toNatClampNeg) d_110_5 (ltk (by decide) hN) rfl (by first | assumption | (rcases n4 hn with rfl | rfl | rfl | rfl <;> exact vpi (by decide))) rfl ?_
  refine ev_istore_n (lv' := [(2, .int (σ.1 49 a0.toNatClampNeg)), (0, .ref 42), (1, .int a0)]) d_110_6 (by decide) rfl ?_
  refine ev_iload_n d_110_7 rfl ?_
  refine ev_bipush d_110_8 cb_10 ?_
  refine ev_iload_n d_110_10 rfl ?_
  refine ev_imul (v := ((10 : Int32) * a0)) d_110_11 rfl ?_
  refine ev_iconst d_110_12 ci_4 ?_
  refine ev_iadd (v := (((10 : Int32) * a0) + (4 : Int32))) d_110_13 rfl ?_
  refine ev_icmp_ne mmSI (tgt := 105) d_110_14 rfl (fun _h14 => ?_) (fun _h14 => ?_)
  · refine ev_iload_n d_110_105 rfl ?_
    refine ev_bipush d_110_106 cb_40 ?_
    refine ev_icmp_le mmSI (tgt := 128) d_110_108 rfl (fun _h108 => ?_) (fun _h108 => ?_)
    · refine ev_iconst d_110_128 ci_0 ?_
      refine ev_istore_n (lv' := [(3, .int (0 : Int32)), (2, .int (σ.1 49 a0.toNatClampNeg)), (0, .ref 42), (1, .int a0)]) d_110_129 (by decide) rfl ?_
      refine ev_iload_n d_110_130 rfl ?_
      refine ev_ifT (tgt := 177) d_110_131 rfl (show (0 : Int32) = (0 : Int32) by decide) ?_
      refine ev_iconst d_110_177 ci_0 ?_
      exact ev_zret d_110_178 rfl (Or.inl rfl)
    · refine ev_iload_n d_110_111 rfl ?_
      refine ev_bipush d_110_112 cb_60 ?_
      refine ev_icmp_ge mmSI (tgt := 128) d_110_114 rfl (fun _h114 => ?_) (fun _h114 => ?_)
      · refine ev_iconst d_110_128 ci_0 ?_
        refine ev_istore_n (lv' := [(3, .int (0 : Int32)), (2, .int (σ.1 49 a0.toNatClampNeg)), (0, .ref 42), (1, .int a0)]) d_110_129 (by decide) rfl ?_
        refine ev_iload_n d_110_130 rfl ?_
        refine ev_ifT (tgt := 177) d_110_131 rfl (show (0 : Int32) = (0 : Int32) by decide) ?_
        refine ev_iconst d_110_177 ci_0 ?_
        exact ev_zret d_110_178 rfl (Or.inl rfl)
      · refine ev_iload_n d_110_117 rfl ?_
        refine ev_iconst d_110_118 ci_4 ?_
        refine ev_irem (v := ((σ.1 49 a0.toNatClampNeg) - (σ.1 49 a0.toNatClampNeg) / (4 : Int32) * (4 : Int32))) d_110_119 (by decide) rfl ?_
        refine ev_iconst d_110_120 ci_2 ?_
        refine ev_icmp_ne mmSI (tgt := 128) d_110_121 rfl (fun _h121 => ?_) (fun _h121 => ?_)
        · refine ev_iconst d_110_128 ci_0 ?_
          refine ev_istore_n (lv' := [(3, .int (0 : Int32)), (2, .int (σ.1 49 a0.toNatClampNeg)), (0, .ref 42), (1, .int a0)]) d_110_129 (by decide) rfl ?_
          refine ev_iload_n d_110_130 rfl ?_
          refine ev_ifT (tgt := 177) d_110_131 rfl (show (0 : Int32) = (0 : Int32) by decide) ?_
          refine ev_iconst d_110_177 ci_0 ?_
          exact ev_zret d_110_178 rfl (Or.inl rfl)
        · refine ev_iconst d_110_124 ci_1 ?_
          refine ev_goto (tgt := 129) d_110_125 rfl ?_
          refine ev_istore_n (lv' := [(3, .int (1 : Int32)), (2, .int (σ.1 49 a0.toNatClampNeg)), (0, .ref 42), (1, .int a0)]) d_110_129 (by decide) rfl ?_
          refine ev_iload_n d_110_130 rfl ?_
          refine ev_ifF (tgt := 177) d_110_131 rfl (show ¬ ((1 : Int32) = (0 : Int32)) by decide) ?_
          refine ev_aload_n d_110_134 rfl ?_
          refine ev_getf (v := .ref 44) d_110_135 fl_7_13 (ltk (by decide) hN) rfl rfl ?_
          refine ev_iload_n d_110_138 rfl ?_
          refine ev_iald (i := a0.toNatClampNeg) d_110_139 (ltk (by decide) hN) rfl (by first | assumption | (rcases n4 hn with rfl | rfl | rfl | rfl <;> exact vpi (by decide))) rfl ?_
          refine ev_iconst d_110_140 ci_4 ?_
          refine ev_icmp_ne mmSI (tgt := 177) d_110_141 rfl (fun _h141 => ?_) (fun _h141 => ?_)
          · refine ev_iconst d_110_177 ci_0 ?_
            exact ev_zret d_110_178 rfl (Or.inl rfl)
          · refine ev_aload_n d_110_144 rfl ?_
            refine ev_getf (v := .ref 56) d_110_145 fl_7_49 (ltk (by decide) hN) rfl rfl ?_
            refine ev_iload_n d_110_148 rfl ?_
            refine ev_baload (i := a0.toNatClampNeg) d_110_149 (ltk (by decide) hN) rfl (by first | assumption | (rcases n4 hn with rfl | rfl | rfl | rfl <;> exact vpi (by decide))) rfl ?_
            refine ev_if_ne mmSI (tgt := 177) d_110_150 rfl (fun _h150 => ?_) (fun _h150 => ?_)
            · refine ev_iconst d_110_177 ci_0 ?_
              exact ev_zret d_110_178 rfl (Or.inl rfl)
            · refine ev_aload_n d_110_153 rfl ?_
              refine ev_getf (v := .ref 60) d_110_154 fl_7_62 (ltk (by decide) hN) rfl rfl ?_
              refine ev_iload_n d_110_157 rfl ?_
              refine ev_iald (i := a0.toNatClampNeg) d_110_158 (ltk (by decide) hN) rfl (by first | assumption | (rcases n4 hn with rfl | rfl | rfl | rfl <;> exact vpi (by decide))) rfl ?_
              refine ev_if_eq mmSI (tgt := 177) d_110_159 rfl (fun _h159 => ?_) (fun _h159 => ?_)
              · refine ev_iconst d_110_177 ci_0 ?_
                exact ev_zret d_110_178 rfl (Or.inl rfl)
              · refine ev_aload_n d_110_162 rfl ?_
                refine ev_getf (v := .ref 60) d_110_163 fl_7_62 (ltk (by decide) hN) rfl rfl ?_
                refine ev_iload_n d_110_166 rfl ?_
                refine ev_iald (i := a0.toNatClampNeg) d_110_167 (ltk (by decide) hN) rfl (by first | assumption | (rcases n4 hn with rfl | rfl | rfl | rfl <;> exact vpi (by decide))) rfl ?_
                refine ev_aload_n d_110_168 rfl ?_
                refine ev_getf (v := .ref 55) d_110_169 fl_7_46 (ltk (by decide) hN) rfl rfl ?_
                refine ev_iload_n d_110_172 rfl ?_
                refine ev_iald (i := a0.toNatClampNeg) d_110_173 (ltk (by decide) hN) rfl (by first | assumption | (rcases n4 hn with rfl | rfl | rfl | rfl <;> exact vpi (by decide))) rfl ?_
                refine ev_icmp_eq mmSI (tgt := 179) d_110_174 rfl (fun _h174 => ?_) (fun _h174 => ?_)
                · refine ev_aload_n d_110_179 rfl ?_
                  refine ev_getf (v := .ref 50) d_110_180 fl_7_31 (ltk (by decide) hN) rfl rfl ?_
                  refine ev_iload_n d_110_183 rfl ?_
                  refine ev_iald (i := a0.toNatClampNeg) d_110_184 (ltk (by decide) hN) rfl (by first | assumption | (rcases n4 hn with rfl | rfl | rfl | rfl <;> exact vpi (by decide))) rfl ?_
                  refine ev_aload_n d_110_185 rfl ?_
                  refine ev_getf (v := .ref 63) d_110_186 fl_7_71 (ltk (by decide) hN) rfl rfl ?_
                  refine ev_iload_n d_110_189 rfl ?_
                  refine ev_iald (i := a0.toNatClampNeg) d_110_190 (ltk (by decide) hN) rfl (by first | assumption | (rcases n4 hn with rfl | rfl | rfl | rfl <;> exact vpi (by decide))) rfl ?_
                  refine ev_irem (v := ((σ.1 50 a0.toNatClampNeg) - (σ.1 50 a0.toNatClampNeg) / (σ.1 63 a0.toNatClampNeg) * (σ.1 63 a0.toNatClampNeg))) d_110_191 ((hJ _ (n4_lt hn)).1.resolve_left (by assumption)) rfl ?_
                  refine ev_aload_n d_110_192 rfl ?_
                  refine ev_getf (v := .ref 62) d_110_193 fl_7_68 (ltk (by decide) hN) rfl rfl ?_
                  refine ev_iload_n d_110_196 rfl ?_
                  refine ev_iald (i := a0.toNatClampNeg) d_110_197 (ltk (by decide) hN) rfl (by first | assumption | (rcases n4 hn with rfl | rfl | rfl | rfl <;> exact vpi (by decide))) rfl ?_
                  refine ev_icmp_eq mmSI (tgt := 203) d_110_198 rfl (fun _h198 => ?_) (fun _h198 => ?_)
                  · refine ev_aload_n d_110_203 rfl ?_
                    refine ev_aload_n d_110_204 rfl ?_
                    refine ev_getf (v := .ref 60) d_110_205 fl_7_62 (ltk (by decide) hN) rfl rfl ?_
                    refine ev_iload_n d_110_208 rfl ?_
                    refine ev_iald (i := a0.toNatClampNeg) d_110_209 (ltk (by decide) hN) rfl (by first | assumption | (rcases n4 hn with rfl | rfl | rfl | rfl <;> exact vpi (by decide))) rfl ?_
                    refine ev_aload_n d_110_210 rfl ?_
                    refine ev_getf (v := .ref 50) d_110_211 fl_7_31 (ltk (by decide) hN) rfl rfl ?_
                    refine ev_iload_n d_110_214 rfl ?_
                    refine ev_iald (i := a0.toNatClampNeg) d_110_215 (ltk (by decide) hN) rfl (by first | assumption | (rcases n4 hn with rfl | rfl | rfl | rfl <;> exact vpi (by decide))) rfl ?_
                    refine ev_iconst d_110_216 ci_0 ?_
                    refine ev_aload_n d_110_217 rfl ?_
                    refine ev_getf (v := .ref 61) d_110_218 fl_7_65 (ltk (by decide) hN) rfl rfl ?_
                    refine ev_iload_n d_110_221 rfl ?_
                    refine ev_iald (i := a0.toNatClampNeg) d_110_222 (ltk (by decide) hN) rfl (by first | assumption | (rcases n4 hn with rfl | rfl | rfl | rfl <;> exact vpi (by decide))) rfl ?_
                    refine ev_csJ (As := [.int (σ.1 60 a0.toNatClampNeg), .int (σ.1 50 a0.toNatClampNeg), .int (0 : Int32), .int (σ.1 61 a0.toNatClampNeg)]) (t := [.ref 42]) (e' := 0) d_110_223 ml_7_131 rfl rfl rfl rfl rfl (by decide) rfl rfl (ev_m_wordOf hN (σ.1 60 a0.toNatClampNeg) (σ.1 50 a0.toNatClampNeg) (0 : Int32) (σ.1 61 a0.toNatClampNeg) σ) ?_
                    refine ev_putl d_110_226 fl_7_135 (ltk (by decide) hN) rfl rfl rfl ?_
                    refine ev_aload_n d_110_229 rfl ?_
                    refine ev_getf (v := .ref 60) d_110_230 fl_7_62 (ltk (by decide) hN) rfl rfl ?_
                    refine ev_iload_n d_110_233 rfl ?_
                    refine ev_iconst d_110_234 ci_0 ?_
                    refine ev_iastore (i := a0.toNatClampNeg) d_110_235 (ltk (by decide) hN) rfl (by first | assumption | (rcases n4 hn with rfl | rfl | rfl | rfl <;> exact vpi (by decide))) rfl ?_
                    refine ev_aload_n d_110_236 rfl ?_
                    refine ev_getf (v := .ref 56) d_110_237 fl_7_49 (ltk (by decide) hN) rfl rfl ?_
                    refine ev_iload_n d_110_240 rfl ?_
                    refine ev_iconst d_110_241 ci_1 ?_
                    refine ev_bastore (i := a0.toNatClampNeg) (u := (1 : Int32)) d_110_242 (ltk (by decide) hN) rfl (by first | assumption | (rcases n4 hn with rfl | rfl | rfl | rfl <;> exact vpi (by decide))) rfl (by decide) ?_
                    refine ev_iconst d_110_243 ci_1 ?_
                    exact ev_zret d_110_244 rfl (Or.inr rfl)
                  · refine ev_iconst d_110_201 ci_0 ?_
                    exact ev_zret d_110_202 rfl (Or.inl rfl)
                · refine ev_iconst d_110_177 ci_0 ?_
                  exact ev_zret d_110_178 rfl (Or.inl rfl)
  · refine ev_aload_n d_110_17 rfl ?_
    refine ev_getf (v := .ref 44) d_110_18 fl_7_13 (ltk (by decide) hN) rfl rfl ?_
    refine ev_iload_n d_110_21 rfl ?_
    refine ev_iald (i := a0.toNatClampNeg) d_110_22 (ltk (by decide) hN) rfl (by first | assumption | (rcases n4 hn with rfl | rfl | rfl | rfl <;> exact vpi (by decide))) rfl ?_
    refine ev_iconst d_110_23 ci_2 ?_
    refine ev_icmp_eq mmSI (tgt := 61) d_110_24 rfl (fun _h24 => ?_) (fun _h24 => ?_)
    · refine ev_iconst d_110_61 ci_1 ?_
      refine ev_goto (tgt := 66) d_110_62 rfl ?_
      refine ev_istore_n (lv' := [(3, .int (1 : Int32)), (2, .int (σ.1 49 a0.toNatClampNeg)), (0, .ref 42), (1, .int a0)]) d_110_66 (by decide) rfl ?_
      refine ev_iload_n d_110_67 rfl ?_
      refine ev_ifF (tgt := 103) d_110_68 rfl (show ¬ ((1 : Int32) = (0 : Int32)) by decide) ?_
      refine ev_aload_n d_110_71 rfl ?_
      refine ev_iload_n d_110_72 rfl ?_
      refine ev_iconst d_110_73 ci_1 ?_
      refine ev_iadd (v := (a0 + (1 : Int32))) d_110_74 rfl ?_
      refine ev_aload_n d_110_75 rfl ?_
      refine ev_getf (v := .ref 50) d_110_76 fl_7_31 (ltk (by decide) hN) rfl rfl ?_
      refine ev_iload_n d_110_79 rfl ?_
      refine ev_iald (i := a0.toNatClampNeg) d_110_80 (ltk (by decide) hN) rfl (by first | assumption | (rcases n4 hn with rfl | rfl | rfl | rfl <;> exact vpi (by decide))) rfl ?_
      refine ev_iload_n d_110_81 rfl ?_
      refine ev_iconst d_110_82 ci_2 ?_
      refine ev_icmp_ge mmSI (tgt := 90) d_110_83 rfl (fun _h83 => ?_) (fun _h83 => ?_)
      · refine ev_iconst d_110_90 ci_0 ?_
        refine ev_aload_n d_110_91 rfl ?_
        refine ev_getf (v := .ref 59) d_110_92 fl_7_59 (ltk (by decide) hN) rfl rfl ?_
        refine ev_iload_n d_110_95 rfl ?_
        refine ev_iald (i := a0.toNatClampNeg) d_110_96 (ltk (by decide) hN) rfl (by first | assumption | (rcases n4 hn with rfl | rfl | rfl | rfl <;> exact vpi (by decide))) rfl ?_
        refine ev_csJ (As := [.int (a0 + (1 : Int32)), .int (σ.1 50 a0.toNatClampNeg), .int (0 : Int32), .int (σ.1 59 a0.toNatClampNeg)]) (t := [.ref 42]) (e' := 0) d_110_97 ml_7_131 rfl rfl rfl rfl rfl (by decide) rfl rfl (ev_m_wordOf hN (a0 + (1 : Int32)) (σ.1 50 a0.toNatClampNeg) (0 : Int32) (σ.1 59 a0.toNatClampNeg) σ) ?_
        refine ev_putl d_110_100 fl_7_135 (ltk (by decide) hN) rfl rfl rfl ?_
        refine ev_iload_n d_110_103 rfl ?_
        exact ev_zret d_110_104 rfl (Or.inr rfl)
      · refine ev_iconst d_110_86 ci_1 ?_
        refine ev_goto (tgt := 91) d_110_87 rfl ?_
        refine ev_aload_n d_110_91 rfl ?_
        refine ev_getf (v := .ref 59) d_110_92 fl_7_59 (ltk (by decide) hN) rfl rfl ?_
        refine ev_iload_n d_110_95 rfl ?_
        refine ev_iald (i := a0.toNatClampNeg) d_110_96 (ltk (by decide) hN) rfl (by first | assumption | (rcases n4 hn with rfl | rfl | rfl | rfl <;> exact vpi (by decide))) rfl ?_
        refine ev_csJ (As := [.int (a0 + (1 : Int32)), .int (σ.1 50 a0.toNatClampNeg), .int (1 : Int32), .int (σ.1 59 a0.toNatClampNeg)]) (t := [.ref 42]) (e' := 0) d_110_97 ml_7_131 rfl rfl rfl rfl rfl (by decide) rfl rfl (ev_m_wordOf hN (a0 + (1 : Int32)) (σ.1 50 a0.toNatClampNeg) (1 : Int32) (σ.1 59 a0.toNatClampNeg) σ) ?_
        refine ev_putl d_110_100 fl_7_135 (ltk (by decide) hN) rfl rfl rfl ?_
        refine ev_iload_n d_110_103 rfl ?_
        exact ev_zret d_110_104 rfl (Or.inr rfl)
    · refine ev_aload_n d_110_27 rfl ?_
      refine ev_getf (v := .ref 44) d_110_28 fl_7_13 (ltk (by decide) hN) rfl rfl ?_
      refine ev_iload_n d_110_31 rfl ?_
      refine ev_iald (i := a0.toNatClampNeg) d_110_32 (ltk (by decide) hN) rfl (by first | assumption | (rcases n4 hn with rfl | rfl | rfl | rfl <;> exact vpi (by decide))) rfl ?_
      refine ev_iconst d_110_33 ci_4 ?_
      refine ev_icmp_eq mmSI (tgt := 61) d_110_34 rfl (fun _h34 => ?_) (fun _h34 => ?_)
      · refine ev_iconst d_110_61 ci_1 ?_
        refine ev_goto (tgt := 66) d_110_62 rfl ?_
        refine ev_istore_n (lv' := [(3, .int (1 : Int32)), (2, .int (σ.1 49 a0.toNatClampNeg)), (0, .ref 42), (1, .int a0)]) d_110_66 (by decide) rfl ?_
        refine ev_iload_n d_110_67 rfl ?_
        refine ev_ifF (tgt := 103) d_110_68 rfl (show ¬ ((1 : Int32) = (0 : Int32)) by decide) ?_
        refine ev_aload_n d_110_71 rfl ?_
        refine ev_iload_n d_110_72 rfl ?_
        refine ev_iconst d_110_73 ci_1 ?_
        refine ev_iadd (v := (a0 + (1 : Int32))) d_110_74 rfl ?_
        refine ev_aload_n d_110_75 rfl ?_
        refine ev_getf (v := .ref 50) d_110_76 fl_7_31 (ltk (by decide) hN) rfl rfl ?_
        refine ev_iload_n d_110_79 rfl ?_
        refine ev_iald (i := a0.toNatClampNeg) d_110_80 (ltk (by decide) hN) rfl (by first | assumption | (rcases n4 hn with rfl | rfl | rfl | rfl <;> exact vpi (by decide))) rfl ?_
        refine ev_iload_n d_110_81 rfl ?_
        refine ev_iconst d_110_82 ci_2 ?_
        refine ev_icmp_ge mmSI (tgt := 90) d_110_83 rfl (fun _h83 => ?_) (fun _h83 => ?_)
        · refine ev_iconst d_110_90 ci_0 ?_
          refine ev_aload_n d_110_91 rfl ?_
          refine ev_getf (v := .ref 59) d_110_92 fl_7_59 (ltk (by decide) hN) rfl rfl ?_
          refine ev_iload_n d_110_95 rfl ?_
          refine ev_iald (i := a0.toNatClampNeg) d_110_96 (ltk (by decide) hN) rfl (by first | assumption | (rcases n4 hn with rfl | rfl | rfl | rfl <;> exact vpi (by decide))) rfl ?_
          refine ev_csJ (As := [.int (a0 + (1 : Int32)), .int (σ.1 50 a0.toNatClampNeg), .int (0 : Int32), .int (σ.1 59 a0.toNatClampNeg)]) (t := [.ref 42]) (e' := 0) d_110_97 ml_7_131 rfl rfl rfl rfl rfl (by decide) rfl rfl (ev_m_wordOf hN (a0 + (1 : Int32)) (σ.1 50 a0.toNatClampNeg) (0 : Int32) (σ.1 59 a0.toNatClampNeg) σ) ?_
          refine ev_putl d_110_100 fl_7_135 (ltk (by decide) hN) rfl rfl rfl ?_
          refine ev_iload_n d_110_103 rfl ?_
          exact ev_zret d_110_104 rfl (Or.inr rfl)
        · refine ev_iconst d_110_86 ci_1 ?_
          refine ev_goto (tgt := 91) d_110_87 rfl ?_
          refine ev_aload_n d_110_91 rfl ?_
          refine ev_getf (v := .ref 59) d_110_92 fl_7_59 (ltk (by decide) hN) rfl rfl ?_
          refine ev_iload_n d_110_95 rfl ?_
          refine ev_iald (i := a0.toNatClampNeg) d_110_96 (ltk (by decide) hN) rfl (by first | assumption | (rcases n4 hn with rfl | rfl | rfl | rfl <;> exact vpi (by decide))) rfl ?_
          refine ev_csJ (As := [.int (a0 + (1 : Int32)), .int (σ.1 50 a0.toNatClampNeg), .int (1 : Int32), .int (σ.1 59 a0.toNatClampNeg)]) (t := [.ref 42]) (e' := 0) d_110_97 ml_7_131 rfl rfl rfl rfl rfl (by decide) rfl rfl (ev_m_wordOf hN (a0 + (1 : Int32)) (σ.1 50 a0.toNatClampNeg) (1 : Int32) (σ.1 59 a0.toNatClampNeg) σ) ?_
          refine ev_putl d_110_100 fl_7_135 (ltk (by decide) hN) rfl rfl rfl ?_
          refine ev_iload_n d_110_103 rfl ?_
          exact ev_zret d_110_104 rfl (Or.inr rfl)
      · refine ev_iload_n d_110_37 rfl ?_
        refine ev_iconst d_110_38 ci_2 ?_
        refine ev_icmp_ge mmSI (tgt := 65) d_110_39 rfl (fun _h39 => ?_) (fun _h39 => ?_)
        · refine ev_iconst d_110_65 ci_0 ?_
          refine ev_istore_n (lv' := [(3, .int (0 : Int32)), (2, .int (σ.1 49 a0.toNatClampNeg)), (0, .ref 42), (1, .int a0)]) d_110_66 (by decide) rfl ?_
          refine ev_iload_n d_110_67 rfl ?_
          refine ev_ifT (tgt := 103) d_110_68 rfl (show (0 : Int32) = (0 : Int32) by decide) ?_
          refine ev_iload_n d_110_103 rfl ?_
          exact ev_zret d_110_104 rfl (Or.inl rfl)
        · refine ev_aload_n d_110_42 rfl ?_
          refine ev_getf (v := .ref 44) d_110_43 fl_7_13 (ltk (by decide) hN) rfl rfl ?_
          refine ev_iload_n d_110_46 rfl ?_
          refine ev_iald (i := a0.toNatClampNeg) d_110_47 (ltk (by decide) hN) rfl (by first | assumption | (rcases n4 hn with rfl | rfl | rfl | rfl <;> exact vpi (by decide))) rfl ?_
          refine ev_iconst d_110_48 ci_3 ?_
          refine ev_icmp_ne mmSI (tgt := 65) d_110_49 rfl (fun _h49 => ?_) (fun _h49 => ?_)
          · refine ev_iconst d_110_65 ci_0 ?_
            refine ev_istore_n (lv' := [(3, .int (0 : Int32)), (2, .int (σ.1 49 a0.toNatClampNeg)), (0, .ref 42), (1, .int a0)]) d_110_66 (by decide) rfl ?_
            refine ev_iload_n d_110_67 rfl ?_
            refine ev_ifT (tgt := 103) d_110_68 rfl (show (0 : Int32) = (0 : Int32) by decide) ?_
            refine ev_iload_n d_110_103 rfl ?_
            exact ev_zret d_110_104 rfl (Or.inl rfl)
          · refine ev_aload_n d_110_52 rfl ?_
            refine ev_getf (v := .ref 54) d_110_53 fl_7_43 (ltk (by decide) hN) rfl rfl ?_
            refine ev_iload_n d_110_56 rfl ?_
            refine ev_iald (i := a0.toNatClampNeg) d_110_57 (ltk (by decide) hN) rfl (by first | assumption | (rcases n4 hn with rfl | rfl | rfl | rfl <;> exact vpi (by decide))) rfl ?_
            refine ev_if_le mmSI (tgt := 65) d_110_58 rfl (fun _h58 => ?_) (fun _h58 => ?_)
            · refine ev_iconst d_110_65 ci_0 ?_
              refine ev_istore_n (lv' := [(3, .int (0 : Int32)), (2, .int (σ.1 49 a0.toNatClampNeg)), (0, .ref 42), (1, .int a0)]) d_110_66 (by decide) rfl ?_
              refine ev_iload_n d_110_67 rfl ?_
              refine ev_ifT (tgt := 103) d_110_68 rfl (show (0 : Int32) = (0 : Int32) by decide) ?_
              refine ev_iload_n d_110_103 rfl ?_
              exact ev_zret d_110_104 rfl (Or.inl rfl)
            · refine ev_iconst d_110_61 ci_1 ?_
              refine ev_goto (tgt := 66) d_110_62 rfl ?_
              refine ev_istore_n (lv' := [(3, .int (1 : Int32)), (2, .int (σ.1 49 a0.toNatClampNeg)), (0, .ref 42), (1, .int a0)]) d_110_66 (by decide) rfl ?_
              refine ev_iload_n d_110_67 rfl ?_
              refine ev_ifF (tgt := 103) d_110_68 rfl (show ¬ ((1 : Int32) = (0 : Int32)) by decide) ?_
              refine ev_aload_n d_110_71 rfl ?_
              refine ev_iload_n d_110_72 rfl ?_
              refine ev_iconst d_110_73 ci_1 ?_
              refine ev_iadd (v := (a0 + (1 : Int32))) d_110_74 rfl ?_
              refine ev_aload_n d_110_75 rfl ?_
              refine ev_getf (v := .ref 50) d_110_76 fl_7_31 (ltk (by decide) hN) rfl rfl ?_
              refine ev_iload_n d_110_79 rfl ?_
              refine ev_iald (i := a0.toNatClampNeg) d_110_80 (ltk (by decide) hN) rfl (by first | assumption | (rcases n4 hn with rfl | rfl | rfl | rfl <;> exact vpi (by decide))) rfl ?_
              refine ev_iload_n d_110_81 rfl ?_
              refine ev_iconst d_110_82 ci_2 ?_
              refine ev_icmp_ge mmSI (tgt := 90) d_110_83 rfl (fun _h83 => ?_) (fun _h83 => ?_)
              · refine ev_iconst d_110_90 ci_0 ?_
                refine ev_aload_n d_110_91 rfl ?_
                refine ev_getf (v := .ref 59) d_110_92 fl_7_59 (ltk (by decide) hN) rfl rfl ?_
                refine ev_iload_n d_110_95 rfl ?_
                refine ev_iald (i := a0.toNatClampNeg) d_110_96 (ltk (by decide) hN) rfl (by first | assumption | (rcases n4 hn with rfl | rfl | rfl | rfl <;> exact vpi (by decide))) rfl ?_
                refine ev_csJ (As := [.int (a0 + (1 : Int32)), .int (σ.1 50 a0.toNatClampNeg), .int (0 : Int32), .int (σ.1 59 a0.toNatClampNeg)]) (t := [.ref 42]) (e' := 0) d_110_97 ml_7_131 rfl rfl rfl rfl rfl (by decide) rfl rfl (ev_m_wordOf hN (a0 + (1 : Int32)) (σ.1 50 a0.toNatClampNeg) (0 : Int32) (σ.1 59 a0.toNatClampNeg) σ) ?_
                refine ev_putl d_110_100 fl_7_135 (ltk (by decide) hN) rfl rfl rfl ?_
                refine ev_iload_n d_110_103 rfl ?_
                exact ev_zret d_110_104 rfl (Or.inr rfl)
              · refine ev_iconst d_110_86 ci_1 ?_
                refine ev_goto (tgt := 91) d_110_87 rfl ?_
                refine ev_aload_n d_110_91 rfl ?_
                refine ev_getf (v := .ref 59) d_110_92 fl_7_59 (ltk (by decide) hN) rfl rfl ?_
                refine ev_iload_n d_110_95 rfl ?_
                refine ev_iald (i := a0.toNatClampNeg) d_110_96 (ltk (by decide) hN) rfl (by first | assumption | (rcases n4 hn with rfl | rfl | rfl | rfl <;> exact vpi (by decide))) rfl ?_
                refine ev_csJ (As := [.int (a0 + (1 : Int32)), .int (σ.1 50 a0.toNatClampNeg), .int (1 : Int32), .int (σ.1 59 a0.toNatClampNeg)]) (t := [.ref 42]) (e' := 0) d_110_97 ml_7_131 rfl rfl rfl rfl rfl (by decide) rfl rfl (ev_m_wordOf hN (a0 + (1 : Int32)) (σ.1 50 a0.toNatClampNeg) (1 : Int32) (σ.1 59 a0.toNatClampNeg) σ) ?_
                refine ev_putl d_110_100 fl_7_135 (ltk (by decide) hN) rfl rfl rfl ?_
                refine ev_iload_n d_110_103 rfl ?_
                exact ev_zret d_110_104 rfl (Or.inr rfl)
theorem jm_sends {σ : mmS} {a : Int32} (hJ : Jm σ) : Jm (sp_m_sends a σ).2 := by
  unfold sp_m_sends
  repeat' (with_reducible first | exact hJ | exact jm_J hJ | exact jm_I (by decide) (jm_w (jm_J hJ)) | split)
theorem bz_m_sends (a : Int32) (σ : mmS) : (sp_m_sends a σ).1 = 0 ∨ (sp_m_sends a σ).1 = 1 := by
  unfold sp_m_sends
  repeat' (with_reducible first | exact Or.inl rfl | exact Or.inr rfl | split)
def sp_m_passes_278 (i1 : Int32) (σ : mmS) : Int32 × mmS :=
((sp_m_sends i1 σ).1, (sp_m_sends i1 σ).2)
theorem ev_m_passes_278 (hN : 65 ≤ N) (i1 : Int32) (σ : mmS) (hn : vp_in i1 4) (hJ : Jm σ) : Ev N L xs (104, 278, [(0, .ref 42), (1, .int i1)], [], 0, σ) (mmSI (sp_m_passes_278 i1 σ)) := by
  unfold sp_m_passes_278
  refine ev_aload_n d_104_278 rfl ?_
  refine ev_iload_n d_104_279 rfl ?_
  refine ev_cvI (As := [.int i1]) (t := []) (e' := 0) d_104_280 ml_7_146 rfl rfl rfl rfl rfl (by decide) rfl (ltk (by decide) hN) rfl rfl rfl (ev_m_sends hN i1 σ hn hJ) ?_
  exact ev_zret d_104_283 rfl (bz_m_sends _ _)
def sp_m_passes_255 (i1 : Int32) (i3 : Int32) (σ : mmS) : Int32 × mmS :=
if i3 = (60 : Int32) then
  if ((σ.1 50 i1.toNatClampNeg) - (σ.1 50 i1.toNatClampNeg) / (2 : Int32) * (2 : Int32)) = (1 : Int32) then
    (sp_m_passes_278 i1 (sp_m_reflect i1 σ))
  else
    (sp_m_passes_278 i1 σ)
else
  (sp_m_passes_278 i1 σ)
theorem ev_m_passes_255 (hN : 65 ≤ N) (i1 : Int32) (i3 : Int32) (σ : mmS) (hn : vp_in i1 4) (hJ : Jm σ) : Ev N L xs (104, 255, [(0, .ref 42), (1, .int i1), (3, .int i3)], [], 0, σ) (mmSI (sp_m_passes_255 i1 i3 σ)) := by
  unfold sp_m_passes_255
  refine ev_iload_n d_104_255 rfl ?_
  refine ev_bipush d_104_256 cb_60 ?_
  refine ev_icmp_ne mmSI (tgt := 278) d_104_258 rfl (fun _h258 => ?_) (fun _h258 => ?_)
  · refine ev_sub (lv' := [(0, .ref 42), (1, .int i1)]) (by simp) ?_
    exact ev_m_passes_278 hN i1 σ hn hJ
  · refine ev_aload_n d_104_261 rfl ?_
    refine ev_getf (v := .ref 50) d_104_262 fl_7_31 (ltk (by decide) hN) rfl rfl ?_
    refine ev_iload_n d_104_265 rfl ?_
    refine ev_iald (i := i1.toNatClampNeg) d_104_266 (ltk (by decide) hN) rfl (by first | assumption | (rcases n4 hn with rfl | rfl | rfl | rfl <;> exact vpi (by decide))) rfl ?_
    refine ev_iconst d_104_267 ci_2 ?_
    refine ev_irem (v := ((σ.1 50 i1.toNatClampNeg) - (σ.1 50 i1.toNatClampNeg) / (2 : Int32) * (2 : Int32))) d_104_268 (by decide) rfl ?_
    refine ev_iconst d_104_269 ci_1 ?_
    refine ev_icmp_ne mmSI (tgt := 278) d_104_270 rfl (fun _h270 => ?_) (fun _h270 => ?_)
    · refine ev_sub (lv' := [(0, .ref 42), (1, .int i1)]) (by simp) ?_
      exact ev_m_passes_278 hN i1 σ hn hJ
    · refine ev_aload_n d_104_273 rfl ?_
      refine ev_iload_n d_104_274 rfl ?_
      refine ev_cvV (As := [.int i1]) (t := []) (e' := 0) d_104_275 ml_7_143 rfl rfl rfl rfl rfl (by decide) rfl (ltk (by decide) hN) rfl rfl rfl (ev_m_reflect hN i1 σ hn) ?_
      refine ev_sub (lv' := [(0, .ref 42), (1, .int i1)]) (by simp) ?_
      exact ev_m_passes_278 hN i1 (sp_m_reflect i1 σ) hn (by repeat' (with_reducible first | exact hJ | refine jm_reflect ?_ | refine jm_forget ?_ | refine jm_c0 ?_ | refine jm_c1 hJ hn (by assumption) ?_ | refine jm_I (by decide) ?_))
def sp_m_passes_168 (i1 : Int32) (σ : mmS) : Int32 × mmS :=
if (σ.1 49 i1.toNatClampNeg) = (40 : Int32) then
  (sp_m_passes_255 i1 (σ.1 49 i1.toNatClampNeg) (mmI (mmI σ 55 i1.toNatClampNeg (5 : Int32)) 56 i1.toNatClampNeg (0 : Int32)))
else
  if (σ.1 49 i1.toNatClampNeg) ≤ (40 : Int32) then
    (sp_m_passes_255 i1 (σ.1 49 i1.toNatClampNeg) σ)
  else
    if (60 : Int32) ≤ (σ.1 49 i1.toNatClampNeg) then
      (sp_m_passes_255 i1 (σ.1 49 i1.toNatClampNeg) σ)
    else
      if ((σ.1 49 i1.toNatClampNeg) - (σ.1 49 i1.toNatClampNeg) / (4 : Int32) * (4 : Int32)) = 0 then
        if (σ.1 56 i1.toNatClampNeg) = 0 then
          (sp_m_passes_255 i1 (σ.1 49 i1.toNatClampNeg) (mmI (mmI σ 55 i1.toNatClampNeg ((σ.1 55 i1.toNatClampNeg) + (1 : Int32))) 56 i1.toNatClampNeg (0 : Int32)))
        else
          (sp_m_passes_255 i1 (σ.1 49 i1.toNatClampNeg) (mmI (mmI σ 55 i1.toNatClampNeg (σ.1 55 i1.toNatClampNeg)) 56 i1.toNatClampNeg (0 : Int32)))
      else
        (sp_m_passes_255 i1 (σ.1 49 i1.toNatClampNeg) σ)
theorem ev_m_passes_168 (hN : 65 ≤ N) (i1 : Int32) (σ : mmS) (hn : vp_in i1 4) (hJ : Jm σ) : Ev N L xs (104, 168, [(0, .ref 42), (1, .int i1)], [], 0, σ) (mmSI (sp_m_passes_168 i1 σ)) := by
  unfold sp_m_passes_168
  refine ev_aload_n d_104_168 rfl ?_
  refine ev_getf (v := .ref 49) d_104_169 fl_7_28 (ltk (by decide) hN) rfl rfl ?_
  refine ev_iload_n d_104_172 rfl ?_
  refine ev_iald (i := i1.toNatClampNeg) d_104_173 (ltk (by decide) hN) rfl (by first | assumption | (rcases n4 hn with rfl | rfl | rfl | rfl <;> exact vpi (by decide))) rfl ?_
  refine ev_istore_n (lv' := [(3, .int (σ.1 49 i1.toNatClampNeg)), (0, .ref 42), (1, .int i1)]) d_104_174 (by decide) rfl ?_
  refine ev_iload_n d_104_175 rfl ?_
  refine ev_bipush d_104_176 cb_40 ?_
  refine ev_icmp_ne mmSI (tgt := 198) d_104_178 rfl (fun _h178 => ?_) (fun _h178 => ?_)
  · refine ev_iload_n d_104_198 rfl ?_
    refine ev_bipush d_104_199 cb_40 ?_
    refine ev_icmp_le mmSI (tgt := 255) d_104_201 rfl (fun _h201 => ?_) (fun _h201 => ?_)
    · refine ev_sub (lv' := [(0, .ref 42), (1, .int i1), (3, .int (σ.1 49 i1.toNatClampNeg))]) (by simp) ?_
      exact ev_m_passes_255 hN i1 (σ.1 49 i1.toNatClampNeg) σ hn hJ
    · refine ev_iload_n d_104_204 rfl ?_
      refine ev_bipush d_104_205 cb_60 ?_
      refine ev_icmp_ge mmSI (tgt := 255) d_104_207 rfl (fun _h207 => ?_) (fun _h207 => ?_)
      · refine ev_sub (lv' := [(0, .ref 42), (1, .int i1), (3, .int (σ.1 49 i1.toNatClampNeg))]) (by simp) ?_
        exact ev_m_passes_255 hN i1 (σ.1 49 i1.toNatClampNeg) σ hn hJ
      · refine ev_iload_n d_104_210 rfl ?_
        refine ev_iconst d_104_211 ci_4 ?_
        refine ev_irem (v := ((σ.1 49 i1.toNatClampNeg) - (σ.1 49 i1.toNatClampNeg) / (4 : Int32) * (4 : Int32))) d_104_212 (by decide) rfl ?_
        refine ev_if_ne mmSI (tgt := 255) d_104_213 rfl (fun _h213 => ?_) (fun _h213 => ?_)
        · refine ev_sub (lv' := [(0, .ref 42), (1, .int i1), (3, .int (σ.1 49 i1.toNatClampNeg))]) (by simp) ?_
          exact ev_m_passes_255 hN i1 (σ.1 49 i1.toNatClampNeg) σ hn hJ
        · refine ev_aload_n d_104_216 rfl ?_
          refine ev_getf (v := .ref 55) d_104_217 fl_7_46 (ltk (by decide) hN) rfl rfl ?_
          refine ev_iload_n d_104_220 rfl ?_
          refine ev_aload_n d_104_221 rfl ?_
          refine ev_getf (v := .ref 56) d_104_222 fl_7_49 (ltk (by decide) hN) rfl rfl ?_
          refine ev_iload_n d_104_225 rfl ?_
          refine ev_baload (i := i1.toNatClampNeg) d_104_226 (ltk (by decide) hN) rfl (by first | assumption | (rcases n4 hn with rfl | rfl | rfl | rfl <;> exact vpi (by decide))) rfl ?_
          refine ev_if_eq mmSI (tgt := 239) d_104_227 rfl (fun _h227 => ?_) (fun _h227 => ?_)
          · refine ev_aload_n d_104_239 rfl ?_
            refine ev_getf (v := .ref 55) d_104_240 fl_7_46 (ltk (by decide) hN) rfl rfl ?_
            refine ev_iload_n d_104_243 rfl ?_
            refine ev_iald (i := i1.toNatClampNeg) d_104_244 (ltk (by decide) hN) rfl (by first | assumption | (rcases n4 hn with rfl | rfl | rfl | rfl <;> exact vpi (by decide))) rfl ?_
            refine ev_iconst d_104_245 ci_1 ?_
            refine ev_iadd (v := ((σ.1 55 i1.toNatClampNeg) + (1 : Int32))) d_104_246 rfl ?_
            refine ev_iastore (i := i1.toNatClampNeg) d_104_247 (ltk (by decide) hN) rfl (by first | assumption | (rcases n4 hn with rfl | rfl | rfl | rfl <;> exact vpi (by decide))) rfl ?_
            refine ev_aload_n d_104_248 rfl ?_
            refine ev_getf (v := .ref 56) d_104_249 fl_7_49 (ltk (by decide) hN) rfl rfl ?_
            refine ev_iload_n d_104_252 rfl ?_
            refine ev_iconst d_104_253 ci_0 ?_
            refine ev_bastore (i := i1.toNatClampNeg) (u := (0 : Int32)) d_104_254 (ltk (by decide) hN) rfl (by first | assumption | (rcases n4 hn with rfl | rfl | rfl | rfl <;> exact vpi (by decide))) rfl (by decide) ?_
            refine ev_sub (lv' := [(0, .ref 42), (1, .int i1), (3, .int (σ.1 49 i1.toNatClampNeg))]) (by simp) ?_
            exact ev_m_passes_255 hN i1 (σ.1 49 i1.toNatClampNeg) (mmI (mmI σ 55 i1.toNatClampNeg ((σ.1 55 i1.toNatClampNeg) + (1 : Int32))) 56 i1.toNatClampNeg (0 : Int32)) hn (by repeat' (with_reducible first | exact hJ | refine jm_reflect ?_ | refine jm_forget ?_ | refine jm_c0 ?_ | refine jm_c1 hJ hn (by assumption) ?_ | refine jm_I (by decide) ?_))
          · refine ev_aload_n d_104_230 rfl ?_
            refine ev_getf (v := .ref 55) d_104_231 fl_7_46 (ltk (by decide) hN) rfl rfl ?_
            refine ev_iload_n d_104_234 rfl ?_
            refine ev_iald (i := i1.toNatClampNeg) d_104_235 (ltk (by decide) hN) rfl (by first | assumption | (rcases n4 hn with rfl | rfl | rfl | rfl <;> exact vpi (by decide))) rfl ?_
            refine ev_goto (tgt := 247) d_104_236 rfl ?_
            refine ev_iastore (i := i1.toNatClampNeg) d_104_247 (ltk (by decide) hN) rfl (by first | assumption | (rcases n4 hn with rfl | rfl | rfl | rfl <;> exact vpi (by decide))) rfl ?_
            refine ev_aload_n d_104_248 rfl ?_
            refine ev_getf (v := .ref 56) d_104_249 fl_7_49 (ltk (by decide) hN) rfl rfl ?_
            refine ev_iload_n d_104_252 rfl ?_
            refine ev_iconst d_104_253 ci_0 ?_
            refine ev_bastore (i := i1.toNatClampNeg) (u := (0 : Int32)) d_104_254 (ltk (by decide) hN) rfl (by first | assumption | (rcases n4 hn with rfl | rfl | rfl | rfl <;> exact vpi (by decide))) rfl (by decide) ?_
            refine ev_sub (lv' := [(0, .ref 42), (1, .int i1), (3, .int (σ.1 49 i1.toNatClampNeg))]) (by simp) ?_
            exact ev_m_passes_255 hN i1 (σ.1 49 i1.toNatClampNeg) (mmI (mmI σ 55 i1.toNatClampNeg (σ.1 55 i1.toNatClampNeg)) 56 i1.toNatClampNeg (0 : Int32)) hn (by repeat' (with_reducible first | exact hJ | refine jm_reflect ?_ | refine jm_forget ?_ | refine jm_c0 ?_ | refine jm_c1 hJ hn (by assumption) ?_ | refine jm_I (by decide) ?_))
  · refine ev_aload_n d_104_181 rfl ?_
    refine ev_getf (v := .ref 55) d_104_182 fl_7_46 (ltk (by decide) hN) rfl rfl ?_
    refine ev_iload_n d_104_185 rfl ?_
    refine ev_iconst d_104_186 ci_5 ?_
    refine ev_iastore (i := i1.toNatClampNeg) d_104_187 (ltk (by decide) hN) rfl (by first | assumption | (rcases n4 hn with rfl | rfl | rfl | rfl <;> exact vpi (by decide))) rfl ?_
    refine ev_aload_n d_104_188 rfl ?_
    refine ev_getf (v := .ref 56) d_104_189 fl_7_49 (ltk (by decide) hN) rfl rfl ?_
    refine ev_iload_n d_104_192 rfl ?_
    refine ev_iconst d_104_193 ci_0 ?_
    refine ev_bastore (i := i1.toNatClampNeg) (u := (0 : Int32)) d_104_194 (ltk (by decide) hN) rfl (by first | assumption | (rcases n4 hn with rfl | rfl | rfl | rfl <;> exact vpi (by decide))) rfl (by decide) ?_
    refine ev_goto (tgt := 255) d_104_195 rfl ?_
    refine ev_sub (lv' := [(0, .ref 42), (1, .int i1), (3, .int (σ.1 49 i1.toNatClampNeg))]) (by simp) ?_
    exact ev_m_passes_255 hN i1 (σ.1 49 i1.toNatClampNeg) (mmI (mmI σ 55 i1.toNatClampNeg (5 : Int32)) 56 i1.toNatClampNeg (0 : Int32)) hn (by repeat' (with_reducible first | exact hJ | refine jm_reflect ?_ | refine jm_forget ?_ | refine jm_c0 ?_ | refine jm_c1 hJ hn (by assumption) ?_ | refine jm_I (by decide) ?_))
def sp_m_passes (i1 : Int32) (σ : mmS) : Int32 × mmS :=
if (σ.1 44 i1.toNatClampNeg) = (1 : Int32) then
  if (2 : Int32) ≤ i1 then
    ((0 : Int32), (mmI (mmI σ 46 i1.toNatClampNeg ((σ.1 46 i1.toNatClampNeg) + (1 : Int32))) 47 i1.toNatClampNeg ((σ.1 47 i1.toNatClampNeg) + (1 : Int32))))
  else
    if ((σ.1 46 i1.toNatClampNeg) + (1 : Int32)) = ((160 : Int32) + ((20 : Int32) * i1)) then
      ((0 : Int32), (sp_m_begin i1 (2 : Int32) (0 : Int32) (0 : Int32) (0 : Int32) (0 : Int32) (mmI (mmI σ 46 i1.toNatClampNeg ((σ.1 46 i1.toNatClampNeg) + (1 : Int32))) 47 i1.toNatClampNeg ((σ.1 47 i1.toNatClampNeg) + (1 : Int32)))))
    else
      ((0 : Int32), (mmI (mmI σ 46 i1.toNatClampNeg ((σ.1 46 i1.toNatClampNeg) + (1 : Int32))) 47 i1.toNatClampNeg ((σ.1 47 i1.toNatClampNeg) + (1 : Int32))))
else
  if ((σ.1 49 i1.toNatClampNeg) + (1 : Int32)) = (((80 : Int32) + (σ.1 51 i1.toNatClampNeg)) + (((σ.1 50 i1.toNatClampNeg) - (σ.1 50 i1.toNatClampNeg) / (2 : Int32) * (2 : Int32)) * (σ.1 52 i1.toNatClampNeg))) then
    if (σ.1 50 i1.toNatClampNeg) = (63 : Int32) then
      if ((σ.1 50 i1.toNatClampNeg) - (σ.1 50 i1.toNatClampNeg) / (2 : Int32) * (2 : Int32)) = (1 : Int32) then
        (sp_m_passes_168 i1 (sp_m_forget i1 (mmI (mmI (mmI (mmI σ 49 i1.toNatClampNeg ((σ.1 49 i1.toNatClampNeg) + (1 : Int32))) 49 i1.toNatClampNeg (0 : Int32)) 50 i1.toNatClampNeg (0 : Int32)) 51 i1.toNatClampNeg (σ.1 53 i1.toNatClampNeg))))
      else
        (sp_m_passes_168 i1 (mmI (mmI (mmI σ 49 i1.toNatClampNeg ((σ.1 49 i1.toNatClampNeg) + (1 : Int32))) 49 i1.toNatClampNeg (0 : Int32)) 50 i1.toNatClampNeg (0 : Int32)))
    else
      if ((σ.1 50 i1.toNatClampNeg) - (σ.1 50 i1.toNatClampNeg) / (2 : Int32) * (2 : Int32)) = (1 : Int32) then
        (sp_m_passes_168 i1 (sp_m_forget i1 (mmI (mmI (mmI (mmI σ 49 i1.toNatClampNeg ((σ.1 49 i1.toNatClampNeg) + (1 : Int32))) 49 i1.toNatClampNeg (0 : Int32)) 50 i1.toNatClampNeg ((σ.1 50 i1.toNatClampNeg) + (1 : Int32))) 51 i1.toNatClampNeg (σ.1 53 i1.toNatClampNeg))))
      else
        (sp_m_passes_168 i1 (mmI (mmI (mmI σ 49 i1.toNatClampNeg ((σ.1 49 i1.toNatClampNeg) + (1 : Int32))) 49 i1.toNatClampNeg (0 : Int32)) 50 i1.toNatClampNeg ((σ.1 50 i1.toNatClampNeg) + (1 : Int32))))
  else
    (sp_m_passes_168 i1 (mmI σ 49 i1.toNatClampNeg ((σ.1 49 i1.toNatClampNeg) + (1 : Int32))))
theorem ev_m_passes (hN : 65 ≤ N) (i1 : Int32) (σ : mmS) (hn : vp_in i1 4) (hJ : Jm σ) : Ev N L xs (104, 0, lv_args 0 [.ref 42, .int i1], [], 0, σ) (mmSI (sp_m_passes i1 σ)) := by
  unfold sp_m_passes
  show Ev N L xs (104, 0, [(0, .ref 42), (1, .int i1)], [], 0, σ) _
  refine ev_aload_n d_104_0 rfl ?_
  refine ev_getf (v := .ref 44) d_104_1 fl_7_13 (ltk (by decide) hN) rfl rfl ?_
  refine ev_iload_n d_104_4 rfl ?_
  refine ev_iald (i := i1.toNatClampNeg) d_104_5 (ltk (by decide) hN) rfl (by first | assumption | (rcases n4 hn with rfl | rfl | rfl | rfl <;> exact vpi (by decide))) rfl ?_
  refine ev_iconst d_104_6 ci_1 ?_
  refine ev_icmp_ne mmSI (tgt := 64) d_104_7 rfl (fun _h7 => ?_) (fun _h7 => ?_)
  · refine ev_aload_n d_104_64 rfl ?_
    refine ev_getf (v := .ref 49) d_104_65 fl_7_28 (ltk (by decide) hN) rfl rfl ?_
    refine ev_iload_n d_104_68 rfl ?_
    refine ev_dup2 d_104_69 rfl rfl ?_
    refine ev_iald (i := i1.toNatClampNeg) d_104_70 (ltk (by decide) hN) rfl (by first | assumption | (rcases n4 hn with rfl | rfl | rfl | rfl <;> exact vpi (by decide))) rfl ?_
    refine ev_iconst d_104_71 ci_1 ?_
    refine ev_iadd (v := ((σ.1 49 i1.toNatClampNeg) + (1 : Int32))) d_104_72 rfl ?_
    refine ev_iastore (i := i1.toNatClampNeg) d_104_73 (ltk (by decide) hN) rfl (by first | assumption | (rcases n4 hn with rfl | rfl | rfl | rfl <;> exact vpi (by decide))) rfl ?_
    refine ev_aload_n d_104_74 rfl ?_
    refine ev_getf (v := .ref 50) d_104_75 fl_7_31 (ltk (by decide) hN) rfl rfl ?_
    refine ev_iload_n d_104_78 rfl ?_
    refine ev_iald2 (i := i1.toNatClampNeg) (v := (σ.1 50 i1.toNatClampNeg)) d_104_79 (ltk (by decide) hN) rfl (by first | assumption | (rcases n4 hn with rfl | rfl | rfl | rfl <;> exact vpi (by decide))) rfl (rdK (by decide)) ?_
    refine ev_iconst d_104_80 ci_2 ?_
    refine ev_irem (v := ((σ.1 50 i1.toNatClampNeg) - (σ.1 50 i1.toNatClampNeg) / (2 : Int32) * (2 : Int32))) d_104_81 (by decide) rfl ?_
    refine ev_istore_n (lv' := [(2, .int ((σ.1 50 i1.toNatClampNeg) - (σ.1 50 i1.toNatClampNeg) / (2 : Int32) * (2 : Int32))), (0, .ref 42), (1, .int i1)]) d_104_82 (by decide) rfl ?_
    refine ev_aload_n d_104_83 rfl ?_
    refine ev_getf (v := .ref 49) d_104_84 fl_7_28 (ltk (by decide) hN) rfl rfl ?_
    refine ev_iload_n d_104_87 rfl ?_
    refine ev_iald2 (i := i1.toNatClampNeg) (v := ((σ.1 49 i1.toNatClampNeg) + (1 : Int32))) d_104_88 (ltk (by decide) hN) rfl (by first | assumption | (rcases n4 hn with rfl | rfl | rfl | rfl <;> exact vpi (by decide))) rfl (rdS) ?_
    refine ev_bipush d_104_89 cb_80 ?_
    refine ev_aload_n d_104_91 rfl ?_
    refine ev_getf (v := .ref 51) d_104_92 fl_7_34 (ltk (by decide) hN) rfl rfl ?_
    refine ev_iload_n d_104_95 rfl ?_
    refine ev_iald2 (i := i1.toNatClampNeg) (v := (σ.1 51 i1.toNatClampNeg)) d_104_96 (ltk (by decide) hN) rfl (by first | assumption | (rcases n4 hn with rfl | rfl | rfl | rfl <;> exact vpi (by decide))) rfl (rdK (by decide)) ?_
    refine ev_iadd (v := ((80 : Int32) + (σ.1 51 i1.toNatClampNeg))) d_104_97 rfl ?_
    refine ev_iload_n d_104_98 rfl ?_
    refine ev_aload_n d_104_99 rfl ?_
    refine ev_getf (v := .ref 52) d_104_100 fl_7_37 (ltk (by decide) hN) rfl rfl ?_
    refine ev_iload_n d_104_103 rfl ?_
    refine ev_iald2 (i := i1.toNatClampNeg) (v := (σ.1 52 i1.toNatClampNeg)) d_104_104 (ltk (by decide) hN) rfl (by first | assumption | (rcases n4 hn with rfl | rfl | rfl | rfl <;> exact vpi (by decide))) rfl (rdK (by decide)) ?_
    refine ev_imul (v := (((σ.1 50 i1.toNatClampNeg) - (σ.1 50 i1.toNatClampNeg) / (2 : Int32) * (2 : Int32)) * (σ.1 52 i1.toNatClampNeg))) d_104_105 rfl ?_
    refine ev_iadd (v := (((80 : Int32) + (σ.1 51 i1.toNatClampNeg)) + (((σ.1 50 i1.toNatClampNeg) - (σ.1 50 i1.toNatClampNeg) / (2 : Int32) * (2 : Int32)) * (σ.1 52 i1.toNatClampNeg)))) d_104_106 rfl ?_
    refine ev_icmp_ne mmSI (tgt := 168) d_104_107 rfl (fun _h107 => ?_) (fun _h107 => ?_)
    · refine ev_sub (lv' := [(0, .ref 42), (1, .int i1)]) (by simp) ?_
      exact ev_m_passes_168 hN i1 (mmI σ 49 i1.toNatClampNeg ((σ.1 49 i1.toNatClampNeg) + (1 : Int32))) hn (by repeat' (with_reducible first | exact hJ | refine jm_reflect ?_ | refine jm_forget ?_ | refine jm_c0 ?_ | refine jm_c1 hJ hn (by assumption) ?_ | refine jm_I (by decide) ?_))
    · refine ev_aload_n d_104_110 rfl ?_
      refine ev_getf (v := .ref 49) d_104_111 fl_7_28 (ltk (by decide) hN) rfl rfl ?_
      refine ev_iload_n d_104_114 rfl ?_
      refine ev_iconst d_104_115 ci_0 ?_
      refine ev_iastore (i := i1.toNatClampNeg) d_104_116 (ltk (by decide) hN) rfl (by first | assumption | (rcases n4 hn with rfl | rfl | rfl | rfl <;> exact vpi (by decide))) rfl ?_
      refine ev_aload_n d_104_117 rfl ?_
      refine ev_getf (v := .ref 50) d_104_118 fl_7_31 (ltk (by decide) hN) rfl rfl ?_
      refine ev_iload_n d_104_121 rfl ?_
      refine ev_aload_n d_104_122 rfl ?_
      refine ev_getf (v := .ref 50) d_104_123 fl_7_31 (ltk (by decide) hN) rfl rfl ?_
      refine ev_iload_n d_104_126 rfl ?_
      refine ev_iald2 (i := i1.toNatClampNeg) (v := (σ.1 50 i1.toNatClampNeg)) d_104_127 (ltk (by decide) hN) rfl (by first | assumption | (rcases n4 hn with rfl | rfl | rfl | rfl <;> exact vpi (by decide))) rfl ((rdK (by decide)).trans (rdK (by decide))) ?_
      refine ev_bipush d_104_128 cb_63 ?_
      refine ev_icmp_ne mmSI (tgt := 137) d_104_130 rfl (fun _h130 => ?_) (fun _h130 => ?_)
      · refine ev_aload_n d_104_137 rfl ?_
        refine ev_getf (v := .ref 50) d_104_138 fl_7_31 (ltk (by decide) hN) rfl rfl ?_
        refine ev_iload_n d_104_141 rfl ?_
        refine ev_iald2 (i := i1.toNatClampNeg) (v := (σ.1 50 i1.toNatClampNeg)) d_104_142 (ltk (by decide) hN) rfl (by first | assumption | (rcases n4 hn with rfl | rfl | rfl | rfl <;> exact vpi (by decide))) rfl ((rdK (by decide)).trans (rdK (by decide))) ?_
        refine ev_iconst d_104_143 ci_1 ?_
        refine ev_iadd (v := ((σ.1 50 i1.toNatClampNeg) + (1 : Int32))) d_104_144 rfl ?_
        refine ev_iastore (i := i1.toNatClampNeg) d_104_145 (ltk (by decide) hN) rfl (by first | assumption | (rcases n4 hn with rfl | rfl | rfl | rfl <;> exact vpi (by decide))) rfl ?_
        refine ev_iload_n d_104_146 rfl ?_
        refine ev_iconst d_104_147 ci_1 ?_
        refine ev_icmp_ne mmSI (tgt := 168) d_104_148 rfl (fun _h148 => ?_) (fun _h148 => ?_)
        · refine ev_sub (lv' := [(0, .ref 42), (1, .int i1)]) (by simp) ?_
          exact ev_m_passes_168 hN i1 (mmI (mmI (mmI σ 49 i1.toNatClampNeg ((σ.1 49 i1.toNatClampNeg) + (1 : Int32))) 49 i1.toNatClampNeg (0 : Int32)) 50 i1.toNatClampNeg ((σ.1 50 i1.toNatClampNeg) + (1 : Int32))) hn (by repeat' (with_reducible first | exact hJ | refine jm_reflect ?_ | refine jm_forget ?_ | refine jm_c0 ?_ | refine jm_c1 hJ hn (by assumption) ?_ | refine jm_I (by decide) ?_))
        · refine ev_aload_n d_104_151 rfl ?_
          refine ev_getf (v := .ref 51) d_104_152 fl_7_34 (ltk (by decide) hN) rfl rfl ?_
          refine ev_iload_n d_104_155 rfl ?_
          refine ev_aload_n d_104_156 rfl ?_
          refine ev_getf (v := .ref 53) d_104_157 fl_7_40 (ltk (by decide) hN) rfl rfl ?_
          refine ev_iload_n d_104_160 rfl ?_
          refine ev_iald2 (i := i1.toNatClampNeg) (v := (σ.1 53 i1.toNatClampNeg)) d_104_161 (ltk (by decide) hN) rfl (by first | assumption | (rcases n4 hn with rfl | rfl | rfl | rfl <;> exact vpi (by decide))) rfl ((rdK (by decide)).trans ((rdK (by decide)).trans (rdK (by decide)))) ?_
          refine ev_iastore (i := i1.toNatClampNeg) d_104_162 (ltk (by decide) hN) rfl (by first | assumption | (rcases n4 hn with rfl | rfl | rfl | rfl <;> exact vpi (by decide))) rfl ?_
          refine ev_aload_n d_104_163 rfl ?_
          refine ev_iload_n d_104_164 rfl ?_
          refine ev_cvV (As := [.int i1]) (t := []) (e' := 0) d_104_165 ml_7_77 rfl rfl rfl rfl rfl (by decide) rfl (ltk (by decide) hN) rfl rfl rfl (ev_m_forget hN i1 (mmI (mmI (mmI (mmI σ 49 i1.toNatClampNeg ((σ.1 49 i1.toNatClampNeg) + (1 : Int32))) 49 i1.toNatClampNeg (0 : Int32)) 50 i1.toNatClampNeg ((σ.1 50 i1.toNatClampNeg) + (1 : Int32))) 51 i1.toNatClampNeg (σ.1 53 i1.toNatClampNeg)) hn) ?_
          refine ev_sub (lv' := [(0, .ref 42), (1, .int i1)]) (by simp) ?_
          exact ev_m_passes_168 hN i1 (sp_m_forget i1 (mmI (mmI (mmI (mmI σ 49 i1.toNatClampNeg ((σ.1 49 i1.toNatClampNeg) + (1 : Int32))) 49 i1.toNatClampNeg (0 : Int32)) 50 i1.toNatClampNeg ((σ.1 50 i1.toNatClampNeg) + (1 : Int32))) 51 i1.toNatClampNeg (σ.1 53 i1.toNatClampNeg))) hn (by repeat' (with_reducible first | exact hJ | refine jm_reflect ?_ | refine jm_forget ?_ | refine jm_c0 ?_ | refine jm_c1 hJ hn (by assumption) ?_ | refine jm_I (by decide) ?_))
      · refine ev_iconst d_104_133 ci_0 ?_
        refine ev_goto (tgt := 145) d_104_134 rfl ?_
        refine ev_iastore (i := i1.toNatClampNeg) d_104_145 (ltk (by decide) hN) rfl (by first | assumption | (rcases n4 hn with rfl | rfl | rfl | rfl <;> exact vpi (by decide))) rfl ?_
        refine ev_iload_n d_104_146 rfl ?_
        refine ev_iconst d_104_147 ci_1 ?_
        refine ev_icmp_ne mmSI (tgt := 168) d_104_148 rfl (fun _h148 => ?_) (fun _h148 => ?_)
        · refine ev_sub (lv' := [(0, .ref 42), (1, .int i1)]) (by simp) ?_
          exact ev_m_passes_168 hN i1 (mmI (mmI (mmI σ 49 i1.toNatClampNeg ((σ.1 49 i1.toNatClampNeg) + (1 : Int32))) 49 i1.toNatClampNeg (0 : Int32)) 50 i1.toNatClampNeg (0 : Int32)) hn (by repeat' (with_reducible first | exact hJ | refine jm_reflect ?_ | refine jm_forget ?_ | refine jm_c0 ?_ | refine jm_c1 hJ hn (by assumption) ?_ | refine jm_I (by decide) ?_))
        · refine ev_aload_n d_104_151 rfl ?_
          refine ev_getf (v := .ref 51) d_104_152 fl_7_34 (ltk (by decide) hN) rfl rfl ?_
          refine ev_iload_n d_104_155 rfl ?_
          refine ev_aload_n d_104_156 rfl ?_
          refine ev_getf (v := .ref 53) d_104_157 fl_7_40 (ltk (by decide) hN) rfl rfl ?_
          refine ev_iload_n d_104_160 rfl ?_
          refine ev_iald2 (i := i1.toNatClampNeg) (v := (σ.1 53 i1.toNatClampNeg)) d_104_161 (ltk (by decide) hN) rfl (by first | assumption | (rcases n4 hn with rfl | rfl | rfl | rfl <;> exact vpi (by decide))) rfl ((rdK (by decide)).trans ((rdK (by decide)).trans (rdK (by decide)))) ?_
          refine ev_iastore (i := i1.toNatClampNeg) d_104_162 (ltk (by decide) hN) rfl (by first | assumption | (rcases n4 hn with rfl | rfl | rfl | rfl <;> exact vpi (by decide))) rfl ?_
          refine ev_aload_n d_104_163 rfl ?_
          refine ev_iload_n d_104_164 rfl ?_
          refine ev_cvV (As := [.int i1]) (t := []) (e' := 0) d_104_165 ml_7_77 rfl rfl rfl rfl rfl (by decide) rfl (ltk (by decide) hN) rfl rfl rfl (ev_m_forget hN i1 (mmI (mmI (mmI (mmI σ 49 i1.toNatClampNeg ((σ.1 49 i1.toNatClampNeg) + (1 : Int32))) 49 i1.toNatClampNeg (0 : Int32)) 50 i1.toNatClampNeg (0 : Int32)) 51 i1.toNatClampNeg (σ.1 53 i1.toNatClampNeg)) hn) ?_
          refine ev_sub (lv' := [(0, .ref 42), (1, .int i1)]) (by simp) ?_
          exact ev_m_passes_168 hN i1 (sp_m_forget i1 (mmI (mmI (mmI (mmI σ 49 i1.toNatClampNeg ((σ.1 49 i1.toNatClampNeg) + (1 : Int32))) 49 i1.toNatClampNeg (0 : Int32)) 50 i1.toNatClampNeg (0 : Int32)) 51 i1.toNatClampNeg (σ.1 53 i1.toNatClampNeg))) hn (by repeat' (with_reducible first | exact hJ | refine jm_reflect ?_ | refine jm_forget ?_ | refine jm_c0 ?_ | refine jm_c1 hJ hn (by assumption) ?_ | refine jm_I (by decide) ?_))
  · refine ev_aload_n d_104_10 rfl ?_
    refine ev_getf (v := .ref 46) d_104_11 fl_7_19 (ltk (by decide) hN) rfl rfl ?_
    refine ev_iload_n d_104_14 rfl ?_
    refine ev_dup2 d_104_15 rfl rfl ?_
    refine ev_iald (i := i1.toNatClampNeg) d_104_16 (ltk (by decide) hN) rfl (by first | assumption | (rcases n4 hn with rfl | rfl | rfl | rfl <;> exact vpi (by decide))) rfl ?_
    refine ev_iconst d_104_17 ci_1 ?_
    refine ev_iadd (v := ((σ.1 46 i1.toNatClampNeg) + (1 : Int32))) d_104_18 rfl ?_
    refine ev_iastore (i := i1.toNatClampNeg) d_104_19 (ltk (by decide) hN) rfl (by first | assumption | (rcases n4 hn with rfl | rfl | rfl | rfl <;> exact vpi (by decide))) rfl ?_
    refine ev_aload_n d_104_20 rfl ?_
    refine ev_getf (v := .ref 47) d_104_21 fl_7_22 (ltk (by decide) hN) rfl rfl ?_
    refine ev_iload_n d_104_24 rfl ?_
    refine ev_dup2 d_104_25 rfl rfl ?_
    refine ev_iald2 (i := i1.toNatClampNeg) (v := (σ.1 47 i1.toNatClampNeg)) d_104_26 (ltk (by decide) hN) rfl (by first | assumption | (rcases n4 hn with rfl | rfl | rfl | rfl <;> exact vpi (by decide))) rfl (rdK (by decide)) ?_
    refine ev_iconst d_104_27 ci_1 ?_
    refine ev_iadd (v := ((σ.1 47 i1.toNatClampNeg) + (1 : Int32))) d_104_28 rfl ?_
    refine ev_iastore (i := i1.toNatClampNeg) d_104_29 (ltk (by decide) hN) rfl (by first | assumption | (rcases n4 hn with rfl | rfl | rfl | rfl <;> exact vpi (by decide))) rfl ?_
    refine ev_iload_n d_104_30 rfl ?_
    refine ev_iconst d_104_31 ci_2 ?_
    refine ev_icmp_ge mmSI (tgt := 62) d_104_32 rfl (fun _h32 => ?_) (fun _h32 => ?_)
    · refine ev_iconst d_104_62 ci_0 ?_
      exact ev_zret d_104_63 rfl (Or.inl rfl)
    · refine ev_aload_n d_104_35 rfl ?_
      refine ev_getf (v := .ref 46) d_104_36 fl_7_19 (ltk (by decide) hN) rfl rfl ?_
      refine ev_iload_n d_104_39 rfl ?_
      refine ev_iald2 (i := i1.toNatClampNeg) (v := ((σ.1 46 i1.toNatClampNeg) + (1 : Int32))) d_104_40 (ltk (by decide) hN) rfl (by first | assumption | (rcases n4 hn with rfl | rfl | rfl | rfl <;> exact vpi (by decide))) rfl ((rdK (by decide)).trans (rdS)) ?_
      refine ev_sipush d_104_41 cs_160 ?_
      refine ev_bipush d_104_44 cb_20 ?_
      refine ev_iload_n d_104_46 rfl ?_
      refine ev_imul (v := ((20 : Int32) * i1)) d_104_47 rfl ?_
      refine ev_iadd (v := ((160 : Int32) + ((20 : Int32) * i1))) d_104_48 rfl ?_
      refine ev_icmp_ne mmSI (tgt := 62) d_104_49 rfl (fun _h49 => ?_) (fun _h49 => ?_)
      · refine ev_iconst d_104_62 ci_0 ?_
        exact ev_zret d_104_63 rfl (Or.inl rfl)
      · refine ev_aload_n d_104_52 rfl ?_
        refine ev_iload_n d_104_53 rfl ?_
        refine ev_iconst d_104_54 ci_2 ?_
        refine ev_iconst d_104_55 ci_0 ?_
        refine ev_iconst d_104_56 ci_0 ?_
        refine ev_iconst d_104_57 ci_0 ?_
        refine ev_iconst d_104_58 ci_0 ?_
        refine ev_cvV (As := [.int i1, .int (2 : Int32), .int (0 : Int32), .int (0 : Int32), .int (0 : Int32), .int (0 : Int32)]) (t := []) (e' := 0) d_104_59 ml_7_139 rfl rfl rfl rfl rfl (by decide) rfl (ltk (by decide) hN) rfl rfl rfl (ev_m_begin hN i1 (2 : Int32) (0 : Int32) (0 : Int32) (0 : Int32) (0 : Int32) (mmI (mmI σ 46 i1.toNatClampNeg ((σ.1 46 i1.toNatClampNeg) + (1 : Int32))) 47 i1.toNatClampNeg ((σ.1 47 i1.toNatClampNeg) + (1 : Int32))) hn) ?_
        refine ev_iconst d_104_62 ci_0 ?_
        exact ev_zret d_104_63 rfl (Or.inl rfl)
theorem jm_passes_278 {σ : mmS} {a : Int32} (hJ : Jm σ) : Jm (sp_m_passes_278 a σ).2 := by
  unfold sp_m_passes_278
  exact jm_sends hJ
theorem jm_passes_255 {σ : mmS} {a m : Int32} (hJ : Jm σ) : Jm (sp_m_passes_255 a m σ).2 := by
  unfold sp_m_passes_255
  repeat' (with_reducible first | exact jm_passes_278 hJ | exact jm_passes_278 (jm_reflect hJ) | split)
theorem jm_passes_168 {σ : mmS} {a : Int32} (hJ : Jm σ) : Jm (sp_m_passes_168 a σ).2 := by
  unfold sp_m_passes_168
  repeat' (with_reducible first | exact jm_passes_255 hJ | exact jm_passes_255 (jm_I (by decide) (jm_I (by decide) hJ)) | split)
theorem jm_passes {σ : mmS} {a : Int32} (hn : vp_in a 4) (hJ : Jm σ) : Jm (sp_m_passes a σ).2 := by
  unfold sp_m_passes
  repeat' (with_reducible first
    | exact jm_passes_168 (by repeat' (with_reducible first | exact hJ | refine jm_forget ?_ | refine jm_c0 ?_ | refine jm_c1 hJ hn (by assumption) ?_ | refine jm_I (by decide) ?_))
    | exact jm_begin ⟨0, by decide, rfl⟩ (jm_I (by decide) (jm_I (by decide) hJ))
    | exact jm_I (by decide) (jm_I (by decide) hJ)
    | split)
def sp_m_notice (a0 : Int32) (a1 : Int32) (a2 : Int32) (σ : mmS) : mmS :=
if a2 ≤ 0 then
  if (σ.1 48 a0.toNatClampNeg) ≤ 0 then
    if (a2 - a2 / (2 : Int32) * (2 : Int32)) = 0 then
      (mmI (mmI σ 48 a0.toNatClampNeg (((64 : Int32) * a1) + a2)) 47 a0.toNatClampNeg (0 : Int32))
    else
      (mmI σ 48 a0.toNatClampNeg (0 : Int32))
  else
    if ((σ.1 48 a0.toNatClampNeg) / (64 : Int32)) = a1 then
      if (a2 - a2 / (2 : Int32) * (2 : Int32)) = 0 then
        (mmI (mmI σ 48 a0.toNatClampNeg (((64 : Int32) * a1) + a2)) 47 a0.toNatClampNeg (0 : Int32))
      else
        (mmI σ 48 a0.toNatClampNeg (0 : Int32))
    else
      if (90 : Int32) < (σ.1 47 a0.toNatClampNeg) then
        if (a2 - a2 / (2 : Int32) * (2 : Int32)) = 0 then
          (mmI (mmI σ 48 a0.toNatClampNeg (((64 : Int32) * a1) + a2)) 47 a0.toNatClampNeg (0 : Int32))
        else
          (mmI σ 48 a0.toNatClampNeg (0 : Int32))
      else
        σ
else
  if (σ.1 48 a0.toNatClampNeg) = ((((64 : Int32) * a1) + a2) - (1 : Int32)) then
    if (σ.1 47 a0.toNatClampNeg) < (70 : Int32) then
      if (σ.1 48 a0.toNatClampNeg) ≤ 0 then
        if (a2 - a2 / (2 : Int32) * (2 : Int32)) = 0 then
          (mmI (mmI σ 48 a0.toNatClampNeg (((64 : Int32) * a1) + a2)) 47 a0.toNatClampNeg (0 : Int32))
        else
          (mmI σ 48 a0.toNatClampNeg (0 : Int32))
      else
        if ((σ.1 48 a0.toNatClampNeg) / (64 : Int32)) = a1 then
          if (a2 - a2 / (2 : Int32) * (2 : Int32)) = 0 then
            (mmI (mmI σ 48 a0.toNatClampNeg (((64 : Int32) * a1) + a2)) 47 a0.toNatClampNeg (0 : Int32))
          else
            (mmI σ 48 a0.toNatClampNeg (0 : Int32))
        else
          if (90 : Int32) < (σ.1 47 a0.toNatClampNeg) then
            if (a2 - a2 / (2 : Int32) * (2 : Int32)) = 0 then
              (mmI (mmI σ 48 a0.toNatClampNeg (((64 : Int32) * a1) + a2)) 47 a0.toNatClampNeg (0 : Int32))
            else
              (mmI σ 48 a0.toNatClampNeg (0 : Int32))
          else
            σ
    else
      if (90 : Int32) < (σ.1 47 a0.toNatClampNeg) then
        if (σ.1 48 a0.toNatClampNeg) ≤ 0 then
          if (a2 - a2 / (2 : Int32) * (2 : Int32)) = 0 then
            (mmI (mmI σ 48 a0.toNatClampNeg (((64 : Int32) * a1) + a2)) 47 a0.toNatClampNeg (0 : Int32))
          else
            (mmI σ 48 a0.toNatClampNeg (0 : Int32))
        else
          if ((σ.1 48 a0.toNatClampNeg) / (64 : Int32)) = a1 then
            if (a2 - a2 / (2 : Int32) * (2 : Int32)) = 0 then
              (mmI (mmI σ 48 a0.toNatClampNeg (((64 : Int32) * a1) + a2)) 47 a0.toNatClampNeg (0 : Int32))
            else
              (mmI σ 48 a0.toNatClampNeg (0 : Int32))
          else
            if (90 : Int32) < (σ.1 47 a0.toNatClampNeg) then
              if (a2 - a2 / (2 : Int32) * (2 : Int32)) = 0 then
                (mmI (mmI σ 48 a0.toNatClampNeg (((64 : Int32) * a1) + a2)) 47 a0.toNatClampNeg (0 : Int32))
              else
                (mmI σ 48 a0.toNatClampNeg (0 : Int32))
            else
              σ
      else
        (sp_m_begin a0 (3 : Int32) a2 (((10 : Int32) * a1) - (6 : Int32)) (sp_m_limit ((σ.1 47 a0.toNatClampNeg) - (80 : Int32)) (4 : Int32) σ) (-1 : Int32) σ)
  else
    if (σ.1 48 a0.toNatClampNeg) ≤ 0 then
      if (a2 - a2 / (2 : Int32) * (2 : Int32)) = 0 then
        (mmI (mmI σ 48 a0.toNatClampNeg (((64 : Int32) * a1) + a2)) 47 a0.toNatClampNeg (0 : Int32))
      else
        (mmI σ 48 a0.toNatClampNeg (0 : Int32))
    else
      if ((σ.1 48 a0.toNatClampNeg) / (64 : Int32)) = a1 then
        if (a2 - a2 / (2 : Int32) * (2 : Int32)) = 0 then
          (mmI (mmI σ 48 a0.toNatClampNeg (((64 : Int32) * a1) + a2)) 47 a0.toNatClampNeg (0 : Int32))
        else
          (mmI σ 48 a0.toNatClampNeg (0 : Int32))
      else
        if (90 : Int32) < (σ.1 47 a0.toNatClampNeg) then
          if (a2 - a2 / (2 : Int32) * (2 : Int32)) = 0 then
            (mmI (mmI σ 48 a0.toNatClampNeg (((64 : Int32) * a1) + a2)) 47 a0.toNatClampNeg (0 : Int32))
          else
            (mmI σ 48 a0.toNatClampNeg (0 : Int32))
        else
          σ
theorem ev_m_notice (hN : 65 ≤ N) (a0 : Int32) (a1 : Int32) (a2 : Int32) (σ : mmS) (hn : vp_in a0 4) : Ev N L xs (118, 0, lv_args 0 [.ref 42, .int a0, .int a1, .int a2], [], 0, σ) (mmSV (sp_m_notice a0 a1 a2 σ)) := by
  unfold sp_m_notice
  show Ev N L xs (118, 0, [(0, .ref 42), (1, .int a0), (2, .int a1), (3, .int a2)], [], 0, σ) _
  refine ev_iload_n d_118_0 rfl ?_
  refine ev_if_le mmSV (tgt := 74) d_118_1 rfl (fun _h1 => ?_) (fun _h1 => ?_)
  · refine ev_aload_n d_118_74 rfl ?_
    refine ev_getf (v := .ref 48) d_118_75 fl_7_25 (ltk (by decide) hN) rfl rfl ?_
    refine ev_iload_n d_118_78 rfl ?_
    refine ev_iald (i := a0.toNatClampNeg) d_118_79 (ltk (by decide) hN) rfl (by first | assumption | (rcases n4 hn with rfl | rfl | rfl | rfl <;> exact vpi (by decide))) rfl ?_
    refine ev_if_le mmSV (tgt := 108) d_118_80 rfl (fun _h80 => ?_) (fun _h80 => ?_)
    · refine ev_iload_n d_118_108 rfl ?_
      refine ev_iconst d_118_109 ci_2 ?_
      refine ev_irem (v := (a2 - a2 / (2 : Int32) * (2 : Int32))) d_118_110 (by decide) rfl ?_
      refine ev_if_ne mmSV (tgt := 136) d_118_111 rfl (fun _h111 => ?_) (fun _h111 => ?_)
      · refine ev_aload_n d_118_136 rfl ?_
        refine ev_getf (v := .ref 48) d_118_137 fl_7_25 (ltk (by decide) hN) rfl rfl ?_
        refine ev_iload_n d_118_140 rfl ?_
        refine ev_iconst d_118_141 ci_0 ?_
        refine ev_iastore (i := a0.toNatClampNeg) d_118_142 (ltk (by decide) hN) rfl (by first | assumption | (rcases n4 hn with rfl | rfl | rfl | rfl <;> exact vpi (by decide))) rfl ?_
        exact ev_vret d_118_143 rfl
      · refine ev_aload_n d_118_114 rfl ?_
        refine ev_getf (v := .ref 48) d_118_115 fl_7_25 (ltk (by decide) hN) rfl rfl ?_
        refine ev_iload_n d_118_118 rfl ?_
        refine ev_bipush d_118_119 cb_64 ?_
        refine ev_iload_n d_118_121 rfl ?_
        refine ev_imul (v := ((64 : Int32) * a1)) d_118_122 rfl ?_
        refine ev_iload_n d_118_123 rfl ?_
        refine ev_iadd (v := (((64 : Int32) * a1) + a2)) d_118_124 rfl ?_
        refine ev_iastore (i := a0.toNatClampNeg) d_118_125 (ltk (by decide) hN) rfl (by first | assumption | (rcases n4 hn with rfl | rfl | rfl | rfl <;> exact vpi (by decide))) rfl ?_
        refine ev_aload_n d_118_126 rfl ?_
        refine ev_getf (v := .ref 47) d_118_127 fl_7_22 (ltk (by decide) hN) rfl rfl ?_
        refine ev_iload_n d_118_130 rfl ?_
        refine ev_iconst d_118_131 ci_0 ?_
        refine ev_iastore (i := a0.toNatClampNeg) d_118_132 (ltk (by decide) hN) rfl (by first | assumption | (rcases n4 hn with rfl | rfl | rfl | rfl <;> exact vpi (by decide))) rfl ?_
        refine ev_goto (tgt := 143) d_118_133 rfl ?_
        exact ev_vret d_118_143 rfl
    · refine ev_aload_n d_118_83 rfl ?_
      refine ev_getf (v := .ref 48) d_118_84 fl_7_25 (ltk (by decide) hN) rfl rfl ?_
      refine ev_iload_n d_118_87 rfl ?_
      refine ev_iald (i := a0.toNatClampNeg) d_118_88 (ltk (by decide) hN) rfl (by first | assumption | (rcases n4 hn with rfl | rfl | rfl | rfl <;> exact vpi (by decide))) rfl ?_
      refine ev_bipush d_118_89 cb_64 ?_
      refine ev_idiv (v := ((σ.1 48 a0.toNatClampNeg) / (64 : Int32))) d_118_91 (by decide) rfl ?_
      refine ev_iload_n d_118_92 rfl ?_
      refine ev_icmp_eq mmSV (tgt := 108) d_118_93 rfl (fun _h93 => ?_) (fun _h93 => ?_)
      · refine ev_iload_n d_118_108 rfl ?_
        refine ev_iconst d_118_109 ci_2 ?_
        refine ev_irem (v := (a2 - a2 / (2 : Int32) * (2 : Int32))) d_118_110 (by decide) rfl ?_
        refine ev_if_ne mmSV (tgt := 136) d_118_111 rfl (fun _h111 => ?_) (fun _h111 => ?_)
        · refine ev_aload_n d_118_136 rfl ?_
          refine ev_getf (v := .ref 48) d_118_137 fl_7_25 (ltk (by decide) hN) rfl rfl ?_
          refine ev_iload_n d_118_140 rfl ?_
          refine ev_iconst d_118_141 ci_0 ?_
          refine ev_iastore (i := a0.toNatClampNeg) d_118_142 (ltk (by decide) hN) rfl (by first | assumption | (rcases n4 hn with rfl | rfl | rfl | rfl <;> exact vpi (by decide))) rfl ?_
          exact ev_vret d_118_143 rfl
        · refine ev_aload_n d_118_114 rfl ?_
          refine ev_getf (v := .ref 48) d_118_115 fl_7_25 (ltk (by decide) hN) rfl rfl ?_
          refine ev_iload_n d_118_118 rfl ?_
          refine ev_bipush d_118_119 cb_64 ?_
          refine ev_iload_n d_118_121 rfl ?_
          refine ev_imul (v := ((64 : Int32) * a1)) d_118_122 rfl ?_
          refine ev_iload_n d_118_123 rfl ?_
          refine ev_iadd (v := (((64 : Int32) * a1) + a2)) d_118_124 rfl ?_
          refine ev_iastore (i := a0.toNatClampNeg) d_118_125 (ltk (by decide) hN) rfl (by first | assumption | (rcases n4 hn with rfl | rfl | rfl | rfl <;> exact vpi (by decide))) rfl ?_
          refine ev_aload_n d_118_126 rfl ?_
          refine ev_getf (v := .ref 47) d_118_127 fl_7_22 (ltk (by decide) hN) rfl rfl ?_
          refine ev_iload_n d_118_130 rfl ?_
          refine ev_iconst d_118_131 ci_0 ?_
          refine ev_iastore (i := a0.toNatClampNeg) d_118_132 (ltk (by decide) hN) rfl (by first | assumption | (rcases n4 hn with rfl | rfl | rfl | rfl <;> exact vpi (by decide))) rfl ?_
          refine ev_goto (tgt := 143) d_118_133 rfl ?_
          exact ev_vret d_118_143 rfl
      · refine ev_aload_n d_118_96 rfl ?_
        refine ev_getf (v := .ref 47) d_118_97 fl_7_22 (ltk (by decide) hN) rfl rfl ?_
        refine ev_iload_n d_118_100 rfl ?_
        refine ev_iald (i := a0.toNatClampNeg) d_118_101 (ltk (by decide) hN) rfl (by first | assumption | (rcases n4 hn with rfl | rfl | rfl | rfl <;> exact vpi (by decide))) rfl ?_
        refine ev_bipush d_118_102 cb_90 ?_
        refine ev_icmp_gt mmSV (tgt := 108) d_118_104 rfl (fun _h104 => ?_) (fun _h104 => ?_)
        · refine ev_iload_n d_118_108 rfl ?_
          refine ev_iconst d_118_109 ci_2 ?_
          refine ev_irem (v := (a2 - a2 / (2 : Int32) * (2 : Int32))) d_118_110 (by decide) rfl ?_
          refine ev_if_ne mmSV (tgt := 136) d_118_111 rfl (fun _h111 => ?_) (fun _h111 => ?_)
          · refine ev_aload_n d_118_136 rfl ?_
            refine ev_getf (v := .ref 48) d_118_137 fl_7_25 (ltk (by decide) hN) rfl rfl ?_
            refine ev_iload_n d_118_140 rfl ?_
            refine ev_iconst d_118_141 ci_0 ?_
            refine ev_iastore (i := a0.toNatClampNeg) d_118_142 (ltk (by decide) hN) rfl (by first | assumption | (rcases n4 hn with rfl | rfl | rfl | rfl <;> exact vpi (by decide))) rfl ?_
            exact ev_vret d_118_143 rfl
          · refine ev_aload_n d_118_114 rfl ?_
            refine ev_getf (v := .ref 48) d_118_115 fl_7_25 (ltk (by decide) hN) rfl rfl ?_
            refine ev_iload_n d_118_118 rfl ?_
            refine ev_bipush d_118_119 cb_64 ?_
            refine ev_iload_n d_118_121 rfl ?_
            refine ev_imul (v := ((64 : Int32) * a1)) d_118_122 rfl ?_
            refine ev_iload_n d_118_123 rfl ?_
            refine ev_iadd (v := (((64 : Int32) * a1) + a2)) d_118_124 rfl ?_
            refine ev_iastore (i := a0.toNatClampNeg) d_118_125 (ltk (by decide) hN) rfl (by first | assumption | (rcases n4 hn with rfl | rfl | rfl | rfl <;> exact vpi (by decide))) rfl ?_
            refine ev_aload_n d_118_126 rfl ?_
            refine ev_getf (v := .ref 47) d_118_127 fl_7_22 (ltk (by decide) hN) rfl rfl ?_
            refine ev_iload_n d_118_130 rfl ?_
            refine ev_iconst d_118_131 ci_0 ?_
            refine ev_iastore (i := a0.toNatClampNeg) d_118_132 (ltk (by decide) hN) rfl (by first | assumption | (rcases n4 hn with rfl | rfl | rfl | rfl <;> exact vpi (by decide))) rfl ?_
            refine ev_goto (tgt := 143) d_118_133 rfl ?_
            exact ev_vret d_118_143 rfl
        · exact ev_vret d_118_107 rfl
  · refine ev_aload_n d_118_4 rfl ?_
    refine ev_getf (v := .ref 48) d_118_5 fl_7_25 (ltk (by decide) hN) rfl rfl ?_
    refine ev_iload_n d_118_8 rfl ?_
    refine ev_iald (i := a0.toNatClampNeg) d_118_9 (ltk (by decide) hN) rfl (by first | assumption | (rcases n4 hn with rfl | rfl | rfl | rfl <;> exact vpi (by decide))) rfl ?_
    refine ev_bipush d_118_10 cb_64 ?_
    refine ev_iload_n d_118_12 rfl ?_
    refine ev_imul (v := ((64 : Int32) * a1)) d_118_13 rfl ?_
    refine ev_iload_n d_118_14 rfl ?_
    refine ev_iadd (v := (((64 : Int32) * a1) + a2)) d_118_15 rfl ?_
    refine ev_iconst d_118_16 ci_1 ?_
    refine ev_isub (v := ((((64 : Int32) * a1) + a2) - (1 : Int32))) d_118_17 rfl ?_
    refine ev_icmp_ne mmSV (tgt := 74) d_118_18 rfl (fun _h18 => ?_) (fun _h18 => ?_)
    · refine ev_aload_n d_118_74 rfl ?_
      refine ev_getf (v := .ref 48) d_118_75 fl_7_25 (ltk (by decide) hN) rfl rfl ?_
      refine ev_iload_n d_118_78 rfl ?_
      refine ev_iald (i := a0.toNatClampNeg) d_118_79 (ltk (by decide) hN) rfl (by first | assumption | (rcases n4 hn with rfl | rfl | rfl | rfl <;> exact vpi (by decide))) rfl ?_
      refine ev_if_le mmSV (tgt := 108) d_118_80 rfl (fun _h80 => ?_) (fun _h80 => ?_)
      · refine ev_iload_n d_118_108 rfl ?_
        refine ev_iconst d_118_109 ci_2 ?_
        refine ev_irem (v := (a2 - a2 / (2 : Int32) * (2 : Int32))) d_118_110 (by decide) rfl ?_
        refine ev_if_ne mmSV (tgt := 136) d_118_111 rfl (fun _h111 => ?_) (fun _h111 => ?_)
        · refine ev_aload_n d_118_136 rfl ?_
          refine ev_getf (v := .ref 48) d_118_137 fl_7_25 (ltk (by decide) hN) rfl rfl ?_
          refine ev_iload_n d_118_140 rfl ?_
          refine ev_iconst d_118_141 ci_0 ?_
          refine ev_iastore (i := a0.toNatClampNeg) d_118_142 (ltk (by decide) hN) rfl (by first | assumption | (rcases n4 hn with rfl | rfl | rfl | rfl <;> exact vpi (by decide))) rfl ?_
          exact ev_vret d_118_143 rfl
        · refine ev_aload_n d_118_114 rfl ?_
          refine ev_getf (v := .ref 48) d_118_115 fl_7_25 (ltk (by decide) hN) rfl rfl ?_
          refine ev_iload_n d_118_118 rfl ?_
          refine ev_bipush d_118_119 cb_64 ?_
          refine ev_iload_n d_118_121 rfl ?_
          refine ev_imul (v := ((64 : Int32) * a1)) d_118_122 rfl ?_
          refine ev_iload_n d_118_123 rfl ?_
          refine ev_iadd (v := (((64 : Int32) * a1) + a2)) d_118_124 rfl ?_
          refine ev_iastore (i := a0.toNatClampNeg) d_118_125 (ltk (by decide) hN) rfl (by first | assumption | (rcases n4 hn with rfl | rfl | rfl | rfl <;> exact vpi (by decide))) rfl ?_
          refine ev_aload_n d_118_126 rfl ?_
          refine ev_getf (v := .ref 47) d_118_127 fl_7_22 (ltk (by decide) hN) rfl rfl ?_
          refine ev_iload_n d_118_130 rfl ?_
          refine ev_iconst d_118_131 ci_0 ?_
          refine ev_iastore (i := a0.toNatClampNeg) d_118_132 (ltk (by decide) hN) rfl (by first | assumption | (rcases n4 hn with rfl | rfl | rfl | rfl <;> exact vpi (by decide))) rfl ?_
          refine ev_goto (tgt := 143) d_118_133 rfl ?_
          exact ev_vret d_118_143 rfl
      · refine ev_aload_n d_118_83 rfl ?_
        refine ev_getf (v := .ref 48) d_118_84 fl_7_25 (ltk (by decide) hN) rfl rfl ?_
        refine ev_iload_n d_118_87 rfl ?_
        refine ev_iald (i := a0.toNatClampNeg) d_118_88 (ltk (by decide) hN) rfl (by first | assumption | (rcases n4 hn with rfl | rfl | rfl | rfl <;> exact vpi (by decide))) rfl ?_
        refine ev_bipush d_118_89 cb_64 ?_
        refine ev_idiv (v := ((σ.1 48 a0.toNatClampNeg) / (64 : Int32))) d_118_91 (by decide) rfl ?_
        refine ev_iload_n d_118_92 rfl ?_
        refine ev_icmp_eq mmSV (tgt := 108) d_118_93 rfl (fun _h93 => ?_) (fun _h93 => ?_)
        · refine ev_iload_n d_118_108 rfl ?_
          refine ev_iconst d_118_109 ci_2 ?_
          refine ev_irem (v := (a2 - a2 / (2 : Int32) * (2 : Int32))) d_118_110 (by decide) rfl ?_
          refine ev_if_ne mmSV (tgt := 136) d_118_111 rfl (fun _h111 => ?_) (fun _h111 => ?_)
          · refine ev_aload_n d_118_136 rfl ?_
            refine ev_getf (v := .ref 48) d_118_137 fl_7_25 (ltk (by decide) hN) rfl rfl ?_
            refine ev_iload_n d_118_140 rfl ?_
            refine ev_iconst d_118_141 ci_0 ?_
            refine ev_iastore (i := a0.toNatClampNeg) d_118_142 (ltk (by decide) hN) rfl (by first | assumption | (rcases n4 hn with rfl | rfl | rfl | rfl <;> exact vpi (by decide))) rfl ?_
            exact ev_vret d_118_143 rfl
          · refine ev_aload_n d_118_114 rfl ?_
            refine ev_getf (v := .ref 48) d_118_115 fl_7_25 (ltk (by decide) hN) rfl rfl ?_
            refine ev_iload_n d_118_118 rfl ?_
            refine ev_bipush d_118_119 cb_64 ?_
            refine ev_iload_n d_118_121 rfl ?_
            refine ev_imul (v := ((64 : Int32) * a1)) d_118_122 rfl ?_
            refine ev_iload_n d_118_123 rfl ?_
            refine ev_iadd (v := (((64 : Int32) * a1) + a2)) d_118_124 rfl ?_
            refine ev_iastore (i := a0.toNatClampNeg) d_118_125 (ltk (by decide) hN) rfl (by first | assumption | (rcases n4 hn with rfl | rfl | rfl | rfl <;> exact vpi (by decide))) rfl ?_
            refine ev_aload_n d_118_126 rfl ?_
            refine ev_getf (v := .ref 47) d_118_127 fl_7_22 (ltk (by decide) hN) rfl rfl ?_
            refine ev_iload_n d_118_130 rfl ?_
            refine ev_iconst d_118_131 ci_0 ?_
            refine ev_iastore (i := a0.toNatClampNeg) d_118_132 (ltk (by decide) hN) rfl (by first | assumption | (rcases n4 hn with rfl | rfl | rfl | rfl <;> exact vpi (by decide))) rfl ?_
            refine ev_goto (tgt := 143) d_118_133 rfl ?_
            exact ev_vret d_118_143 rfl
        · refine ev_aload_n d_118_96 rfl ?_
          refine ev_getf (v := .ref 47) d_118_97 fl_7_22 (ltk (by decide) hN) rfl rfl ?_
          refine ev_iload_n d_118_100 rfl ?_
          refine ev_iald (i := a0.toNatClampNeg) d_118_101 (ltk (by decide) hN) rfl (by first | assumption | (rcases n4 hn with rfl | rfl | rfl | rfl <;> exact vpi (by decide))) rfl ?_
          refine ev_bipush d_118_102 cb_90 ?_
          refine ev_icmp_gt mmSV (tgt := 108) d_118_104 rfl (fun _h104 => ?_) (fun _h104 => ?_)
          · refine ev_iload_n d_118_108 rfl ?_
            refine ev_iconst d_118_109 ci_2 ?_
            refine ev_irem (v := (a2 - a2 / (2 : Int32) * (2 : Int32))) d_118_110 (by decide) rfl ?_
            refine ev_if_ne mmSV (tgt := 136) d_118_111 rfl (fun _h111 => ?_) (fun _h111 => ?_)
            · refine ev_aload_n d_118_136 rfl ?_
              refine ev_getf (v := .ref 48) d_118_137 fl_7_25 (ltk (by decide) hN) rfl rfl ?_
              refine ev_iload_n d_118_140 rfl ?_
              refine ev_iconst d_118_141 ci_0 ?_
              refine ev_iastore (i := a0.toNatClampNeg) d_118_142 (ltk (by decide) hN) rfl (by first | assumption | (rcases n4 hn with rfl | rfl | rfl | rfl <;> exact vpi (by decide))) rfl ?_
              exact ev_vret d_118_143 rfl
            · refine ev_aload_n d_118_114 rfl ?_
              refine ev_getf (v := .ref 48) d_118_115 fl_7_25 (ltk (by decide) hN) rfl rfl ?_
              refine ev_iload_n d_118_118 rfl ?_
              refine ev_bipush d_118_119 cb_64 ?_
              refine ev_iload_n d_118_121 rfl ?_
              refine ev_imul (v := ((64 : Int32) * a1)) d_118_122 rfl ?_
              refine ev_iload_n d_118_123 rfl ?_
              refine ev_iadd (v := (((64 : Int32) * a1) + a2)) d_118_124 rfl ?_
              refine ev_iastore (i := a0.toNatClampNeg) d_118_125 (ltk (by decide) hN) rfl (by first | assumption | (rcases n4 hn with rfl | rfl | rfl | rfl <;> exact vpi (by decide))) rfl ?_
              refine ev_aload_n d_118_126 rfl ?_
              refine ev_getf (v := .ref 47) d_118_127 fl_7_22 (ltk (by decide) hN) rfl rfl ?_
              refine ev_iload_n d_118_130 rfl ?_
              refine ev_iconst d_118_131 ci_0 ?_
              refine ev_iastore (i := a0.toNatClampNeg) d_118_132 (ltk (by decide) hN) rfl (by first | assumption | (rcases n4 hn with rfl | rfl | rfl | rfl <;> exact vpi (by decide))) rfl ?_
              refine ev_goto (tgt := 143) d_118_133 rfl ?_
              exact ev_vret d_118_143 rfl
          · exact ev_vret d_118_107 rfl
    · refine ev_aload_n d_118_21 rfl ?_
      refine ev_getf (v := .ref 47) d_118_22 fl_7_22 (ltk (by decide) hN) rfl rfl ?_
      refine ev_iload_n d_118_25 rfl ?_
      refine ev_iald (i := a0.toNatClampNeg) d_118_26 (ltk (by decide) hN) rfl (by first | assumption | (rcases n4 hn with rfl | rfl | rfl | rfl <;> exact vpi (by decide))) rfl ?_
      refine ev_bipush d_118_27 cb_70 ?_
      refine ev_icmp_lt mmSV (tgt := 74) d_118_29 rfl (fun _h29 => ?_) (fun _h29 => ?_)
      · refine ev_aload_n d_118_74 rfl ?_
        refine ev_getf (v := .ref 48) d_118_75 fl_7_25 (ltk (by decide) hN) rfl rfl ?_
        refine ev_iload_n d_118_78 rfl ?_
        refine ev_iald (i := a0.toNatClampNeg) d_118_79 (ltk (by decide) hN) rfl (by first | assumption | (rcases n4 hn with rfl | rfl | rfl | rfl <;> exact vpi (by decide))) rfl ?_
        refine ev_if_le mmSV (tgt := 108) d_118_80 rfl (fun _h80 => ?_) (fun _h80 => ?_)
        · refine ev_iload_n d_118_108 rfl ?_
          refine ev_iconst d_118_109 ci_2 ?_
          refine ev_irem (v := (a2 - a2 / (2 : Int32) * (2 : Int32))) d_118_110 (by decide) rfl ?_
          refine ev_if_ne mmSV (tgt := 136) d_118_111 rfl (fun _h111 => ?_) (fun _h111 => ?_)
          · refine ev_aload_n d_118_136 rfl ?_
            refine ev_getf (v := .ref 48) d_118_137 fl_7_25 (ltk (by decide) hN) rfl rfl ?_
            refine ev_iload_n d_118_140 rfl ?_
            refine ev_iconst d_118_141 ci_0 ?_
            refine ev_iastore (i := a0.toNatClampNeg) d_118_142 (ltk (by decide) hN) rfl (by first | assumption | (rcases n4 hn with rfl | rfl | rfl | rfl <;> exact vpi (by decide))) rfl ?_
            exact ev_vret d_118_143 rfl
          · refine ev_aload_n d_118_114 rfl ?_
            refine ev_getf (v := .ref 48) d_118_115 fl_7_25 (ltk (by decide) hN) rfl rfl ?_
            refine ev_iload_n d_118_118 rfl ?_
            refine ev_bipush d_118_119 cb_64 ?_
            refine ev_iload_n d_118_121 rfl ?_
            refine ev_imul (v := ((64 : Int32) * a1)) d_118_122 rfl ?_
            refine ev_iload_n d_118_123 rfl ?_
            refine ev_iadd (v := (((64 : Int32) * a1) + a2)) d_118_124 rfl ?_
            refine ev_iastore (i := a0.toNatClampNeg) d_118_125 (ltk (by decide) hN) rfl (by first | assumption | (rcases n4 hn with rfl | rfl | rfl | rfl <;> exact vpi (by decide))) rfl ?_
            refine ev_aload_n d_118_126 rfl ?_
            refine ev_getf (v := .ref 47) d_118_127 fl_7_22 (ltk (by decide) hN) rfl rfl ?_
            refine ev_iload_n d_118_130 rfl ?_
            refine ev_iconst d_118_131 ci_0 ?_
            refine ev_iastore (i := a0.toNatClampNeg) d_118_132 (ltk (by decide) hN) rfl (by first | assumption | (rcases n4 hn with rfl | rfl | rfl | rfl <;> exact vpi (by decide))) rfl ?_
            refine ev_goto (tgt := 143) d_118_133 rfl ?_
            exact ev_vret d_118_143 rfl
        · refine ev_aload_n d_118_83 rfl ?_
          refine ev_getf (v := .ref 48) d_118_84 fl_7_25 (ltk (by decide) hN) rfl rfl ?_
          refine ev_iload_n d_118_87 rfl ?_
          refine ev_iald (i := a0.toNatClampNeg) d_118_88 (ltk (by decide) hN) rfl (by first | assumption | (rcases n4 hn with rfl | rfl | rfl | rfl <;> exact vpi (by decide))) rfl ?_
          refine ev_bipush d_118_89 cb_64 ?_
          refine ev_idiv (v := ((σ.1 48 a0.toNatClampNeg) / (64 : Int32))) d_118_91 (by decide) rfl ?_
          refine ev_iload_n d_118_92 rfl ?_
          refine ev_icmp_eq mmSV (tgt := 108) d_118_93 rfl (fun _h93 => ?_) (fun _h93 => ?_)
          · refine ev_iload_n d_118_108 rfl ?_
            refine ev_iconst d_118_109 ci_2 ?_
            refine ev_irem (v := (a2 - a2 / (2 : Int32) * (2 : Int32))) d_118_110 (by decide) rfl ?_
            refine ev_if_ne mmSV (tgt := 136) d_118_111 rfl (fun _h111 => ?_) (fun _h111 => ?_)
            · refine ev_aload_n d_118_136 rfl ?_
              refine ev_getf (v := .ref 48) d_118_137 fl_7_25 (ltk (by decide) hN) rfl rfl ?_
              refine ev_iload_n d_118_140 rfl ?_
              refine ev_iconst d_118_141 ci_0 ?_
              refine ev_iastore (i := a0.toNatClampNeg) d_118_142 (ltk (by decide) hN) rfl (by first | assumption | (rcases n4 hn with rfl | rfl | rfl | rfl <;> exact vpi (by decide))) rfl ?_
              exact ev_vret d_118_143 rfl
            · refine ev_aload_n d_118_114 rfl ?_
              refine ev_getf (v := .ref 48) d_118_115 fl_7_25 (ltk (by decide) hN) rfl rfl ?_
              refine ev_iload_n d_118_118 rfl ?_
              refine ev_bipush d_118_119 cb_64 ?_
              refine ev_iload_n d_118_121 rfl ?_
              refine ev_imul (v := ((64 : Int32) * a1)) d_118_122 rfl ?_
              refine ev_iload_n d_118_123 rfl ?_
              refine ev_iadd (v := (((64 : Int32) * a1) + a2)) d_118_124 rfl ?_
              refine ev_iastore (i := a0.toNatClampNeg) d_118_125 (ltk (by decide) hN) rfl (by first | assumption | (rcases n4 hn with rfl | rfl | rfl | rfl <;> exact vpi (by decide))) rfl ?_
              refine ev_aload_n d_118_126 rfl ?_
              refine ev_getf (v := .ref 47) d_118_127 fl_7_22 (ltk (by decide) hN) rfl rfl ?_
              refine ev_iload_n d_118_130 rfl ?_
              refine ev_iconst d_118_131 ci_0 ?_
              refine ev_iastore (i := a0.toNatClampNeg) d_118_132 (ltk (by decide) hN) rfl (by first | assumption | (rcases n4 hn with rfl | rfl | rfl | rfl <;> exact vpi (by decide))) rfl ?_
              refine ev_goto (tgt := 143) d_118_133 rfl ?_
              exact ev_vret d_118_143 rfl
          · refine ev_aload_n d_118_96 rfl ?_
            refine ev_getf (v := .ref 47) d_118_97 fl_7_22 (ltk (by decide) hN) rfl rfl ?_
            refine ev_iload_n d_118_100 rfl ?_
            refine ev_iald (i := a0.toNatClampNeg) d_118_101 (ltk (by decide) hN) rfl (by first | assumption | (rcases n4 hn with rfl | rfl | rfl | rfl <;> exact vpi (by decide))) rfl ?_
            refine ev_bipush d_118_102 cb_90 ?_
            refine ev_icmp_gt mmSV (tgt := 108) d_118_104 rfl (fun _h104 => ?_) (fun _h104 => ?_)
            · refine ev_iload_n d_118_108 rfl ?_
              refine ev_iconst d_118_109 ci_2 ?_
              refine ev_irem (v := (a2 - a2 / (2 : Int32) * (2 : Int32))) d_118_110 (by decide) rfl ?_
              refine ev_if_ne mmSV (tgt := 136) d_118_111 rfl (fun _h111 => ?_) (fun _h111 => ?_)
              · refine ev_aload_n d_118_136 rfl ?_
                refine ev_getf (v := .ref 48) d_118_137 fl_7_25 (ltk (by decide) hN) rfl rfl ?_
                refine ev_iload_n d_118_140 rfl ?_
                refine ev_iconst d_118_141 ci_0 ?_
                refine ev_iastore (i := a0.toNatClampNeg) d_118_142 (ltk (by decide) hN) rfl (by first | assumption | (rcases n4 hn with rfl | rfl | rfl | rfl <;> exact vpi (by decide))) rfl ?_
                exact ev_vret d_118_143 rfl
              · refine ev_aload_n d_118_114 rfl ?_
                refine ev_getf (v := .ref 48) d_118_115 fl_7_25 (ltk (by decide) hN) rfl rfl ?_
                refine ev_iload_n d_118_118 rfl ?_
                refine ev_bipush d_118_119 cb_64 ?_
                refine ev_iload_n d_118_121 rfl ?_
                refine ev_imul (v := ((64 : Int32) * a1)) d_118_122 rfl ?_
                refine ev_iload_n d_118_123 rfl ?_
                refine ev_iadd (v := (((64 : Int32) * a1) + a2)) d_118_124 rfl ?_
                refine ev_iastore (i := a0.toNatClampNeg) d_118_125 (ltk (by decide) hN) rfl (by first | assumption | (rcases n4 hn with rfl | rfl | rfl | rfl <;> exact vpi (by decide))) rfl ?_
                refine ev_aload_n d_118_126 rfl ?_
                refine ev_getf (v := .ref 47) d_118_127 fl_7_22 (ltk (by decide) hN) rfl rfl ?_
                refine ev_iload_n d_118_130 rfl ?_
                refine ev_iconst d_118_131 ci_0 ?_
                refine ev_iastore (i := a0.toNatClampNeg) d_118_132 (ltk (by decide) hN) rfl (by first | assumption | (rcases n4 hn with rfl | rfl | rfl | rfl <;> exact vpi (by decide))) rfl ?_
                refine ev_goto (tgt := 143) d_118_133 rfl ?_
                exact ev_vret d_118_143 rfl
            · exact ev_vret d_118_107 rfl
      · refine ev_aload_n d_118_32 rfl ?_
        refine ev_getf (v := .ref 47) d_118_33 fl_7_22 (ltk (by decide) hN) rfl rfl ?_
        refine ev_iload_n d_118_36 rfl ?_
        refine ev_iald (i := a0.toNatClampNeg) d_118_37 (ltk (by decide) hN) rfl (by first | assumption | (rcases n4 hn with rfl | rfl | rfl | rfl <;> exact vpi (by decide))) rfl ?_
        refine ev_bipush d_118_38 cb_90 ?_
        refine ev_icmp_gt mmSV (tgt := 74) d_118_40 rfl (fun _h40 => ?_) (fun _h40 => ?_)
        · refine ev_aload_n d_118_74 rfl ?_
          refine ev_getf (v := .ref 48) d_118_75 fl_7_25 (ltk (by decide) hN) rfl rfl ?_
          refine ev_iload_n d_118_78 rfl ?_
          refine ev_iald (i := a0.toNatClampNeg) d_118_79 (ltk (by decide) hN) rfl (by first | assumption | (rcases n4 hn with rfl | rfl | rfl | rfl <;> exact vpi (by decide))) rfl ?_
          refine ev_if_le mmSV (tgt := 108) d_118_80 rfl (fun _h80 => ?_) (fun _h80 => ?_)
          · refine ev_iload_n d_118_108 rfl ?_
            refine ev_iconst d_118_109 ci_2 ?_
            refine ev_irem (v := (a2 - a2 / (2 : Int32) * (2 : Int32))) d_118_110 (by decide) rfl ?_
            refine ev_if_ne mmSV (tgt := 136) d_118_111 rfl (fun _h111 => ?_) (fun _h111 => ?_)
            · refine ev_aload_n d_118_136 rfl ?_
              refine ev_getf (v := .ref 48) d_118_137 fl_7_25 (ltk (by decide) hN) rfl rfl ?_
              refine ev_iload_n d_118_140 rfl ?_
              refine ev_iconst d_118_141 ci_0 ?_
              refine ev_iastore (i := a0.toNatClampNeg) d_118_142 (ltk (by decide) hN) rfl (by first | assumption | (rcases n4 hn with rfl | rfl | rfl | rfl <;> exact vpi (by decide))) rfl ?_
              exact ev_vret d_118_143 rfl
            · refine ev_aload_n d_118_114 rfl ?_
              refine ev_getf (v := .ref 48) d_118_115 fl_7_25 (ltk (by decide) hN) rfl rfl ?_
              refine ev_iload_n d_118_118 rfl ?_
              refine ev_bipush d_118_119 cb_64 ?_
              refine ev_iload_n d_118_121 rfl ?_
              refine ev_imul (v := ((64 : Int32) * a1)) d_118_122 rfl ?_
              refine ev_iload_n d_118_123 rfl ?_
              refine ev_iadd (v := (((64 : Int32) * a1) + a2)) d_118_124 rfl ?_
              refine ev_iastore (i := a0.toNatClampNeg) d_118_125 (ltk (by decide) hN) rfl (by first | assumption | (rcases n4 hn with rfl | rfl | rfl | rfl <;> exact vpi (by decide))) rfl ?_
              refine ev_aload_n d_118_126 rfl ?_
              refine ev_getf (v := .ref 47) d_118_127 fl_7_22 (ltk (by decide) hN) rfl rfl ?_
              refine ev_iload_n d_118_130 rfl ?_
              refine ev_iconst d_118_131 ci_0 ?_
              refine ev_iastore (i := a0.toNatClampNeg) d_118_132 (ltk (by decide) hN) rfl (by first | assumption | (rcases n4 hn with rfl | rfl | rfl | rfl <;> exact vpi (by decide))) rfl ?_
              refine ev_goto (tgt := 143) d_118_133 rfl ?_
              exact ev_vret d_118_143 rfl
          · refine ev_aload_n d_118_83 rfl ?_
            refine ev_getf (v := .ref 48) d_118_84 fl_7_25 (ltk (by decide) hN) rfl rfl ?_
            refine ev_iload_n d_118_87 rfl ?_
            refine ev_iald (i := a0.toNatClampNeg) d_118_88 (ltk (by decide) hN) rfl (by first | assumption | (rcases n4 hn with rfl | rfl | rfl | rfl <;> exact vpi (by decide))) rfl ?_
            refine ev_bipush d_118_89 cb_64 ?_
            refine ev_idiv (v := ((σ.1 48 a0.toNatClampNeg) / (64 : Int32))) d_118_91 (by decide) rfl ?_
            refine ev_iload_n d_118_92 rfl ?_
            refine ev_icmp_eq mmSV (tgt := 108) d_118_93 rfl (fun _h93 => ?_) (fun _h93 => ?_)
            · refine ev_iload_n d_118_108 rfl ?_
              refine ev_iconst d_118_109 ci_2 ?_
              refine ev_irem (v := (a2 - a2 / (2 : Int32) * (2 : Int32))) d_118_110 (by decide) rfl ?_
              refine ev_if_ne mmSV (tgt := 136) d_118_111 rfl (fun _h111 => ?_) (fun _h111 => ?_)
              · refine ev_aload_n d_118_136 rfl ?_
                refine ev_getf (v := .ref 48) d_118_137 fl_7_25 (ltk (by decide) hN) rfl rfl ?_
                refine ev_iload_n d_118_140 rfl ?_
                refine ev_iconst d_118_141 ci_0 ?_
                refine ev_iastore (i := a0.toNatClampNeg) d_118_142 (ltk (by decide) hN) rfl (by first | assumption | (rcases n4 hn with rfl | rfl | rfl | rfl <;> exact vpi (by decide))) rfl ?_
                exact ev_vret d_118_143 rfl
              · refine ev_aload_n d_118_114 rfl ?_
                refine ev_getf (v := .ref 48) d_118_115 fl_7_25 (ltk (by decide) hN) rfl rfl ?_
                refine ev_iload_n d_118_118 rfl ?_
                refine ev_bipush d_118_119 cb_64 ?_
                refine ev_iload_n d_118_121 rfl ?_
                refine ev_imul (v := ((64 : Int32) * a1)) d_118_122 rfl ?_
                refine ev_iload_n d_118_123 rfl ?_
                refine ev_iadd (v := (((64 : Int32) * a1) + a2)) d_118_124 rfl ?_
                refine ev_iastore (i := a0.toNatClampNeg) d_118_125 (ltk (by decide) hN) rfl (by first | assumption | (rcases n4 hn with rfl | rfl | rfl | rfl <;> exact vpi (by decide))) rfl ?_
                refine ev_aload_n d_118_126 rfl ?_
                refine ev_getf (v := .ref 47) d_118_127 fl_7_22 (ltk (by decide) hN) rfl rfl ?_
                refine ev_iload_n d_118_130 rfl ?_
                refine ev_iconst d_118_131 ci_0 ?_
                refine ev_iastore (i := a0.toNatClampNeg) d_118_132 (ltk (by decide) hN) rfl (by first | assumption | (rcases n4 hn with rfl | rfl | rfl | rfl <;> exact vpi (by decide))) rfl ?_
                refine ev_goto (tgt := 143) d_118_133 rfl ?_
                exact ev_vret d_118_143 rfl
            · refine ev_aload_n d_118_96 rfl ?_
              refine ev_getf (v := .ref 47) d_118_97 fl_7_22 (ltk (by decide) hN) rfl rfl ?_
              refine ev_iload_n d_118_100 rfl ?_
              refine ev_iald (i := a0.toNatClampNeg) d_118_101 (ltk (by decide) hN) rfl (by first | assumption | (rcases n4 hn with rfl | rfl | rfl | rfl <;> exact vpi (by decide))) rfl ?_
              refine ev_bipush d_118_102 cb_90 ?_
              refine ev_icmp_gt mmSV (tgt := 108) d_118_104 rfl (fun _h104 => ?_) (fun _h104 => ?_)
              · refine ev_iload_n d_118_108 rfl ?_
                refine ev_iconst d_118_109 ci_2 ?_
                refine ev_irem (v := (a2 - a2 / (2 : Int32) * (2 : Int32))) d_118_110 (by decide) rfl ?_
                refine ev_if_ne mmSV (tgt := 136) d_118_111 rfl (fun _h111 => ?_) (fun _h111 => ?_)
                · refine ev_aload_n d_118_136 rfl ?_
                  refine ev_getf (v := .ref 48) d_118_137 fl_7_25 (ltk (by decide) hN) rfl rfl ?_
                  refine ev_iload_n d_118_140 rfl ?_
                  refine ev_iconst d_118_141 ci_0 ?_
                  refine ev_iastore (i := a0.toNatClampNeg) d_118_142 (ltk (by decide) hN) rfl (by first | assumption | (rcases n4 hn with rfl | rfl | rfl | rfl <;> exact vpi (by decide))) rfl ?_
                  exact ev_vret d_118_143 rfl
                · refine ev_aload_n d_118_114 rfl ?_
                  refine ev_getf (v := .ref 48) d_118_115 fl_7_25 (ltk (by decide) hN) rfl rfl ?_
                  refine ev_iload_n d_118_118 rfl ?_
                  refine ev_bipush d_118_119 cb_64 ?_
                  refine ev_iload_n d_118_121 rfl ?_
                  refine ev_imul (v := ((64 : Int32) * a1)) d_118_122 rfl ?_
                  refine ev_iload_n d_118_123 rfl ?_
                  refine ev_iadd (v := (((64 : Int32) * a1) + a2)) d_118_124 rfl ?_
                  refine ev_iastore (i := a0.toNatClampNeg) d_118_125 (ltk (by decide) hN) rfl (by first | assumption | (rcases n4 hn with rfl | rfl | rfl | rfl <;> exact vpi (by decide))) rfl ?_
                  refine ev_aload_n d_118_126 rfl ?_
                  refine ev_getf (v := .ref 47) d_118_127 fl_7_22 (ltk (by decide) hN) rfl rfl ?_
                  refine ev_iload_n d_118_130 rfl ?_
                  refine ev_iconst d_118_131 ci_0 ?_
                  refine ev_iastore (i := a0.toNatClampNeg) d_118_132 (ltk (by decide) hN) rfl (by first | assumption | (rcases n4 hn with rfl | rfl | rfl | rfl <;> exact vpi (by decide))) rfl ?_
                  refine ev_goto (tgt := 143) d_118_133 rfl ?_
                  exact ev_vret d_118_143 rfl
              · exact ev_vret d_118_107 rfl
        · refine ev_aload_n d_118_43 rfl ?_
          refine ev_iload_n d_118_44 rfl ?_
          refine ev_iconst d_118_45 ci_3 ?_
          refine ev_iload_n d_118_46 rfl ?_
          refine ev_bipush d_118_47 cb_10 ?_
          refine ev_iload_n d_118_49 rfl ?_
          refine ev_imul (v := ((10 : Int32) * a1)) d_118_50 rfl ?_
          refine ev_bipush d_118_51 cb_6 ?_
          refine ev_isub (v := (((10 : Int32) * a1) - (6 : Int32))) d_118_53 rfl ?_
          refine ev_aload_n d_118_54 rfl ?_
          refine ev_getf (v := .ref 47) d_118_55 fl_7_22 (ltk (by decide) hN) rfl rfl ?_
          refine ev_iload_n d_118_58 rfl ?_
          refine ev_iald (i := a0.toNatClampNeg) d_118_59 (ltk (by decide) hN) rfl (by first | assumption | (rcases n4 hn with rfl | rfl | rfl | rfl <;> exact vpi (by decide))) rfl ?_
          refine ev_bipush d_118_60 cb_80 ?_
          refine ev_isub (v := ((σ.1 47 a0.toNatClampNeg) - (80 : Int32))) d_118_62 rfl ?_
          refine ev_iconst d_118_63 ci_4 ?_
          refine ev_csI (As := [.int ((σ.1 47 a0.toNatClampNeg) - (80 : Int32)), .int (4 : Int32)]) (t := [.int (((10 : Int32) * a1) - (6 : Int32)), .int a2, .int (3 : Int32), .int a0, .ref 42]) (e' := 0) d_118_64 ml_7_120 rfl rfl rfl rfl rfl (by decide) rfl rfl (ev_m_limit hN ((σ.1 47 a0.toNatClampNeg) - (80 : Int32)) (4 : Int32) σ) ?_
          refine ev_iconst d_118_67 ci_m1 ?_
          refine ev_cvV (As := [.int a0, .int (3 : Int32), .int a2, .int (((10 : Int32) * a1) - (6 : Int32)), .int (sp_m_limit ((σ.1 47 a0.toNatClampNeg) - (80 : Int32)) (4 : Int32) σ), .int (-1 : Int32)]) (t := []) (e' := 0) d_118_68 ml_7_139 rfl rfl rfl rfl rfl (by decide) rfl (ltk (by decide) hN) rfl rfl rfl (ev_m_begin hN a0 (3 : Int32) a2 (((10 : Int32) * a1) - (6 : Int32)) (sp_m_limit ((σ.1 47 a0.toNatClampNeg) - (80 : Int32)) (4 : Int32) σ) (-1 : Int32) σ hn) ?_
          refine ev_goto (tgt := 143) d_118_71 rfl ?_
          exact ev_vret d_118_143 rfl
theorem jm_notice {σ : mmS} {a b c : Int32} (hc : ∃ q, q < 64 ∧ c = Int32.ofNat q) (hJ : Jm σ) : Jm (sp_m_notice a b c σ) := by
  unfold sp_m_notice
  repeat' (with_reducible first | exact hJ | exact jm_begin hc hJ | exact jm_I (by decide) (jm_I (by decide) hJ) | exact jm_I (by decide) hJ | split)
theorem dvx {a b c : Int32} (ha : vp_in a 4) (h1 : ¬ b < 1) (h4 : b ≤ 4) (hc : ∃ q, q < 64 ∧ c = Int32.ofNat q) : vp_in (((8 : Int32) * a + (2 : Int32) * (b - 1)) + (c - c / 2 * 2)) 32 := by
  obtain ⟨q, hq, rfl⟩ := hc
  have hb : b = 1 ∨ b = 2 ∨ b = 3 ∨ b = 4 := by
    rw [Int32.lt_iff_toInt_lt] at h1
    rw [Int32.le_iff_toInt_le] at h4
    have e4 : (4 : Int32).toInt = 4 := by decide
    have e1 : (1 : Int32).toInt = 1 := by decide
    rw [e4] at h4
    rw [e1] at h1
    have hz : ∀ {k : Int32}, b.toInt = k.toInt → b = k := fun h => Int32.toInt_inj.mp h
    have h5 : b.toInt = 1 ∨ b.toInt = 2 ∨ b.toInt = 3 ∨ b.toInt = 4 := by omega
    rcases h5 with h | h | h | h
    · exact Or.inl (hz (h.trans (by decide)))
    · exact Or.inr (Or.inl (hz (h.trans (by decide))))
    · exact Or.inr (Or.inr (Or.inl (hz (h.trans (by decide)))))
    · exact Or.inr (Or.inr (Or.inr (hz (h.trans (by decide)))))
  rcases (c64 q hq).1 with e | e <;> rw [e] <;> rcases n4 ha with rfl | rfl | rfl | rfl <;> rcases hb with rfl | rfl | rfl | rfl <;> exact vpi (by decide)
theorem and63 (x : Int64) : ∃ q, q < 64 ∧ (x &&& (63 : Int64)).toInt32 = Int32.ofNat q := by
  refine ⟨(x.toBitVec &&& 63#64).toNat, ?_, ?_⟩
  · rw [BitVec.toNat_and]
    exact Nat.and_lt_two_pow (n := 6) _ (by decide)
  · apply Int32.toBitVec_inj.mp
    rw [Int64.toBitVec_toInt32, Int64.toBitVec_and, Int32.toBitVec_ofNat', BitVec.signExtend_eq_setWidth_of_le _ (by decide)]
    apply BitVec.eq_of_toNat_eq
    rw [BitVec.toNat_setWidth, BitVec.toNat_ofNat]
    rfl
theorem cyc_rng (w : Int64) (σ : mmS) : ∃ q, q < 64 ∧ sp_m_cycleOf w σ = Int32.ofNat q := and63 _
def sp_m_hear (a0 : Int32) (a1 : Int64) (σ : mmS) : mmS :=
if (sp_m_wrong a1 σ) = 0 then
  if (sp_m_idOf a1 σ) < (1 : Int32) then
    if (σ.1 44 a0.toNatClampNeg) = (1 : Int32) then
      (mmI σ 46 a0.toNatClampNeg (0 : Int32))
    else
      σ
  else
    if (9 : Int32) < (sp_m_idOf a1 σ) then
      if (σ.1 44 a0.toNatClampNeg) = (1 : Int32) then
        (mmI σ 46 a0.toNatClampNeg (0 : Int32))
      else
        σ
    else
      if (sp_m_startupOf a1 σ) = 0 then
        if (σ.1 44 a0.toNatClampNeg) = (1 : Int32) then
          if (sp_m_startupOf a1 σ) = 0 then
            (mmI σ 46 a0.toNatClampNeg (0 : Int32))
          else
            (sp_m_notice a0 (sp_m_idOf a1 σ) (sp_m_cycleOf a1 (mmI σ 46 a0.toNatClampNeg (0 : Int32))) (mmI σ 46 a0.toNatClampNeg (0 : Int32)))
        else
          if (sp_m_cycleOf a1 σ) = (σ.1 50 a0.toNatClampNeg) then
            if (sp_m_idOf a1 σ) ≤ (4 : Int32) then
              if (((σ.1 49 a0.toNatClampNeg) - ((10 : Int32) * (sp_m_idOf a1 σ))) + (6 : Int32)) < (-3 : Int32) then
                if (σ.1 44 a0.toNatClampNeg) = (2 : Int32) then
                  if (sp_m_startupOf a1 σ) = 0 then
                    σ
                  else
                    (sp_m_listen a0 σ)
                else
                  σ
              else
                if (3 : Int32) < (((σ.1 49 a0.toNatClampNeg) - ((10 : Int32) * (sp_m_idOf a1 σ))) + (6 : Int32)) then
                  if (σ.1 44 a0.toNatClampNeg) = (2 : Int32) then
                    if (sp_m_startupOf a1 σ) = 0 then
                      σ
                    else
                      (sp_m_listen a0 σ)
                  else
                    σ
                else
                  (mmI (mmI σ 57 ((((8 : Int32) * a0) + ((2 : Int32) * ((sp_m_idOf a1 σ) - (1 : Int32)))) + ((σ.1 50 a0.toNatClampNeg) - (σ.1 50 a0.toNatClampNeg) / (2 : Int32) * (2 : Int32))).toNatClampNeg (((σ.1 49 a0.toNatClampNeg) - ((10 : Int32) * (sp_m_idOf a1 σ))) + (6 : Int32))) 58 (((10 : Int32) * a0) + (sp_m_idOf a1 σ)).toNatClampNeg ((1 : Int32) + (sp_m_valueOf a1 (mmI σ 57 ((((8 : Int32) * a0) + ((2 : Int32) * ((sp_m_idOf a1 σ) - (1 : Int32)))) + ((σ.1 50 a0.toNatClampNeg) - (σ.1 50 a0.toNatClampNeg) / (2 : Int32) * (2 : Int32))).toNatClampNeg (((σ.1 49 a0.toNatClampNeg) - ((10 : Int32) * (sp_m_idOf a1 σ))) + (6 : Int32))))))
            else
              if (σ.1 49 a0.toNatClampNeg) < (40 : Int32) then
                σ
              else
                if (60 : Int32) ≤ (σ.1 49 a0.toNatClampNeg) then
                  σ
                else
                  (mmI (mmI (mmI σ 58 (((10 : Int32) * a0) + (sp_m_idOf a1 σ)).toNatClampNeg ((1 : Int32) + (sp_m_valueOf a1 σ))) 55 a0.toNatClampNeg (sp_m_idOf a1 σ)) 56 a0.toNatClampNeg (1 : Int32))
          else
            if (sp_m_idOf a1 σ) ≤ (4 : Int32) then
              if (σ.1 44 a0.toNatClampNeg) = (2 : Int32) then
                if (sp_m_startupOf a1 σ) = 0 then
                  σ
                else
                  (sp_m_listen a0 σ)
              else
                σ
            else
              σ
      else
        if (2 : Int32) < (sp_m_idOf a1 σ) then
          if (σ.1 44 a0.toNatClampNeg) = (1 : Int32) then
            (mmI σ 46 a0.toNatClampNeg (0 : Int32))
          else
            σ
        else
          if (σ.1 44 a0.toNatClampNeg) = (1 : Int32) then
            if (sp_m_startupOf a1 σ) = 0 then
              (mmI σ 46 a0.toNatClampNeg (0 : Int32))
            else
              (sp_m_notice a0 (sp_m_idOf a1 σ) (sp_m_cycleOf a1 (mmI σ 46 a0.toNatClampNeg (0 : Int32))) (mmI σ 46 a0.toNatClampNeg (0 : Int32)))
          else
            if (sp_m_cycleOf a1 σ) = (σ.1 50 a0.toNatClampNeg) then
              if (sp_m_idOf a1 σ) ≤ (4 : Int32) then
                if (((σ.1 49 a0.toNatClampNeg) - ((10 : Int32) * (sp_m_idOf a1 σ))) + (6 : Int32)) < (-3 : Int32) then
                  if (σ.1 44 a0.toNatClampNeg) = (2 : Int32) then
                    if (sp_m_startupOf a1 σ) = 0 then
                      σ
                    else
                      (sp_m_listen a0 σ)
                  else
                    σ
                else
                  if (3 : Int32) < (((σ.1 49 a0.toNatClampNeg) - ((10 : Int32) * (sp_m_idOf a1 σ))) + (6 : Int32)) then
                    if (σ.1 44 a0.toNatClampNeg) = (2 : Int32) then
                      if (sp_m_startupOf a1 σ) = 0 then
                        σ
                      else
                        (sp_m_listen a0 σ)
                    else
                      σ
                  else
                    (mmI (mmI σ 57 ((((8 : Int32) * a0) + ((2 : Int32) * ((sp_m_idOf a1 σ) - (1 : Int32)))) + ((σ.1 50 a0.toNatClampNeg) - (σ.1 50 a0.toNatClampNeg) / (2 : Int32) * (2 : Int32))).toNatClampNeg (((σ.1 49 a0.toNatClampNeg) - ((10 : Int32) * (sp_m_idOf a1 σ))) + (6 : Int32))) 58 (((10 : Int32) * a0) + (sp_m_idOf a1 σ)).toNatClampNeg ((1 : Int32) + (sp_m_valueOf a1 (mmI σ 57 ((((8 : Int32) * a0) + ((2 : Int32) * ((sp_m_idOf a1 σ) - (1 : Int32)))) + ((σ.1 50 a0.toNatClampNeg) - (σ.1 50 a0.toNatClampNeg) / (2 : Int32) * (2 : Int32))).toNatClampNeg (((σ.1 49 a0.toNatClampNeg) - ((10 : Int32) * (sp_m_idOf a1 σ))) + (6 : Int32))))))
              else
                if (σ.1 49 a0.toNatClampNeg) < (40 : Int32) then
                  σ
                else
                  if (60 : Int32) ≤ (σ.1 49 a0.toNatClampNeg) then
                    σ
                  else
                    (mmI (mmI (mmI σ 58 (((10 : Int32) * a0) + (sp_m_idOf a1 σ)).toNatClampNeg ((1 : Int32) + (sp_m_valueOf a1 σ))) 55 a0.toNatClampNeg (sp_m_idOf a1 σ)) 56 a0.toNatClampNeg (1 : Int32))
            else
              if (sp_m_idOf a1 σ) ≤ (4 : Int32) then
                if (σ.1 44 a0.toNatClampNeg) = (2 : Int32) then
                  if (sp_m_startupOf a1 σ) = 0 then
                    σ
                  else
                    (sp_m_listen a0 σ)
                else
                  σ
              else
                σ
else
  if (σ.1 44 a0.toNatClampNeg) = (1 : Int32) then
    (mmI σ 46 a0.toNatClampNeg (0 : Int32))
  else
    σ
theorem ev_m_hear (hN : 65 ≤ N) (a0 : Int32) (a1 : Int64) (σ : mmS) (hn : vp_in a0 4) (hJ : Jm σ) : Ev N L xs (113, 0, lv_args 0 [.ref 42, .int a0, .long a1], [], 0, σ) (mmSV (sp_m_hear a0 a1 σ)) := by
  unfold sp_m_hear
  show Ev N L xs (113, 0, [(0, .ref 42), (1, .int a0), (2, .long a1)], [], 0, σ) _
  refine ev_lload_n d_113_0 rfl ?_
  refine ev_csI (As := [.long a1]) (t := []) (e' := 0) d_113_1 ml_7_150 rfl rfl rfl rfl rfl (by decide) rfl rfl (ev_m_idOf hN a1 σ) ?_
  refine ev_istore (lv' := [(4, .int (sp_m_idOf a1 σ)), (0, .ref 42), (1, .int a0), (2, .long a1)]) d_113_4 (by decide) rfl ?_
  refine ev_lload_n d_113_6 rfl ?_
  refine ev_csI (As := [.long a1]) (t := []) (e' := 0) d_113_7 ml_7_154 rfl rfl rfl rfl rfl (by decide) rfl rfl (ev_m_startupOf hN a1 σ) ?_
  refine ev_istore (lv' := [(5, .int (sp_m_startupOf a1 σ)), (4, .int (sp_m_idOf a1 σ)), (0, .ref 42), (1, .int a0), (2, .long a1)]) d_113_10 (by decide) rfl ?_
  refine ev_lload_n d_113_12 rfl ?_
  refine ev_csI (As := [.long a1]) (t := []) (e' := 0) d_113_13 ml_7_158 rfl rfl rfl rfl rfl (by decide) rfl rfl (ev_m_wrong hN a1 σ) ?_
  refine ev_if_ne mmSV (tgt := 47) d_113_16 rfl (fun _h16 => ?_) (fun _h16 => ?_)
  · refine ev_iconst d_113_47 ci_0 ?_
    refine ev_istore (lv' := [(6, .int (0 : Int32)), (5, .int (sp_m_startupOf a1 σ)), (4, .int (sp_m_idOf a1 σ)), (0, .ref 42), (1, .int a0), (2, .long a1)]) d_113_48 (by decide) rfl ?_
    refine ev_aload_n d_113_50 rfl ?_
    refine ev_getf (v := .ref 44) d_113_51 fl_7_13 (ltk (by decide) hN) rfl rfl ?_
    refine ev_iload_n d_113_54 rfl ?_
    refine ev_iald (i := a0.toNatClampNeg) d_113_55 (ltk (by decide) hN) rfl (by first | assumption | (rcases n4 hn with rfl | rfl | rfl | rfl <;> exact vpi (by decide))) rfl ?_
    refine ev_iconst d_113_56 ci_1 ?_
    refine ev_icmp_ne mmSV (tgt := 89) d_113_57 rfl (fun _h57 => ?_) (fun _h57 => ?_)
    · refine ev_iload d_113_89 rfl ?_
      refine ev_ifF (tgt := 95) d_113_91 rfl (show ¬ (¬ (0 : Int32) = (0 : Int32)) by decide) ?_
      exact ev_vret d_113_94 rfl
    · refine ev_aload_n d_113_60 rfl ?_
      refine ev_getf (v := .ref 46) d_113_61 fl_7_19 (ltk (by decide) hN) rfl rfl ?_
      refine ev_iload_n d_113_64 rfl ?_
      refine ev_iconst d_113_65 ci_0 ?_
      refine ev_iastore (i := a0.toNatClampNeg) d_113_66 (ltk (by decide) hN) rfl (by first | assumption | (rcases n4 hn with rfl | rfl | rfl | rfl <;> exact vpi (by decide))) rfl ?_
      refine ev_iload d_113_67 rfl ?_
      refine ev_ifT (tgt := 88) d_113_69 rfl (show (0 : Int32) = (0 : Int32) by decide) ?_
      exact ev_vret d_113_88 rfl
  · refine ev_iload d_113_19 rfl ?_
    refine ev_iconst d_113_21 ci_1 ?_
    refine ev_icmp_lt mmSV (tgt := 47) d_113_22 rfl (fun _h22 => ?_) (fun _h22 => ?_)
    · refine ev_iconst d_113_47 ci_0 ?_
      refine ev_istore (lv' := [(6, .int (0 : Int32)), (5, .int (sp_m_startupOf a1 σ)), (4, .int (sp_m_idOf a1 σ)), (0, .ref 42), (1, .int a0), (2, .long a1)]) d_113_48 (by decide) rfl ?_
      refine ev_aload_n d_113_50 rfl ?_
      refine ev_getf (v := .ref 44) d_113_51 fl_7_13 (ltk (by decide) hN) rfl rfl ?_
      refine ev_iload_n d_113_54 rfl ?_
      refine ev_iald (i := a0.toNatClampNeg) d_113_55 (ltk (by decide) hN) rfl (by first | assumption | (rcases n4 hn with rfl | rfl | rfl | rfl <;> exact vpi (by decide))) rfl ?_
      refine ev_iconst d_113_56 ci_1 ?_
      refine ev_icmp_ne mmSV (tgt := 89) d_113_57 rfl (fun _h57 => ?_) (fun _h57 => ?_)
      · refine ev_iload d_113_89 rfl ?_
        refine ev_ifF (tgt := 95) d_113_91 rfl (show ¬ (¬ (0 : Int32) = (0 : Int32)) by decide) ?_
        exact ev_vret d_113_94 rfl
      · refine ev_aload_n d_113_60 rfl ?_
        refine ev_getf (v := .ref 46) d_113_61 fl_7_19 (ltk (by decide) hN) rfl rfl ?_
        refine ev_iload_n d_113_64 rfl ?_
        refine ev_iconst d_113_65 ci_0 ?_
        refine ev_iastore (i := a0.toNatClampNeg) d_113_66 (ltk (by decide) hN) rfl (by first | assumption | (rcases n4 hn with rfl | rfl | rfl | rfl <;> exact vpi (by decide))) rfl ?_
        refine ev_iload d_113_67 rfl ?_
        refine ev_ifT (tgt := 88) d_113_69 rfl (show (0 : Int32) = (0 : Int32) by decide) ?_
        exact ev_vret d_113_88 rfl
    · refine ev_iload d_113_25 rfl ?_
      refine ev_bipush d_113_27 cb_9 ?_
      refine ev_icmp_gt mmSV (tgt := 47) d_113_29 rfl (fun _h29 => ?_) (fun _h29 => ?_)
      · refine ev_iconst d_113_47 ci_0 ?_
        refine ev_istore (lv' := [(6, .int (0 : Int32)), (5, .int (sp_m_startupOf a1 σ)), (4, .int (sp_m_idOf a1 σ)), (0, .ref 42), (1, .int a0), (2, .long a1)]) d_113_48 (by decide) rfl ?_
        refine ev_aload_n d_113_50 rfl ?_
        refine ev_getf (v := .ref 44) d_113_51 fl_7_13 (ltk (by decide) hN) rfl rfl ?_
        refine ev_iload_n d_113_54 rfl ?_
        refine ev_iald (i := a0.toNatClampNeg) d_113_55 (ltk (by decide) hN) rfl (by first | assumption | (rcases n4 hn with rfl | rfl | rfl | rfl <;> exact vpi (by decide))) rfl ?_
        refine ev_iconst d_113_56 ci_1 ?_
        refine ev_icmp_ne mmSV (tgt := 89) d_113_57 rfl (fun _h57 => ?_) (fun _h57 => ?_)
        · refine ev_iload d_113_89 rfl ?_
          refine ev_ifF (tgt := 95) d_113_91 rfl (show ¬ (¬ (0 : Int32) = (0 : Int32)) by decide) ?_
          exact ev_vret d_113_94 rfl
        · refine ev_aload_n d_113_60 rfl ?_
          refine ev_getf (v := .ref 46) d_113_61 fl_7_19 (ltk (by decide) hN) rfl rfl ?_
          refine ev_iload_n d_113_64 rfl ?_
          refine ev_iconst d_113_65 ci_0 ?_
          refine ev_iastore (i := a0.toNatClampNeg) d_113_66 (ltk (by decide) hN) rfl (by first | assumption | (rcases n4 hn with rfl | rfl | rfl | rfl <;> exact vpi (by decide))) rfl ?_
          refine ev_iload d_113_67 rfl ?_
          refine ev_ifT (tgt := 88) d_113_69 rfl (show (0 : Int32) = (0 : Int32) by decide) ?_
          exact ev_vret d_113_88 rfl
      · refine ev_iload d_113_32 rfl ?_
        refine ev_if_eq mmSV (tgt := 43) d_113_34 rfl (fun _h34 => ?_) (fun _h34 => ?_)
        · refine ev_iconst d_113_43 ci_1 ?_
          refine ev_goto (tgt := 48) d_113_44 rfl ?_
          refine ev_istore (lv' := [(6, .int (1 : Int32)), (5, .int (sp_m_startupOf a1 σ)), (4, .int (sp_m_idOf a1 σ)), (0, .ref 42), (1, .int a0), (2, .long a1)]) d_113_48 (by decide) rfl ?_
          refine ev_aload_n d_113_50 rfl ?_
          refine ev_getf (v := .ref 44) d_113_51 fl_7_13 (ltk (by decide) hN) rfl rfl ?_
          refine ev_iload_n d_113_54 rfl ?_
          refine ev_iald (i := a0.toNatClampNeg) d_113_55 (ltk (by decide) hN) rfl (by first | assumption | (rcases n4 hn with rfl | rfl | rfl | rfl <;> exact vpi (by decide))) rfl ?_
          refine ev_iconst d_113_56 ci_1 ?_
          refine ev_icmp_ne mmSV (tgt := 89) d_113_57 rfl (fun _h57 => ?_) (fun _h57 => ?_)
          · refine ev_iload d_113_89 rfl ?_
            refine ev_ifT (tgt := 95) d_113_91 rfl (show ¬ (1 : Int32) = (0 : Int32) by decide) ?_
            refine ev_lload_n d_113_95 rfl ?_
            refine ev_csI (As := [.long a1]) (t := []) (e' := 0) d_113_96 ml_7_161 rfl rfl rfl rfl rfl (by decide) rfl rfl (ev_m_cycleOf hN a1 σ) ?_
            refine ev_aload_n d_113_99 rfl ?_
            refine ev_getf (v := .ref 50) d_113_100 fl_7_31 (ltk (by decide) hN) rfl rfl ?_
            refine ev_iload_n d_113_103 rfl ?_
            refine ev_iald (i := a0.toNatClampNeg) d_113_104 (ltk (by decide) hN) rfl (by first | assumption | (rcases n4 hn with rfl | rfl | rfl | rfl <;> exact vpi (by decide))) rfl ?_
            refine ev_icmp_ne mmSV (tgt := 112) d_113_105 rfl (fun _h105 => ?_) (fun _h105 => ?_)
            · refine ev_iconst d_113_112 ci_0 ?_
              refine ev_istore (lv' := [(7, .int (0 : Int32)), (6, .int (1 : Int32)), (5, .int (sp_m_startupOf a1 σ)), (4, .int (sp_m_idOf a1 σ)), (0, .ref 42), (1, .int a0), (2, .long a1)]) d_113_113 (by decide) rfl ?_
              refine ev_iload d_113_115 rfl ?_
              refine ev_iconst d_113_117 ci_4 ?_
              refine ev_icmp_le mmSV (tgt := 182) d_113_118 rfl (fun _h118 => ?_) (fun _h118 => ?_)
              · refine ev_aload_n d_113_182 rfl ?_
                refine ev_getf (v := .ref 49) d_113_183 fl_7_28 (ltk (by decide) hN) rfl rfl ?_
                refine ev_iload_n d_113_186 rfl ?_
                refine ev_iald (i := a0.toNatClampNeg) d_113_187 (ltk (by decide) hN) rfl (by first | assumption | (rcases n4 hn with rfl | rfl | rfl | rfl <;> exact vpi (by decide))) rfl ?_
                refine ev_bipush d_113_188 cb_10 ?_
                refine ev_iload d_113_190 rfl ?_
                refine ev_imul (v := ((10 : Int32) * (sp_m_idOf a1 σ))) d_113_192 rfl ?_
                refine ev_isub (v := ((σ.1 49 a0.toNatClampNeg) - ((10 : Int32) * (sp_m_idOf a1 σ)))) d_113_193 rfl ?_
                refine ev_bipush d_113_194 cb_6 ?_
                refine ev_iadd (v := (((σ.1 49 a0.toNatClampNeg) - ((10 : Int32) * (sp_m_idOf a1 σ))) + (6 : Int32))) d_113_196 rfl ?_
                refine ev_istore (lv' := [(8, .int (((σ.1 49 a0.toNatClampNeg) - ((10 : Int32) * (sp_m_idOf a1 σ))) + (6 : Int32))), (7, .int (0 : Int32)), (6, .int (1 : Int32)), (5, .int (sp_m_startupOf a1 σ)), (4, .int (sp_m_idOf a1 σ)), (0, .ref 42), (1, .int a0), (2, .long a1)]) d_113_197 (by decide) rfl ?_
                refine ev_iload d_113_199 rfl ?_
                refine ev_ifT (tgt := 265) d_113_201 rfl (show (0 : Int32) = (0 : Int32) by decide) ?_
                refine ev_aload_n d_113_265 rfl ?_
                refine ev_getf (v := .ref 44) d_113_266 fl_7_13 (ltk (by decide) hN) rfl rfl ?_
                refine ev_iload_n d_113_269 rfl ?_
                refine ev_iald (i := a0.toNatClampNeg) d_113_270 (ltk (by decide) hN) rfl (by first | assumption | (rcases n4 hn with rfl | rfl | rfl | rfl <;> exact vpi (by decide))) rfl ?_
                refine ev_iconst d_113_271 ci_2 ?_
                refine ev_icmp_ne mmSV (tgt := 285) d_113_272 rfl (fun _h272 => ?_) (fun _h272 => ?_)
                · exact ev_vret d_113_285 rfl
                · refine ev_iload d_113_275 rfl ?_
                  refine ev_if_eq mmSV (tgt := 285) d_113_277 rfl (fun _h277 => ?_) (fun _h277 => ?_)
                  · exact ev_vret d_113_285 rfl
                  · refine ev_aload_n d_113_280 rfl ?_
                    refine ev_iload_n d_113_281 rfl ?_
                    refine ev_cvV (As := [.int a0]) (t := []) (e' := 0) d_113_282 ml_7_128 rfl rfl rfl rfl rfl (by decide) rfl (ltk (by decide) hN) rfl rfl rfl (ev_m_listen hN a0 σ hn) ?_
                    exact ev_vret d_113_285 rfl
              · refine ev_iload d_113_121 rfl ?_
                refine ev_ifT (tgt := 181) d_113_123 rfl (show (0 : Int32) = (0 : Int32) by decide) ?_
                exact ev_vret d_113_181 rfl
            · refine ev_iconst d_113_108 ci_1 ?_
              refine ev_goto (tgt := 113) d_113_109 rfl ?_
              refine ev_istore (lv' := [(7, .int (1 : Int32)), (6, .int (1 : Int32)), (5, .int (sp_m_startupOf a1 σ)), (4, .int (sp_m_idOf a1 σ)), (0, .ref 42), (1, .int a0), (2, .long a1)]) d_113_113 (by decide) rfl ?_
              refine ev_iload d_113_115 rfl ?_
              refine ev_iconst d_113_117 ci_4 ?_
              refine ev_icmp_le mmSV (tgt := 182) d_113_118 rfl (fun _h118 => ?_) (fun _h118 => ?_)
              · refine ev_aload_n d_113_182 rfl ?_
                refine ev_getf (v := .ref 49) d_113_183 fl_7_28 (ltk (by decide) hN) rfl rfl ?_
                refine ev_iload_n d_113_186 rfl ?_
                refine ev_iald (i := a0.toNatClampNeg) d_113_187 (ltk (by decide) hN) rfl (by first | assumption | (rcases n4 hn with rfl | rfl | rfl | rfl <;> exact vpi (by decide))) rfl ?_
                refine ev_bipush d_113_188 cb_10 ?_
                refine ev_iload d_113_190 rfl ?_
                refine ev_imul (v := ((10 : Int32) * (sp_m_idOf a1 σ))) d_113_192 rfl ?_
                refine ev_isub (v := ((σ.1 49 a0.toNatClampNeg) - ((10 : Int32) * (sp_m_idOf a1 σ)))) d_113_193 rfl ?_
                refine ev_bipush d_113_194 cb_6 ?_
                refine ev_iadd (v := (((σ.1 49 a0.toNatClampNeg) - ((10 : Int32) * (sp_m_idOf a1 σ))) + (6 : Int32))) d_113_196 rfl ?_
                refine ev_istore (lv' := [(8, .int (((σ.1 49 a0.toNatClampNeg) - ((10 : Int32) * (sp_m_idOf a1 σ))) + (6 : Int32))), (7, .int (1 : Int32)), (6, .int (1 : Int32)), (5, .int (sp_m_startupOf a1 σ)), (4, .int (sp_m_idOf a1 σ)), (0, .ref 42), (1, .int a0), (2, .long a1)]) d_113_197 (by decide) rfl ?_
                refine ev_iload d_113_199 rfl ?_
                refine ev_ifF (tgt := 265) d_113_201 rfl (show ¬ ((1 : Int32) = (0 : Int32)) by decide) ?_
                refine ev_iload d_113_204 rfl ?_
                refine ev_bipush d_113_206 cb_m3 ?_
                refine ev_icmp_lt mmSV (tgt := 265) d_113_208 rfl (fun _h208 => ?_) (fun _h208 => ?_)
                · refine ev_aload_n d_113_265 rfl ?_
                  refine ev_getf (v := .ref 44) d_113_266 fl_7_13 (ltk (by decide) hN) rfl rfl ?_
                  refine ev_iload_n d_113_269 rfl ?_
                  refine ev_iald (i := a0.toNatClampNeg) d_113_270 (ltk (by decide) hN) rfl (by first | assumption | (rcases n4 hn with rfl | rfl | rfl | rfl <;> exact vpi (by decide))) rfl ?_
                  refine ev_iconst d_113_271 ci_2 ?_
                  refine ev_icmp_ne mmSV (tgt := 285) d_113_272 rfl (fun _h272 => ?_) (fun _h272 => ?_)
                  · exact ev_vret d_113_285 rfl
                  · refine ev_iload d_113_275 rfl ?_
                    refine ev_if_eq mmSV (tgt := 285) d_113_277 rfl (fun _h277 => ?_) (fun _h277 => ?_)
                    · exact ev_vret d_113_285 rfl
                    · refine ev_aload_n d_113_280 rfl ?_
                      refine ev_iload_n d_113_281 rfl ?_
                      refine ev_cvV (As := [.int a0]) (t := []) (e' := 0) d_113_282 ml_7_128 rfl rfl rfl rfl rfl (by decide) rfl (ltk (by decide) hN) rfl rfl rfl (ev_m_listen hN a0 σ hn) ?_
                      exact ev_vret d_113_285 rfl
                · refine ev_iload d_113_211 rfl ?_
                  refine ev_iconst d_113_213 ci_3 ?_
                  refine ev_icmp_gt mmSV (tgt := 265) d_113_214 rfl (fun _h214 => ?_) (fun _h214 => ?_)
                  · refine ev_aload_n d_113_265 rfl ?_
                    refine ev_getf (v := .ref 44) d_113_266 fl_7_13 (ltk (by decide) hN) rfl rfl ?_
                    refine ev_iload_n d_113_269 rfl ?_
                    refine ev_iald (i := a0.toNatClampNeg) d_113_270 (ltk (by decide) hN) rfl (by first | assumption | (rcases n4 hn with rfl | rfl | rfl | rfl <;> exact vpi (by decide))) rfl ?_
                    refine ev_iconst d_113_271 ci_2 ?_
                    refine ev_icmp_ne mmSV (tgt := 285) d_113_272 rfl (fun _h272 => ?_) (fun _h272 => ?_)
                    · exact ev_vret d_113_285 rfl
                    · refine ev_iload d_113_275 rfl ?_
                      refine ev_if_eq mmSV (tgt := 285) d_113_277 rfl (fun _h277 => ?_) (fun _h277 => ?_)
                      · exact ev_vret d_113_285 rfl
                      · refine ev_aload_n d_113_280 rfl ?_
                        refine ev_iload_n d_113_281 rfl ?_
                        refine ev_cvV (As := [.int a0]) (t := []) (e' := 0) d_113_282 ml_7_128 rfl rfl rfl rfl rfl (by decide) rfl (ltk (by decide) hN) rfl rfl rfl (ev_m_listen hN a0 σ hn) ?_
                        exact ev_vret d_113_285 rfl
                  · refine ev_aload_n d_113_217 rfl ?_
                    refine ev_getf (v := .ref 57) d_113_218 fl_7_53 (ltk (by decide) hN) rfl rfl ?_
                    refine ev_bipush d_113_221 cb_8 ?_
                    refine ev_iload_n d_113_223 rfl ?_
                    refine ev_imul (v := ((8 : Int32) * a0)) d_113_224 rfl ?_
                    refine ev_iconst d_113_225 ci_2 ?_
                    refine ev_iload d_113_226 rfl ?_
                    refine ev_iconst d_113_228 ci_1 ?_
                    refine ev_isub (v := ((sp_m_idOf a1 σ) - (1 : Int32))) d_113_229 rfl ?_
                    refine ev_imul (v := ((2 : Int32) * ((sp_m_idOf a1 σ) - (1 : Int32)))) d_113_230 rfl ?_
                    refine ev_iadd (v := (((8 : Int32) * a0) + ((2 : Int32) * ((sp_m_idOf a1 σ) - (1 : Int32))))) d_113_231 rfl ?_
                    refine ev_aload_n d_113_232 rfl ?_
                    refine ev_getf (v := .ref 50) d_113_233 fl_7_31 (ltk (by decide) hN) rfl rfl ?_
                    refine ev_iload_n d_113_236 rfl ?_
                    refine ev_iald (i := a0.toNatClampNeg) d_113_237 (ltk (by decide) hN) rfl (by first | assumption | (rcases n4 hn with rfl | rfl | rfl | rfl <;> exact vpi (by decide))) rfl ?_
                    refine ev_iconst d_113_238 ci_2 ?_
                    refine ev_irem (v := ((σ.1 50 a0.toNatClampNeg) - (σ.1 50 a0.toNatClampNeg) / (2 : Int32) * (2 : Int32))) d_113_239 (by decide) rfl ?_
                    refine ev_iadd (v := ((((8 : Int32) * a0) + ((2 : Int32) * ((sp_m_idOf a1 σ) - (1 : Int32)))) + ((σ.1 50 a0.toNatClampNeg) - (σ.1 50 a0.toNatClampNeg) / (2 : Int32) * (2 : Int32)))) d_113_240 rfl ?_
                    refine ev_iload d_113_241 rfl ?_
                    refine ev_iastore (i := ((((8 : Int32) * a0) + ((2 : Int32) * ((sp_m_idOf a1 σ) - (1 : Int32)))) + ((σ.1 50 a0.toNatClampNeg) - (σ.1 50 a0.toNatClampNeg) / (2 : Int32) * (2 : Int32))).toNatClampNeg) d_113_243 (ltk (by decide) hN) rfl (dvx hn (by assumption) (by assumption) (jm_cs hJ hn)) rfl ?_
                    refine ev_aload_n d_113_244 rfl ?_
                    refine ev_getf (v := .ref 58) d_113_245 fl_7_56 (ltk (by decide) hN) rfl rfl ?_
                    refine ev_bipush d_113_248 cb_10 ?_
                    refine ev_iload_n d_113_250 rfl ?_
                    refine ev_imul (v := ((10 : Int32) * a0)) d_113_251 rfl ?_
                    refine ev_iload d_113_252 rfl ?_
                    refine ev_iadd (v := (((10 : Int32) * a0) + (sp_m_idOf a1 σ))) d_113_254 rfl ?_
                    refine ev_iconst d_113_255 ci_1 ?_
                    refine ev_lload_n d_113_256 rfl ?_
                    refine ev_csI (As := [.long a1]) (t := [.int (1 : Int32), .int (((10 : Int32) * a0) + (sp_m_idOf a1 σ)), .ref 58]) (e' := 0) d_113_257 ml_7_168 rfl rfl rfl rfl rfl (by decide) rfl rfl (ev_m_valueOf hN a1 (mmI σ 57 ((((8 : Int32) * a0) + ((2 : Int32) * ((sp_m_idOf a1 σ) - (1 : Int32)))) + ((σ.1 50 a0.toNatClampNeg) - (σ.1 50 a0.toNatClampNeg) / (2 : Int32) * (2 : Int32))).toNatClampNeg (((σ.1 49 a0.toNatClampNeg) - ((10 : Int32) * (sp_m_idOf a1 σ))) + (6 : Int32)))) ?_
                    refine ev_iadd (v := ((1 : Int32) + (sp_m_valueOf a1 (mmI σ 57 ((((8 : Int32) * a0) + ((2 : Int32) * ((sp_m_idOf a1 σ) - (1 : Int32)))) + ((σ.1 50 a0.toNatClampNeg) - (σ.1 50 a0.toNatClampNeg) / (2 : Int32) * (2 : Int32))).toNatClampNeg (((σ.1 49 a0.toNatClampNeg) - ((10 : Int32) * (sp_m_idOf a1 σ))) + (6 : Int32)))))) d_113_260 rfl ?_
                    refine ev_iastore (i := (((10 : Int32) * a0) + (sp_m_idOf a1 σ)).toNatClampNeg) d_113_261 (ltk (by decide) hN) rfl (vx10 hn (by assumption) (by assumption)) rfl ?_
                    refine ev_goto (tgt := 285) d_113_262 rfl ?_
                    exact ev_vret d_113_285 rfl
              · refine ev_iload d_113_121 rfl ?_
                refine ev_ifF (tgt := 181) d_113_123 rfl (show ¬ ((1 : Int32) = (0 : Int32)) by decide) ?_
                refine ev_aload_n d_113_126 rfl ?_
                refine ev_getf (v := .ref 49) d_113_127 fl_7_28 (ltk (by decide) hN) rfl rfl ?_
                refine ev_iload_n d_113_130 rfl ?_
                refine ev_iald (i := a0.toNatClampNeg) d_113_131 (ltk (by decide) hN) rfl (by first | assumption | (rcases n4 hn with rfl | rfl | rfl | rfl <;> exact vpi (by decide))) rfl ?_
                refine ev_bipush d_113_132 cb_40 ?_
                refine ev_icmp_lt mmSV (tgt := 181) d_113_134 rfl (fun _h134 => ?_) (fun _h134 => ?_)
                · exact ev_vret d_113_181 rfl
                · refine ev_aload_n d_113_137 rfl ?_
                  refine ev_getf (v := .ref 49) d_113_138 fl_7_28 (ltk (by decide) hN) rfl rfl ?_
                  refine ev_iload_n d_113_141 rfl ?_
                  refine ev_iald (i := a0.toNatClampNeg) d_113_142 (ltk (by decide) hN) rfl (by first | assumption | (rcases n4 hn with rfl | rfl | rfl | rfl <;> exact vpi (by decide))) rfl ?_
                  refine ev_bipush d_113_143 cb_60 ?_
                  refine ev_icmp_ge mmSV (tgt := 181) d_113_145 rfl (fun _h145 => ?_) (fun _h145 => ?_)
                  · exact ev_vret d_113_181 rfl
                  · refine ev_aload_n d_113_148 rfl ?_
                    refine ev_getf (v := .ref 58) d_113_149 fl_7_56 (ltk (by decide) hN) rfl rfl ?_
                    refine ev_bipush d_113_152 cb_10 ?_
                    refine ev_iload_n d_113_154 rfl ?_
                    refine ev_imul (v := ((10 : Int32) * a0)) d_113_155 rfl ?_
                    refine ev_iload d_113_156 rfl ?_
                    refine ev_iadd (v := (((10 : Int32) * a0) + (sp_m_idOf a1 σ))) d_113_158 rfl ?_
                    refine ev_iconst d_113_159 ci_1 ?_
                    refine ev_lload_n d_113_160 rfl ?_
                    refine ev_csI (As := [.long a1]) (t := [.int (1 : Int32), .int (((10 : Int32) * a0) + (sp_m_idOf a1 σ)), .ref 58]) (e' := 0) d_113_161 ml_7_168 rfl rfl rfl rfl rfl (by decide) rfl rfl (ev_m_valueOf hN a1 σ) ?_
                    refine ev_iadd (v := ((1 : Int32) + (sp_m_valueOf a1 σ))) d_113_164 rfl ?_
                    refine ev_iastore (i := (((10 : Int32) * a0) + (sp_m_idOf a1 σ)).toNatClampNeg) d_113_165 (ltk (by decide) hN) rfl (vx10 hn (by assumption) (by assumption)) rfl ?_
                    refine ev_aload_n d_113_166 rfl ?_
                    refine ev_getf (v := .ref 55) d_113_167 fl_7_46 (ltk (by decide) hN) rfl rfl ?_
                    refine ev_iload_n d_113_170 rfl ?_
                    refine ev_iload d_113_171 rfl ?_
                    refine ev_iastore (i := a0.toNatClampNeg) d_113_173 (ltk (by decide) hN) rfl (by first | assumption | (rcases n4 hn with rfl | rfl | rfl | rfl <;> exact vpi (by decide))) rfl ?_
                    refine ev_aload_n d_113_174 rfl ?_
                    refine ev_getf (v := .ref 56) d_113_175 fl_7_49 (ltk (by decide) hN) rfl rfl ?_
                    refine ev_iload_n d_113_178 rfl ?_
                    refine ev_iconst d_113_179 ci_1 ?_
                    refine ev_bastore (i := a0.toNatClampNeg) (u := (1 : Int32)) d_113_180 (ltk (by decide) hN) rfl (by first | assumption | (rcases n4 hn with rfl | rfl | rfl | rfl <;> exact vpi (by decide))) rfl (by decide) ?_
                    exact ev_vret d_113_181 rfl
          · refine ev_aload_n d_113_60 rfl ?_
            refine ev_getf (v := .ref 46) d_113_61 fl_7_19 (ltk (by decide) hN) rfl rfl ?_
            refine ev_iload_n d_113_64 rfl ?_
            refine ev_iconst d_113_65 ci_0 ?_
            refine ev_iastore (i := a0.toNatClampNeg) d_113_66 (ltk (by decide) hN) rfl (by first | assumption | (rcases n4 hn with rfl | rfl | rfl | rfl <;> exact vpi (by decide))) rfl ?_
            refine ev_iload d_113_67 rfl ?_
            refine ev_ifF (tgt := 88) d_113_69 rfl (show ¬ ((1 : Int32) = (0 : Int32)) by decide) ?_
            refine ev_iload d_113_72 rfl ?_
            refine ev_if_eq mmSV (tgt := 88) d_113_74 rfl (fun _h74 => ?_) (fun _h74 => ?_)
            · exact ev_vret d_113_88 rfl
            · refine ev_aload_n d_113_77 rfl ?_
              refine ev_iload_n d_113_78 rfl ?_
              refine ev_iload d_113_79 rfl ?_
              refine ev_lload_n d_113_81 rfl ?_
              refine ev_csI (As := [.long a1]) (t := [.int (sp_m_idOf a1 σ), .int a0, .ref 42]) (e' := 0) d_113_82 ml_7_161 rfl rfl rfl rfl rfl (by decide) rfl rfl (ev_m_cycleOf hN a1 (mmI σ 46 a0.toNatClampNeg (0 : Int32))) ?_
              refine ev_cvV (As := [.int a0, .int (sp_m_idOf a1 σ), .int (sp_m_cycleOf a1 (mmI σ 46 a0.toNatClampNeg (0 : Int32)))]) (t := []) (e' := 0) d_113_85 ml_7_164 rfl rfl rfl rfl rfl (by decide) rfl (ltk (by decide) hN) rfl rfl rfl (ev_m_notice hN a0 (sp_m_idOf a1 σ) (sp_m_cycleOf a1 (mmI σ 46 a0.toNatClampNeg (0 : Int32))) (mmI σ 46 a0.toNatClampNeg (0 : Int32)) hn) ?_
              exact ev_vret d_113_88 rfl
        · refine ev_iload d_113_37 rfl ?_
          refine ev_iconst d_113_39 ci_2 ?_
          refine ev_icmp_gt mmSV (tgt := 47) d_113_40 rfl (fun _h40 => ?_) (fun _h40 => ?_)
          · refine ev_iconst d_113_47 ci_0 ?_
            refine ev_istore (lv' := [(6, .int (0 : Int32)), (5, .int (sp_m_startupOf a1 σ)), (4, .int (sp_m_idOf a1 σ)), (0, .ref 42), (1, .int a0), (2, .long a1)]) d_113_48 (by decide) rfl ?_
            refine ev_aload_n d_113_50 rfl ?_
            refine ev_getf (v := .ref 44) d_113_51 fl_7_13 (ltk (by decide) hN) rfl rfl ?_
            refine ev_iload_n d_113_54 rfl ?_
            refine ev_iald (i := a0.toNatClampNeg) d_113_55 (ltk (by decide) hN) rfl (by first | assumption | (rcases n4 hn with rfl | rfl | rfl | rfl <;> exact vpi (by decide))) rfl ?_
            refine ev_iconst d_113_56 ci_1 ?_
            refine ev_icmp_ne mmSV (tgt := 89) d_113_57 rfl (fun _h57 => ?_) (fun _h57 => ?_)
            · refine ev_iload d_113_89 rfl ?_
              refine ev_ifF (tgt := 95) d_113_91 rfl (show ¬ (¬ (0 : Int32) = (0 : Int32)) by decide) ?_
              exact ev_vret d_113_94 rfl
            · refine ev_aload_n d_113_60 rfl ?_
              refine ev_getf (v := .ref 46) d_113_61 fl_7_19 (ltk (by decide) hN) rfl rfl ?_
              refine ev_iload_n d_113_64 rfl ?_
              refine ev_iconst d_113_65 ci_0 ?_
              refine ev_iastore (i := a0.toNatClampNeg) d_113_66 (ltk (by decide) hN) rfl (by first | assumption | (rcases n4 hn with rfl | rfl | rfl | rfl <;> exact vpi (by decide))) rfl ?_
              refine ev_iload d_113_67 rfl ?_
              refine ev_ifT (tgt := 88) d_113_69 rfl (show (0 : Int32) = (0 : Int32) by decide) ?_
              exact ev_vret d_113_88 rfl
          · refine ev_iconst d_113_43 ci_1 ?_
            refine ev_goto (tgt := 48) d_113_44 rfl ?_
            refine ev_istore (lv' := [(6, .int (1 : Int32)), (5, .int (sp_m_startupOf a1 σ)), (4, .int (sp_m_idOf a1 σ)), (0, .ref 42), (1, .int a0), (2, .long a1)]) d_113_48 (by decide) rfl ?_
            refine ev_aload_n d_113_50 rfl ?_
            refine ev_getf (v := .ref 44) d_113_51 fl_7_13 (ltk (by decide) hN) rfl rfl ?_
            refine ev_iload_n d_113_54 rfl ?_
            refine ev_iald (i := a0.toNatClampNeg) d_113_55 (ltk (by decide) hN) rfl (by first | assumption | (rcases n4 hn with rfl | rfl | rfl | rfl <;> exact vpi (by decide))) rfl ?_
            refine ev_iconst d_113_56 ci_1 ?_
            refine ev_icmp_ne mmSV (tgt := 89) d_113_57 rfl (fun _h57 => ?_) (fun _h57 => ?_)
            · refine ev_iload d_113_89 rfl ?_
              refine ev_ifT (tgt := 95) d_113_91 rfl (show ¬ (1 : Int32) = (0 : Int32) by decide) ?_
              refine ev_lload_n d_113_95 rfl ?_
              refine ev_csI (As := [.long a1]) (t := []) (e' := 0) d_113_96 ml_7_161 rfl rfl rfl rfl rfl (by decide) rfl rfl (ev_m_cycleOf hN a1 σ) ?_
              refine ev_aload_n d_113_99 rfl ?_
              refine ev_getf (v := .ref 50) d_113_100 fl_7_31 (ltk (by decide) hN) rfl rfl ?_
              refine ev_iload_n d_113_103 rfl ?_
              refine ev_iald (i := a0.toNatClampNeg) d_113_104 (ltk (by decide) hN) rfl (by first | assumption | (rcases n4 hn with rfl | rfl | rfl | rfl <;> exact vpi (by decide))) rfl ?_
              refine ev_icmp_ne mmSV (tgt := 112) d_113_105 rfl (fun _h105 => ?_) (fun _h105 => ?_)
              · refine ev_iconst d_113_112 ci_0 ?_
                refine ev_istore (lv' := [(7, .int (0 : Int32)), (6, .int (1 : Int32)), (5, .int (sp_m_startupOf a1 σ)), (4, .int (sp_m_idOf a1 σ)), (0, .ref 42), (1, .int a0), (2, .long a1)]) d_113_113 (by decide) rfl ?_
                refine ev_iload d_113_115 rfl ?_
                refine ev_iconst d_113_117 ci_4 ?_
                refine ev_icmp_le mmSV (tgt := 182) d_113_118 rfl (fun _h118 => ?_) (fun _h118 => ?_)
                · refine ev_aload_n d_113_182 rfl ?_
                  refine ev_getf (v := .ref 49) d_113_183 fl_7_28 (ltk (by decide) hN) rfl rfl ?_
                  refine ev_iload_n d_113_186 rfl ?_
                  refine ev_iald (i := a0.toNatClampNeg) d_113_187 (ltk (by decide) hN) rfl (by first | assumption | (rcases n4 hn with rfl | rfl | rfl | rfl <;> exact vpi (by decide))) rfl ?_
                  refine ev_bipush d_113_188 cb_10 ?_
                  refine ev_iload d_113_190 rfl ?_
                  refine ev_imul (v := ((10 : Int32) * (sp_m_idOf a1 σ))) d_113_192 rfl ?_
                  refine ev_isub (v := ((σ.1 49 a0.toNatClampNeg) - ((10 : Int32) * (sp_m_idOf a1 σ)))) d_113_193 rfl ?_
                  refine ev_bipush d_113_194 cb_6 ?_
                  refine ev_iadd (v := (((σ.1 49 a0.toNatClampNeg) - ((10 : Int32) * (sp_m_idOf a1 σ))) + (6 : Int32))) d_113_196 rfl ?_
                  refine ev_istore (lv' := [(8, .int (((σ.1 49 a0.toNatClampNeg) - ((10 : Int32) * (sp_m_idOf a1 σ))) + (6 : Int32))), (7, .int (0 : Int32)), (6, .int (1 : Int32)), (5, .int (sp_m_startupOf a1 σ)), (4, .int (sp_m_idOf a1 σ)), (0, .ref 42), (1, .int a0), (2, .long a1)]) d_113_197 (by decide) rfl ?_
                  refine ev_iload d_113_199 rfl ?_
                  refine ev_ifT (tgt := 265) d_113_201 rfl (show (0 : Int32) = (0 : Int32) by decide) ?_
                  refine ev_aload_n d_113_265 rfl ?_
                  refine ev_getf (v := .ref 44) d_113_266 fl_7_13 (ltk (by decide) hN) rfl rfl ?_
                  refine ev_iload_n d_113_269 rfl ?_
                  refine ev_iald (i := a0.toNatClampNeg) d_113_270 (ltk (by decide) hN) rfl (by first | assumption | (rcases n4 hn with rfl | rfl | rfl | rfl <;> exact vpi (by decide))) rfl ?_
                  refine ev_iconst d_113_271 ci_2 ?_
                  refine ev_icmp_ne mmSV (tgt := 285) d_113_272 rfl (fun _h272 => ?_) (fun _h272 => ?_)
                  · exact ev_vret d_113_285 rfl
                  · refine ev_iload d_113_275 rfl ?_
                    refine ev_if_eq mmSV (tgt := 285) d_113_277 rfl (fun _h277 => ?_) (fun _h277 => ?_)
                    · exact ev_vret d_113_285 rfl
                    · refine ev_aload_n d_113_280 rfl ?_
                      refine ev_iload_n d_113_281 rfl ?_
                      refine ev_cvV (As := [.int a0]) (t := []) (e' := 0) d_113_282 ml_7_128 rfl rfl rfl rfl rfl (by decide) rfl (ltk (by decide) hN) rfl rfl rfl (ev_m_listen hN a0 σ hn) ?_
                      exact ev_vret d_113_285 rfl
                · refine ev_iload d_113_121 rfl ?_
                  refine ev_ifT (tgt := 181) d_113_123 rfl (show (0 : Int32) = (0 : Int32) by decide) ?_
                  exact ev_vret d_113_181 rfl
              · refine ev_iconst d_113_108 ci_1 ?_
                refine ev_goto (tgt := 113) d_113_109 rfl ?_
                refine ev_istore (lv' := [(7, .int (1 : Int32)), (6, .int (1 : Int32)), (5, .int (sp_m_startupOf a1 σ)), (4, .int (sp_m_idOf a1 σ)), (0, .ref 42), (1, .int a0), (2, .long a1)]) d_113_113 (by decide) rfl ?_
                refine ev_iload d_113_115 rfl ?_
                refine ev_iconst d_113_117 ci_4 ?_
                refine ev_icmp_le mmSV (tgt := 182) d_113_118 rfl (fun _h118 => ?_) (fun _h118 => ?_)
                · refine ev_aload_n d_113_182 rfl ?_
                  refine ev_getf (v := .ref 49) d_113_183 fl_7_28 (ltk (by decide) hN) rfl rfl ?_
                  refine ev_iload_n d_113_186 rfl ?_
                  refine ev_iald (i := a0.toNatClampNeg) d_113_187 (ltk (by decide) hN) rfl (by first | assumption | (rcases n4 hn with rfl | rfl | rfl | rfl <;> exact vpi (by decide))) rfl ?_
                  refine ev_bipush d_113_188 cb_10 ?_
                  refine ev_iload d_113_190 rfl ?_
                  refine ev_imul (v := ((10 : Int32) * (sp_m_idOf a1 σ))) d_113_192 rfl ?_
                  refine ev_isub (v := ((σ.1 49 a0.toNatClampNeg) - ((10 : Int32) * (sp_m_idOf a1 σ)))) d_113_193 rfl ?_
                  refine ev_bipush d_113_194 cb_6 ?_
                  refine ev_iadd (v := (((σ.1 49 a0.toNatClampNeg) - ((10 : Int32) * (sp_m_idOf a1 σ))) + (6 : Int32))) d_113_196 rfl ?_
                  refine ev_istore (lv' := [(8, .int (((σ.1 49 a0.toNatClampNeg) - ((10 : Int32) * (sp_m_idOf a1 σ))) + (6 : Int32))), (7, .int (1 : Int32)), (6, .int (1 : Int32)), (5, .int (sp_m_startupOf a1 σ)), (4, .int (sp_m_idOf a1 σ)), (0, .ref 42), (1, .int a0), (2, .long a1)]) d_113_197 (by decide) rfl ?_
                  refine ev_iload d_113_199 rfl ?_
                  refine ev_ifF (tgt := 265) d_113_201 rfl (show ¬ ((1 : Int32) = (0 : Int32)) by decide) ?_
                  refine ev_iload d_113_204 rfl ?_
                  refine ev_bipush d_113_206 cb_m3 ?_
                  refine ev_icmp_lt mmSV (tgt := 265) d_113_208 rfl (fun _h208 => ?_) (fun _h208 => ?_)
                  · refine ev_aload_n d_113_265 rfl ?_
                    refine ev_getf (v := .ref 44) d_113_266 fl_7_13 (ltk (by decide) hN) rfl rfl ?_
                    refine ev_iload_n d_113_269 rfl ?_
                    refine ev_iald (i := a0.toNatClampNeg) d_113_270 (ltk (by decide) hN) rfl (by first | assumption | (rcases n4 hn with rfl | rfl | rfl | rfl <;> exact vpi (by decide))) rfl ?_
                    refine ev_iconst d_113_271 ci_2 ?_
                    refine ev_icmp_ne mmSV (tgt := 285) d_113_272 rfl (fun _h272 => ?_) (fun _h272 => ?_)
                    · exact ev_vret d_113_285 rfl
                    · refine ev_iload d_113_275 rfl ?_
                      refine ev_if_eq mmSV (tgt := 285) d_113_277 rfl (fun _h277 => ?_) (fun _h277 => ?_)
                      · exact ev_vret d_113_285 rfl
                      · refine ev_aload_n d_113_280 rfl ?_
                        refine ev_iload_n d_113_281 rfl ?_
                        refine ev_cvV (As := [.int a0]) (t := []) (e' := 0) d_113_282 ml_7_128 rfl rfl rfl rfl rfl (by decide) rfl (ltk (by decide) hN) rfl rfl rfl (ev_m_listen hN a0 σ hn) ?_
                        exact ev_vret d_113_285 rfl
                  · refine ev_iload d_113_211 rfl ?_
                    refine ev_iconst d_113_213 ci_3 ?_
                    refine ev_icmp_gt mmSV (tgt := 265) d_113_214 rfl (fun _h214 => ?_) (fun _h214 => ?_)
                    · refine ev_aload_n d_113_265 rfl ?_
                      refine ev_getf (v := .ref 44) d_113_266 fl_7_13 (ltk (by decide) hN) rfl rfl ?_
                      refine ev_iload_n d_113_269 rfl ?_
                      refine ev_iald (i := a0.toNatClampNeg) d_113_270 (ltk (by decide) hN) rfl (by first | assumption | (rcases n4 hn with rfl | rfl | rfl | rfl <;> exact vpi (by decide))) rfl ?_
                      refine ev_iconst d_113_271 ci_2 ?_
                      refine ev_icmp_ne mmSV (tgt := 285) d_113_272 rfl (fun _h272 => ?_) (fun _h272 => ?_)
                      · exact ev_vret d_113_285 rfl
                      · refine ev_iload d_113_275 rfl ?_
                        refine ev_if_eq mmSV (tgt := 285) d_113_277 rfl (fun _h277 => ?_) (fun _h277 => ?_)
                        · exact ev_vret d_113_285 rfl
                        · refine ev_aload_n d_113_280 rfl ?_
                          refine ev_iload_n d_113_281 rfl ?_
                          refine ev_cvV (As := [.int a0]) (t := []) (e' := 0) d_113_282 ml_7_128 rfl rfl rfl rfl rfl (by decide) rfl (ltk (by decide) hN) rfl rfl rfl (ev_m_listen hN a0 σ hn) ?_
                          exact ev_vret d_113_285 rfl
                    · refine ev_aload_n d_113_217 rfl ?_
                      refine ev_getf (v := .ref 57) d_113_218 fl_7_53 (ltk (by decide) hN) rfl rfl ?_
                      refine ev_bipush d_113_221 cb_8 ?_
                      refine ev_iload_n d_113_223 rfl ?_
                      refine ev_imul (v := ((8 : Int32) * a0)) d_113_224 rfl ?_
                      refine ev_iconst d_113_225 ci_2 ?_
                      refine ev_iload d_113_226 rfl ?_
                      refine ev_iconst d_113_228 ci_1 ?_
                      refine ev_isub (v := ((sp_m_idOf a1 σ) - (1 : Int32))) d_113_229 rfl ?_
                      refine ev_imul (v := ((2 : Int32) * ((sp_m_idOf a1 σ) - (1 : Int32)))) d_113_230 rfl ?_
                      refine ev_iadd (v := (((8 : Int32) * a0) + ((2 : Int32) * ((sp_m_idOf a1 σ) - (1 : Int32))))) d_113_231 rfl ?_
                      refine ev_aload_n d_113_232 rfl ?_
                      refine ev_getf (v := .ref 50) d_113_233 fl_7_31 (ltk (by decide) hN) rfl rfl ?_
                      refine ev_iload_n d_113_236 rfl ?_
                      refine ev_iald (i := a0.toNatClampNeg) d_113_237 (ltk (by decide) hN) rfl (by first | assumption | (rcases n4 hn with rfl | rfl | rfl | rfl <;> exact vpi (by decide))) rfl ?_
                      refine ev_iconst d_113_238 ci_2 ?_
                      refine ev_irem (v := ((σ.1 50 a0.toNatClampNeg) - (σ.1 50 a0.toNatClampNeg) / (2 : Int32) * (2 : Int32))) d_113_239 (by decide) rfl ?_
                      refine ev_iadd (v := ((((8 : Int32) * a0) + ((2 : Int32) * ((sp_m_idOf a1 σ) - (1 : Int32)))) + ((σ.1 50 a0.toNatClampNeg) - (σ.1 50 a0.toNatClampNeg) / (2 : Int32) * (2 : Int32)))) d_113_240 rfl ?_
                      refine ev_iload d_113_241 rfl ?_
                      refine ev_iastore (i := ((((8 : Int32) * a0) + ((2 : Int32) * ((sp_m_idOf a1 σ) - (1 : Int32)))) + ((σ.1 50 a0.toNatClampNeg) - (σ.1 50 a0.toNatClampNeg) / (2 : Int32) * (2 : Int32))).toNatClampNeg) d_113_243 (ltk (by decide) hN) rfl (dvx hn (by assumption) (by assumption) (jm_cs hJ hn)) rfl ?_
                      refine ev_aload_n d_113_244 rfl ?_
                      refine ev_getf (v := .ref 58) d_113_245 fl_7_56 (ltk (by decide) hN) rfl rfl ?_
                      refine ev_bipush d_113_248 cb_10 ?_
                      refine ev_iload_n d_113_250 rfl ?_
                      refine ev_imul (v := ((10 : Int32) * a0)) d_113_251 rfl ?_
                      refine ev_iload d_113_252 rfl ?_
                      refine ev_iadd (v := (((10 : Int32) * a0) + (sp_m_idOf a1 σ))) d_113_254 rfl ?_
                      refine ev_iconst d_113_255 ci_1 ?_
                      refine ev_lload_n d_113_256 rfl ?_
                      refine ev_csI (As := [.long a1]) (t := [.int (1 : Int32), .int (((10 : Int32) * a0) + (sp_m_idOf a1 σ)), .ref 58]) (e' := 0) d_113_257 ml_7_168 rfl rfl rfl rfl rfl (by decide) rfl rfl (ev_m_valueOf hN a1 (mmI σ 57 ((((8 : Int32) * a0) + ((2 : Int32) * ((sp_m_idOf a1 σ) - (1 : Int32)))) + ((σ.1 50 a0.toNatClampNeg) - (σ.1 50 a0.toNatClampNeg) / (2 : Int32) * (2 : Int32))).toNatClampNeg (((σ.1 49 a0.toNatClampNeg) - ((10 : Int32) * (sp_m_idOf a1 σ))) + (6 : Int32)))) ?_
                      refine ev_iadd (v := ((1 : Int32) + (sp_m_valueOf a1 (mmI σ 57 ((((8 : Int32) * a0) + ((2 : Int32) * ((sp_m_idOf a1 σ) - (1 : Int32)))) + ((σ.1 50 a0.toNatClampNeg) - (σ.1 50 a0.toNatClampNeg) / (2 : Int32) * (2 : Int32))).toNatClampNeg (((σ.1 49 a0.toNatClampNeg) - ((10 : Int32) * (sp_m_idOf a1 σ))) + (6 : Int32)))))) d_113_260 rfl ?_
                      refine ev_iastore (i := (((10 : Int32) * a0) + (sp_m_idOf a1 σ)).toNatClampNeg) d_113_261 (ltk (by decide) hN) rfl (vx10 hn (by assumption) (by assumption)) rfl ?_
                      refine ev_goto (tgt := 285) d_113_262 rfl ?_
                      exact ev_vret d_113_285 rfl
                · refine ev_iload d_113_121 rfl ?_
                  refine ev_ifF (tgt := 181) d_113_123 rfl (show ¬ ((1 : Int32) = (0 : Int32)) by decide) ?_
                  refine ev_aload_n d_113_126 rfl ?_
                  refine ev_getf (v := .ref 49) d_113_127 fl_7_28 (ltk (by decide) hN) rfl rfl ?_
                  refine ev_iload_n d_113_130 rfl ?_
                  refine ev_iald (i := a0.toNatClampNeg) d_113_131 (ltk (by decide) hN) rfl (by first | assumption | (rcases n4 hn with rfl | rfl | rfl | rfl <;> exact vpi (by decide))) rfl ?_
                  refine ev_bipush d_113_132 cb_40 ?_
                  refine ev_icmp_lt mmSV (tgt := 181) d_113_134 rfl (fun _h134 => ?_) (fun _h134 => ?_)
                  · exact ev_vret d_113_181 rfl
                  · refine ev_aload_n d_113_137 rfl ?_
                    refine ev_getf (v := .ref 49) d_113_138 fl_7_28 (ltk (by decide) hN) rfl rfl ?_
                    refine ev_iload_n d_113_141 rfl ?_
                    refine ev_iald (i := a0.toNatClampNeg) d_113_142 (ltk (by decide) hN) rfl (by first | assumption | (rcases n4 hn with rfl | rfl | rfl | rfl <;> exact vpi (by decide))) rfl ?_
                    refine ev_bipush d_113_143 cb_60 ?_
                    refine ev_icmp_ge mmSV (tgt := 181) d_113_145 rfl (fun _h145 => ?_) (fun _h145 => ?_)
                    · exact ev_vret d_113_181 rfl
                    · refine ev_aload_n d_113_148 rfl ?_
                      refine ev_getf (v := .ref 58) d_113_149 fl_7_56 (ltk (by decide) hN) rfl rfl ?_
                      refine ev_bipush d_113_152 cb_10 ?_
                      refine ev_iload_n d_113_154 rfl ?_
                      refine ev_imul (v := ((10 : Int32) * a0)) d_113_155 rfl ?_
                      refine ev_iload d_113_156 rfl ?_
                      refine ev_iadd (v := (((10 : Int32) * a0) + (sp_m_idOf a1 σ))) d_113_158 rfl ?_
                      refine ev_iconst d_113_159 ci_1 ?_
                      refine ev_lload_n d_113_160 rfl ?_
                      refine ev_csI (As := [.long a1]) (t := [.int (1 : Int32), .int (((10 : Int32) * a0) + (sp_m_idOf a1 σ)), .ref 58]) (e' := 0) d_113_161 ml_7_168 rfl rfl rfl rfl rfl (by decide) rfl rfl (ev_m_valueOf hN a1 σ) ?_
                      refine ev_iadd (v := ((1 : Int32) + (sp_m_valueOf a1 σ))) d_113_164 rfl ?_
                      refine ev_iastore (i := (((10 : Int32) * a0) + (sp_m_idOf a1 σ)).toNatClampNeg) d_113_165 (ltk (by decide) hN) rfl (vx10 hn (by assumption) (by assumption)) rfl ?_
                      refine ev_aload_n d_113_166 rfl ?_
                      refine ev_getf (v := .ref 55) d_113_167 fl_7_46 (ltk (by decide) hN) rfl rfl ?_
                      refine ev_iload_n d_113_170 rfl ?_
                      refine ev_iload d_113_171 rfl ?_
                      refine ev_iastore (i := a0.toNatClampNeg) d_113_173 (ltk (by decide) hN) rfl (by first | assumption | (rcases n4 hn with rfl | rfl | rfl | rfl <;> exact vpi (by decide))) rfl ?_
                      refine ev_aload_n d_113_174 rfl ?_
                      refine ev_getf (v := .ref 56) d_113_175 fl_7_49 (ltk (by decide) hN) rfl rfl ?_
                      refine ev_iload_n d_113_178 rfl ?_
                      refine ev_iconst d_113_179 ci_1 ?_
                      refine ev_bastore (i := a0.toNatClampNeg) (u := (1 : Int32)) d_113_180 (ltk (by decide) hN) rfl (by first | assumption | (rcases n4 hn with rfl | rfl | rfl | rfl <;> exact vpi (by decide))) rfl (by decide) ?_
                      exact ev_vret d_113_181 rfl
            · refine ev_aload_n d_113_60 rfl ?_
              refine ev_getf (v := .ref 46) d_113_61 fl_7_19 (ltk (by decide) hN) rfl rfl ?_
              refine ev_iload_n d_113_64 rfl ?_
              refine ev_iconst d_113_65 ci_0 ?_
              refine ev_iastore (i := a0.toNatClampNeg) d_113_66 (ltk (by decide) hN) rfl (by first | assumption | (rcases n4 hn with rfl | rfl | rfl | rfl <;> exact vpi (by decide))) rfl ?_
              refine ev_iload d_113_67 rfl ?_
              refine ev_ifF (tgt := 88) d_113_69 rfl (show ¬ ((1 : Int32) = (0 : Int32)) by decide) ?_
              refine ev_iload d_113_72 rfl ?_
              refine ev_if_eq mmSV (tgt := 88) d_113_74 rfl (fun _h74 => ?_) (fun _h74 => ?_)
              · exact ev_vret d_113_88 rfl
              · refine ev_aload_n d_113_77 rfl ?_
                refine ev_iload_n d_113_78 rfl ?_
                refine ev_iload d_113_79 rfl ?_
                refine ev_lload_n d_113_81 rfl ?_
                refine ev_csI (As := [.long a1]) (t := [.int (sp_m_idOf a1 σ), .int a0, .ref 42]) (e' := 0) d_113_82 ml_7_161 rfl rfl rfl rfl rfl (by decide) rfl rfl (ev_m_cycleOf hN a1 (mmI σ 46 a0.toNatClampNeg (0 : Int32))) ?_
                refine ev_cvV (As := [.int a0, .int (sp_m_idOf a1 σ), .int (sp_m_cycleOf a1 (mmI σ 46 a0.toNatClampNeg (0 : Int32)))]) (t := []) (e' := 0) d_113_85 ml_7_164 rfl rfl rfl rfl rfl (by decide) rfl (ltk (by decide) hN) rfl rfl rfl (ev_m_notice hN a0 (sp_m_idOf a1 σ) (sp_m_cycleOf a1 (mmI σ 46 a0.toNatClampNeg (0 : Int32))) (mmI σ 46 a0.toNatClampNeg (0 : Int32)) hn) ?_
                exact ev_vret d_113_88 rfl
theorem jm_ite {c : Prop} [Decidable c] {x y : mmS} (h1 : Jm x) (h2 : Jm y) : Jm (if c then x else y) := by
  by_cases h : c
  · rw [if_pos h]; exact h1
  · rw [if_neg h]; exact h2
theorem jm_hear {σ : mmS} {a : Int32} {w : Int64} (hJ : Jm σ) : Jm (sp_m_hear a w σ) := by
  unfold sp_m_hear
  repeat' (first | (with_reducible first | exact hJ | exact jm_listen hJ | exact jm_notice (cyc_rng _ _) (jm_I (by decide) hJ) | exact jm_I (by decide) (jm_I (by decide) (jm_I (by decide) hJ)) | exact jm_I (by decide) (jm_I (by decide) hJ) | exact jm_I (by decide) hJ) | refine jm_ite ?_ ?_)
end SP
