section SP
variable {N L : Nat} {xs : Nat → Int32}
def sp_m_tickB_L4 (d : Int32) (σ : mmS) : mmS :=
σ
theorem ev_m_tickB_L4 (hN : 65 ≤ N) (d : Int32) (σ : mmS) (hJ : Jm σ) : Ev N L xs (103, 191, [(0, .ref 42), (2, .int d), (5, .int (4 : Int32))], [], 0, σ) (mmSV (sp_m_tickB_L4 d σ)) := by
  unfold sp_m_tickB_L4
  refine ev_iload d_103_191 rfl ?_
  refine ev_iconst d_103_193 ci_4 ?_
  refine ev_icmpT (tgt := 228) d_103_194 rfl (show (4 : Int32) ≤ (4 : Int32) by decide) ?_
  exact ev_vret d_103_228 rfl
def sp_m_tickB_L3 (d : Int32) (σ : mmS) : mmS :=
if (3 : Int32) = d then
  (sp_m_tickB_L4 d σ)
else
  if (sp_m_works (3 : Int32) σ) = 0 then
    (sp_m_tickB_L4 d σ)
  else
    (sp_m_tickB_L4 d (sp_m_hear (3 : Int32) (σ.2 42 24) σ))
theorem ev_m_tickB_L3 (hN : 65 ≤ N) (d : Int32) (σ : mmS) (hJ : Jm σ) : Ev N L xs (103, 191, [(0, .ref 42), (2, .int d), (5, .int (3 : Int32))], [], 0, σ) (mmSV (sp_m_tickB_L3 d σ)) := by
  unfold sp_m_tickB_L3
  refine ev_iload d_103_191 rfl ?_
  refine ev_iconst d_103_193 ci_4 ?_
  refine ev_icmpF (tgt := 228) d_103_194 rfl (show ¬ ((4 : Int32) ≤ (3 : Int32)) by decide) ?_
  refine ev_iload d_103_197 rfl ?_
  refine ev_iload_n d_103_199 rfl ?_
  refine ev_icmp_eq mmSV (tgt := 222) d_103_200 rfl (fun _h200 => ?_) (fun _h200 => ?_)
  · refine ev_iinc (lv' := [(5, .int (4 : Int32)), (0, .ref 42), (2, .int d)]) (v := (4 : Int32)) d_103_222 rfl (by decide) (by decide) rfl ?_
    refine ev_goto (tgt := 191) d_103_225 rfl ?_
    refine ev_sub (lv' := [(0, .ref 42), (2, .int d), (5, .int (4 : Int32))]) (by simp) ?_
    exact ev_m_tickB_L4 hN d σ (by first | exact hJ | exact jm_hear hJ)
  · refine ev_aload_n d_103_203 rfl ?_
    refine ev_iload d_103_204 rfl ?_
    refine ev_cvI (As := [.int (3 : Int32)]) (t := []) (e' := 0) d_103_206 ml_7_171 rfl rfl rfl rfl rfl (by decide) rfl (ltk (by decide) hN) rfl rfl rfl (ev_m_works hN (3 : Int32) σ (vpi (by decide))) ?_
    refine ev_if_eq mmSV (tgt := 222) d_103_209 rfl (fun _h209 => ?_) (fun _h209 => ?_)
    · refine ev_iinc (lv' := [(5, .int (4 : Int32)), (0, .ref 42), (2, .int d)]) (v := (4 : Int32)) d_103_222 rfl (by decide) (by decide) rfl ?_
      refine ev_goto (tgt := 191) d_103_225 rfl ?_
      refine ev_sub (lv' := [(0, .ref 42), (2, .int d), (5, .int (4 : Int32))]) (by simp) ?_
      exact ev_m_tickB_L4 hN d σ (by first | exact hJ | exact jm_hear hJ)
    · refine ev_aload_n d_103_212 rfl ?_
      refine ev_iload d_103_213 rfl ?_
      refine ev_aload_n d_103_215 rfl ?_
      refine ev_getf (v := .long (σ.2 42 24)) d_103_216 fl_7_183 (ltk (by decide) hN) rfl rfl ?_
      refine ev_cvV (As := [.int (3 : Int32), .long (σ.2 42 24)]) (t := []) (e' := 0) d_103_219 ml_7_193 rfl rfl rfl rfl rfl (by decide) rfl (ltk (by decide) hN) rfl rfl rfl (ev_m_hear hN (3 : Int32) (σ.2 42 24) σ (vpi (by decide)) (by first | exact hJ | exact jm_I (by decide) hJ | exact jm_I (by decide) (jm_I (by decide) hJ))) ?_
      refine ev_iinc (lv' := [(5, .int (4 : Int32)), (0, .ref 42), (2, .int d)]) (v := (4 : Int32)) d_103_222 rfl (by decide) (by decide) rfl ?_
      refine ev_goto (tgt := 191) d_103_225 rfl ?_
      refine ev_sub (lv' := [(0, .ref 42), (2, .int d), (5, .int (4 : Int32))]) (by simp) ?_
      exact ev_m_tickB_L4 hN d (sp_m_hear (3 : Int32) (σ.2 42 24) σ) (by first | exact hJ | exact jm_hear hJ)
def sp_m_tickB_L2 (d : Int32) (σ : mmS) : mmS :=
if (2 : Int32) = d then
  (sp_m_tickB_L3 d σ)
else
  if (sp_m_works (2 : Int32) σ) = 0 then
    (sp_m_tickB_L3 d σ)
  else
    (sp_m_tickB_L3 d (sp_m_hear (2 : Int32) (σ.2 42 24) σ))
theorem ev_m_tickB_L2 (hN : 65 ≤ N) (d : Int32) (σ : mmS) (hJ : Jm σ) : Ev N L xs (103, 191, [(0, .ref 42), (2, .int d), (5, .int (2 : Int32))], [], 0, σ) (mmSV (sp_m_tickB_L2 d σ)) := by
  unfold sp_m_tickB_L2
  refine ev_iload d_103_191 rfl ?_
  refine ev_iconst d_103_193 ci_4 ?_
  refine ev_icmpF (tgt := 228) d_103_194 rfl (show ¬ ((4 : Int32) ≤ (2 : Int32)) by decide) ?_
  refine ev_iload d_103_197 rfl ?_
  refine ev_iload_n d_103_199 rfl ?_
  refine ev_icmp_eq mmSV (tgt := 222) d_103_200 rfl (fun _h200 => ?_) (fun _h200 => ?_)
  · refine ev_iinc (lv' := [(5, .int (3 : Int32)), (0, .ref 42), (2, .int d)]) (v := (3 : Int32)) d_103_222 rfl (by decide) (by decide) rfl ?_
    refine ev_goto (tgt := 191) d_103_225 rfl ?_
    refine ev_sub (lv' := [(0, .ref 42), (2, .int d), (5, .int (3 : Int32))]) (by simp) ?_
    exact ev_m_tickB_L3 hN d σ (by first | exact hJ | exact jm_hear hJ)
  · refine ev_aload_n d_103_203 rfl ?_
    refine ev_iload d_103_204 rfl ?_
    refine ev_cvI (As := [.int (2 : Int32)]) (t := []) (e' := 0) d_103_206 ml_7_171 rfl rfl rfl rfl rfl (by decide) rfl (ltk (by decide) hN) rfl rfl rfl (ev_m_works hN (2 : Int32) σ (vpi (by decide))) ?_
    refine ev_if_eq mmSV (tgt := 222) d_103_209 rfl (fun _h209 => ?_) (fun _h209 => ?_)
    · refine ev_iinc (lv' := [(5, .int (3 : Int32)), (0, .ref 42), (2, .int d)]) (v := (3 : Int32)) d_103_222 rfl (by decide) (by decide) rfl ?_
      refine ev_goto (tgt := 191) d_103_225 rfl ?_
      refine ev_sub (lv' := [(0, .ref 42), (2, .int d), (5, .int (3 : Int32))]) (by simp) ?_
      exact ev_m_tickB_L3 hN d σ (by first | exact hJ | exact jm_hear hJ)
    · refine ev_aload_n d_103_212 rfl ?_
      refine ev_iload d_103_213 rfl ?_
      refine ev_aload_n d_103_215 rfl ?_
      refine ev_getf (v := .long (σ.2 42 24)) d_103_216 fl_7_183 (ltk (by decide) hN) rfl rfl ?_
      refine ev_cvV (As := [.int (2 : Int32), .long (σ.2 42 24)]) (t := []) (e' := 0) d_103_219 ml_7_193 rfl rfl rfl rfl rfl (by decide) rfl (ltk (by decide) hN) rfl rfl rfl (ev_m_hear hN (2 : Int32) (σ.2 42 24) σ (vpi (by decide)) (by first | exact hJ | exact jm_I (by decide) hJ | exact jm_I (by decide) (jm_I (by decide) hJ))) ?_
      refine ev_iinc (lv' := [(5, .int (3 : Int32)), (0, .ref 42), (2, .int d)]) (v := (3 : Int32)) d_103_222 rfl (by decide) (by decide) rfl ?_
      refine ev_goto (tgt := 191) d_103_225 rfl ?_
      refine ev_sub (lv' := [(0, .ref 42), (2, .int d), (5, .int (3 : Int32))]) (by simp) ?_
      exact ev_m_tickB_L3 hN d (sp_m_hear (2 : Int32) (σ.2 42 24) σ) (by first | exact hJ | exact jm_hear hJ)
def sp_m_tickB_L1 (d : Int32) (σ : mmS) : mmS :=
if (1 : Int32) = d then
  (sp_m_tickB_L2 d σ)
else
  if (sp_m_works (1 : Int32) σ) = 0 then
    (sp_m_tickB_L2 d σ)
  else
    (sp_m_tickB_L2 d (sp_m_hear (1 : Int32) (σ.2 42 24) σ))
theorem ev_m_tickB_L1 (hN : 65 ≤ N) (d : Int32) (σ : mmS) (hJ : Jm σ) : Ev N L xs (103, 191, [(0, .ref 42), (2, .int d), (5, .int (1 : Int32))], [], 0, σ) (mmSV (sp_m_tickB_L1 d σ)) := by
  unfold sp_m_tickB_L1
  refine ev_iload d_103_191 rfl ?_
  refine ev_iconst d_103_193 ci_4 ?_
  refine ev_icmpF (tgt := 228) d_103_194 rfl (show ¬ ((4 : Int32) ≤ (1 : Int32)) by decide) ?_
  refine ev_iload d_103_197 rfl ?_
  refine ev_iload_n d_103_199 rfl ?_
  refine ev_icmp_eq mmSV (tgt := 222) d_103_200 rfl (fun _h200 => ?_) (fun _h200 => ?_)
  · refine ev_iinc (lv' := [(5, .int (2 : Int32)), (0, .ref 42), (2, .int d)]) (v := (2 : Int32)) d_103_222 rfl (by decide) (by decide) rfl ?_
    refine ev_goto (tgt := 191) d_103_225 rfl ?_
    refine ev_sub (lv' := [(0, .ref 42), (2, .int d), (5, .int (2 : Int32))]) (by simp) ?_
    exact ev_m_tickB_L2 hN d σ (by first | exact hJ | exact jm_hear hJ)
  · refine ev_aload_n d_103_203 rfl ?_
    refine ev_iload d_103_204 rfl ?_
    refine ev_cvI (As := [.int (1 : Int32)]) (t := []) (e' := 0) d_103_206 ml_7_171 rfl rfl rfl rfl rfl (by decide) rfl (ltk (by decide) hN) rfl rfl rfl (ev_m_works hN (1 : Int32) σ (vpi (by decide))) ?_
    refine ev_if_eq mmSV (tgt := 222) d_103_209 rfl (fun _h209 => ?_) (fun _h209 => ?_)
    · refine ev_iinc (lv' := [(5, .int (2 : Int32)), (0, .ref 42), (2, .int d)]) (v := (2 : Int32)) d_103_222 rfl (by decide) (by decide) rfl ?_
      refine ev_goto (tgt := 191) d_103_225 rfl ?_
      refine ev_sub (lv' := [(0, .ref 42), (2, .int d), (5, .int (2 : Int32))]) (by simp) ?_
      exact ev_m_tickB_L2 hN d σ (by first | exact hJ | exact jm_hear hJ)
    · refine ev_aload_n d_103_212 rfl ?_
      refine ev_iload d_103_213 rfl ?_
      refine ev_aload_n d_103_215 rfl ?_
      refine ev_getf (v := .long (σ.2 42 24)) d_103_216 fl_7_183 (ltk (by decide) hN) rfl rfl ?_
      refine ev_cvV (As := [.int (1 : Int32), .long (σ.2 42 24)]) (t := []) (e' := 0) d_103_219 ml_7_193 rfl rfl rfl rfl rfl (by decide) rfl (ltk (by decide) hN) rfl rfl rfl (ev_m_hear hN (1 : Int32) (σ.2 42 24) σ (vpi (by decide)) (by first | exact hJ | exact jm_I (by decide) hJ | exact jm_I (by decide) (jm_I (by decide) hJ))) ?_
      refine ev_iinc (lv' := [(5, .int (2 : Int32)), (0, .ref 42), (2, .int d)]) (v := (2 : Int32)) d_103_222 rfl (by decide) (by decide) rfl ?_
      refine ev_goto (tgt := 191) d_103_225 rfl ?_
      refine ev_sub (lv' := [(0, .ref 42), (2, .int d), (5, .int (2 : Int32))]) (by simp) ?_
      exact ev_m_tickB_L2 hN d (sp_m_hear (1 : Int32) (σ.2 42 24) σ) (by first | exact hJ | exact jm_hear hJ)
def sp_m_tickB_L0 (d : Int32) (σ : mmS) : mmS :=
if (0 : Int32) = d then
  (sp_m_tickB_L1 d σ)
else
  if (sp_m_works (0 : Int32) σ) = 0 then
    (sp_m_tickB_L1 d σ)
  else
    (sp_m_tickB_L1 d (sp_m_hear (0 : Int32) (σ.2 42 24) σ))
theorem ev_m_tickB_L0 (hN : 65 ≤ N) (d : Int32) (σ : mmS) (hJ : Jm σ) : Ev N L xs (103, 191, [(0, .ref 42), (2, .int d), (5, .int (0 : Int32))], [], 0, σ) (mmSV (sp_m_tickB_L0 d σ)) := by
  unfold sp_m_tickB_L0
  refine ev_iload d_103_191 rfl ?_
  refine ev_iconst d_103_193 ci_4 ?_
  refine ev_icmpF (tgt := 228) d_103_194 rfl (show ¬ ((4 : Int32) ≤ (0 : Int32)) by decide) ?_
  refine ev_iload d_103_197 rfl ?_
  refine ev_iload_n d_103_199 rfl ?_
  refine ev_icmp_eq mmSV (tgt := 222) d_103_200 rfl (fun _h200 => ?_) (fun _h200 => ?_)
  · refine ev_iinc (lv' := [(5, .int (1 : Int32)), (0, .ref 42), (2, .int d)]) (v := (1 : Int32)) d_103_222 rfl (by decide) (by decide) rfl ?_
    refine ev_goto (tgt := 191) d_103_225 rfl ?_
    refine ev_sub (lv' := [(0, .ref 42), (2, .int d), (5, .int (1 : Int32))]) (by simp) ?_
    exact ev_m_tickB_L1 hN d σ (by first | exact hJ | exact jm_hear hJ)
  · refine ev_aload_n d_103_203 rfl ?_
    refine ev_iload d_103_204 rfl ?_
    refine ev_cvI (As := [.int (0 : Int32)]) (t := []) (e' := 0) d_103_206 ml_7_171 rfl rfl rfl rfl rfl (by decide) rfl (ltk (by decide) hN) rfl rfl rfl (ev_m_works hN (0 : Int32) σ (vpi (by decide))) ?_
    refine ev_if_eq mmSV (tgt := 222) d_103_209 rfl (fun _h209 => ?_) (fun _h209 => ?_)
    · refine ev_iinc (lv' := [(5, .int (1 : Int32)), (0, .ref 42), (2, .int d)]) (v := (1 : Int32)) d_103_222 rfl (by decide) (by decide) rfl ?_
      refine ev_goto (tgt := 191) d_103_225 rfl ?_
      refine ev_sub (lv' := [(0, .ref 42), (2, .int d), (5, .int (1 : Int32))]) (by simp) ?_
      exact ev_m_tickB_L1 hN d σ (by first | exact hJ | exact jm_hear hJ)
    · refine ev_aload_n d_103_212 rfl ?_
      refine ev_iload d_103_213 rfl ?_
      refine ev_aload_n d_103_215 rfl ?_
      refine ev_getf (v := .long (σ.2 42 24)) d_103_216 fl_7_183 (ltk (by decide) hN) rfl rfl ?_
      refine ev_cvV (As := [.int (0 : Int32), .long (σ.2 42 24)]) (t := []) (e' := 0) d_103_219 ml_7_193 rfl rfl rfl rfl rfl (by decide) rfl (ltk (by decide) hN) rfl rfl rfl (ev_m_hear hN (0 : Int32) (σ.2 42 24) σ (vpi (by decide)) (by first | exact hJ | exact jm_I (by decide) hJ | exact jm_I (by decide) (jm_I (by decide) hJ))) ?_
      refine ev_iinc (lv' := [(5, .int (1 : Int32)), (0, .ref 42), (2, .int d)]) (v := (1 : Int32)) d_103_222 rfl (by decide) (by decide) rfl ?_
      refine ev_goto (tgt := 191) d_103_225 rfl ?_
      refine ev_sub (lv' := [(0, .ref 42), (2, .int d), (5, .int (1 : Int32))]) (by simp) ?_
      exact ev_m_tickB_L1 hN d (sp_m_hear (0 : Int32) (σ.2 42 24) σ) (by first | exact hJ | exact jm_hear hJ)
def sp_m_tickA_L4 (s : Int32) (d : Int32) (w : Int64) (σ : mmS) : mmS :=
if s = (1 : Int32) then
  if ((mmJ (mmI (mmJ (mmI σ 42 22 ((σ.1 42 22) + s)) 42 24 (w ^^^ ((mmI σ 42 22 ((σ.1 42 22) + s)).2 42 26))) 42 25 (1 : Int32)) 42 26 (0 : Int64)).1 42 27) ≤ 0 then
    (sp_m_tickB_L0 d (mmJ (mmI (mmJ (mmI σ 42 22 ((σ.1 42 22) + s)) 42 24 (w ^^^ ((mmI σ 42 22 ((σ.1 42 22) + s)).2 42 26))) 42 25 (1 : Int32)) 42 26 (0 : Int64)))
  else
    (mmI (mmJ (mmI (mmJ (mmI σ 42 22 ((σ.1 42 22) + s)) 42 24 (w ^^^ ((mmI σ 42 22 ((σ.1 42 22) + s)).2 42 26))) 42 25 (1 : Int32)) 42 26 (0 : Int64)) 42 27 (((mmJ (mmI (mmJ (mmI σ 42 22 ((σ.1 42 22) + s)) 42 24 (w ^^^ ((mmI σ 42 22 ((σ.1 42 22) + s)).2 42 26))) 42 25 (1 : Int32)) 42 26 (0 : Int64)).1 42 27) - (1 : Int32)))
else
  (mmI σ 42 22 ((σ.1 42 22) + s))
theorem ev_m_tickA_L4 (hN : 65 ≤ N) (s : Int32) (d : Int32) (w : Int64) (σ : mmS) (hJ : Jm σ) : Ev N L xs (103, 9, [(0, .ref 42), (1, .int s), (2, .int d), (3, .long w), (5, .int (4 : Int32))], [], 0, σ) (mmSV (sp_m_tickA_L4 s d w σ)) := by
  unfold sp_m_tickA_L4
  refine ev_iload d_103_9 rfl ?_
  refine ev_iconst d_103_11 ci_4 ?_
  refine ev_icmpT (tgt := 134) d_103_12 rfl (show (4 : Int32) ≤ (4 : Int32) by decide) ?_
  refine ev_aload_n d_103_134 rfl ?_
  refine ev_aload_n d_103_135 rfl ?_
  refine ev_getf (v := .int (σ.1 42 22)) d_103_136 fl_7_177 (ltk (by decide) hN) rfl rfl ?_
  refine ev_iload_n d_103_139 rfl ?_
  refine ev_iadd (v := ((σ.1 42 22) + s)) d_103_140 rfl ?_
  refine ev_putf d_103_141 fl_7_177 (ltk (by decide) hN) rfl rfl (Or.inl rfl) ?_
  refine ev_iload_n d_103_144 rfl ?_
  refine ev_iconst d_103_145 ci_1 ?_
  refine ev_icmp_eq mmSV (tgt := 150) d_103_146 rfl (fun _h146 => ?_) (fun _h146 => ?_)
  · refine ev_aload_n d_103_150 rfl ?_
    refine ev_lload_n d_103_151 rfl ?_
    refine ev_aload_n d_103_152 rfl ?_
    refine ev_getf (v := .long ((mmI σ 42 22 ((σ.1 42 22) + s)).2 42 26)) d_103_153 fl_7_180 (ltk (by decide) hN) rfl rfl ?_
    refine ev_lxor (v := (w ^^^ ((mmI σ 42 22 ((σ.1 42 22) + s)).2 42 26))) d_103_156 rfl ?_
    refine ev_putl d_103_157 fl_7_183 (ltk (by decide) hN) rfl rfl rfl ?_
    refine ev_aload_n d_103_160 rfl ?_
    refine ev_iconst d_103_161 ci_1 ?_
    refine ev_putf d_103_162 fl_7_186 (ltk (by decide) hN) rfl rfl (Or.inr ⟨rfl, (Or.inr rfl)⟩) ?_
    refine ev_aload_n d_103_165 rfl ?_
    refine ev_lconst d_103_166 rfl ?_
    refine ev_putl d_103_167 fl_7_180 (ltk (by decide) hN) rfl rfl rfl ?_
    refine ev_aload_n d_103_170 rfl ?_
    refine ev_getf (v := .int ((mmJ (mmI (mmJ (mmI σ 42 22 ((σ.1 42 22) + s)) 42 24 (w ^^^ ((mmI σ 42 22 ((σ.1 42 22) + s)).2 42 26))) 42 25 (1 : Int32)) 42 26 (0 : Int64)).1 42 27)) d_103_171 fl_7_190 (ltk (by decide) hN) rfl rfl ?_
    refine ev_if_le mmSV (tgt := 188) d_103_174 rfl (fun _h174 => ?_) (fun _h174 => ?_)
    · refine ev_iconst d_103_188 ci_0 ?_
      refine ev_istore (lv' := [(5, .int (0 : Int32)), (0, .ref 42), (1, .int s), (2, .int d), (3, .long w)]) d_103_189 (by decide) rfl ?_
      refine ev_sub (lv' := [(0, .ref 42), (2, .int d), (5, .int (0 : Int32))]) (by simp) ?_
      exact ev_m_tickB_L0 hN d (mmJ (mmI (mmJ (mmI σ 42 22 ((σ.1 42 22) + s)) 42 24 (w ^^^ ((mmI σ 42 22 ((σ.1 42 22) + s)).2 42 26))) 42 25 (1 : Int32)) 42 26 (0 : Int64)) (jm_J (jm_I (by decide) (jm_J (jm_I (by decide) hJ))))
    · refine ev_aload_n d_103_177 rfl ?_
      refine ev_dup d_103_178 rfl ?_
      refine ev_getf (v := .int ((mmJ (mmI (mmJ (mmI σ 42 22 ((σ.1 42 22) + s)) 42 24 (w ^^^ ((mmI σ 42 22 ((σ.1 42 22) + s)).2 42 26))) 42 25 (1 : Int32)) 42 26 (0 : Int64)).1 42 27)) d_103_179 fl_7_190 (ltk (by decide) hN) rfl rfl ?_
      refine ev_iconst d_103_182 ci_1 ?_
      refine ev_isub (v := (((mmJ (mmI (mmJ (mmI σ 42 22 ((σ.1 42 22) + s)) 42 24 (w ^^^ ((mmI σ 42 22 ((σ.1 42 22) + s)).2 42 26))) 42 25 (1 : Int32)) 42 26 (0 : Int64)).1 42 27) - (1 : Int32))) d_103_183 rfl ?_
      refine ev_putf d_103_184 fl_7_190 (ltk (by decide) hN) rfl rfl (Or.inl rfl) ?_
      exact ev_vret d_103_187 rfl
  · exact ev_vret d_103_149 rfl
def sp_m_tickA_L3 (s : Int32) (d : Int32) (w : Int64) (σ : mmS) : mmS :=
if (sp_m_works (3 : Int32) σ) = 0 then
  (sp_m_tickA_L4 s d w σ)
else
  if (((σ.1 45 3) + (1000 : Int32)) - (σ.1 43 3)) < (1000 : Int32) then
    (sp_m_tickA_L4 s d w (mmI (mmI σ 45 3 (((σ.1 45 3) + (1000 : Int32)) - (σ.1 43 3))) 45 3 (((σ.1 45 3) + (1000 : Int32)) - (σ.1 43 3))))
  else
    if (sp_m_passes (3 : Int32) (mmI (mmI σ 45 3 (((σ.1 45 3) + (1000 : Int32)) - (σ.1 43 3))) 45 3 ((((σ.1 45 3) + (1000 : Int32)) - (σ.1 43 3)) - (1000 : Int32)))).1 = 0 then
      (sp_m_tickA_L4 s d w ((sp_m_passes (3 : Int32) (mmI (mmI σ 45 3 (((σ.1 45 3) + (1000 : Int32)) - (σ.1 43 3))) 45 3 ((((σ.1 45 3) + (1000 : Int32)) - (σ.1 43 3)) - (1000 : Int32)))).2))
    else
      (sp_m_tickA_L4 (s + Int32.ofInt (1)) (3 : Int32) (((sp_m_passes (3 : Int32) (mmI (mmI σ 45 3 (((σ.1 45 3) + (1000 : Int32)) - (σ.1 43 3))) 45 3 ((((σ.1 45 3) + (1000 : Int32)) - (σ.1 43 3)) - (1000 : Int32)))).2).2 42 23) ((sp_m_passes (3 : Int32) (mmI (mmI σ 45 3 (((σ.1 45 3) + (1000 : Int32)) - (σ.1 43 3))) 45 3 ((((σ.1 45 3) + (1000 : Int32)) - (σ.1 43 3)) - (1000 : Int32)))).2))
theorem ev_m_tickA_L3 (hN : 65 ≤ N) (s : Int32) (d : Int32) (w : Int64) (σ : mmS) (hJ : Jm σ) : Ev N L xs (103, 9, [(0, .ref 42), (1, .int s), (2, .int d), (3, .long w), (5, .int (3 : Int32))], [], 0, σ) (mmSV (sp_m_tickA_L3 s d w σ)) := by
  unfold sp_m_tickA_L3
  refine ev_iload d_103_9 rfl ?_
  refine ev_iconst d_103_11 ci_4 ?_
  refine ev_icmpF (tgt := 134) d_103_12 rfl (show ¬ ((4 : Int32) ≤ (3 : Int32)) by decide) ?_
  refine ev_aload_n d_103_15 rfl ?_
  refine ev_iload d_103_16 rfl ?_
  refine ev_cvI (As := [.int (3 : Int32)]) (t := []) (e' := 0) d_103_18 ml_7_171 rfl rfl rfl rfl rfl (by decide) rfl (ltk (by decide) hN) rfl rfl rfl (ev_m_works hN (3 : Int32) σ (vpi (by decide))) ?_
  refine ev_if_eq mmSV (tgt := 128) d_103_21 rfl (fun _h21 => ?_) (fun _h21 => ?_)
  · refine ev_iinc (lv' := [(5, .int (4 : Int32)), (0, .ref 42), (1, .int s), (2, .int d), (3, .long w)]) (v := (4 : Int32)) d_103_128 rfl (by decide) (by decide) rfl ?_
    refine ev_goto (tgt := 9) d_103_131 rfl ?_
    refine ev_sub (lv' := [(0, .ref 42), (1, .int s), (2, .int d), (3, .long w), (5, .int (4 : Int32))]) (by simp) ?_
    exact ev_m_tickA_L4 hN s d w σ (by first | exact hJ | exact jm_I (by decide) (jm_I (by decide) hJ) | exact jm_passes (vpi (by decide)) (jm_I (by decide) (jm_I (by decide) hJ)))
  · refine ev_aload_n d_103_24 rfl ?_
    refine ev_getf (v := .ref 45) d_103_25 fl_7_16 (ltk (by decide) hN) rfl rfl ?_
    refine ev_iload d_103_28 rfl ?_
    refine ev_aload_n d_103_30 rfl ?_
    refine ev_getf (v := .ref 45) d_103_31 fl_7_16 (ltk (by decide) hN) rfl rfl ?_
    refine ev_iload d_103_34 rfl ?_
    refine ev_iald (i := 3) d_103_36 (ltk (by decide) hN) rfl (vpi (by decide)) (by decide) ?_
    refine ev_sipush d_103_37 cs_1000 ?_
    refine ev_iadd (v := ((σ.1 45 3) + (1000 : Int32))) d_103_40 rfl ?_
    refine ev_aload_n d_103_41 rfl ?_
    refine ev_getf (v := .ref 43) d_103_42 fl_7_7 (ltk (by decide) hN) rfl rfl ?_
    refine ev_iload d_103_45 rfl ?_
    refine ev_iald (i := 3) d_103_47 (ltk (by decide) hN) rfl (vpi (by decide)) (by decide) ?_
    refine ev_isub (v := (((σ.1 45 3) + (1000 : Int32)) - (σ.1 43 3))) d_103_48 rfl ?_
    refine ev_iastore (i := 3) d_103_49 (ltk (by decide) hN) rfl (vpi (by decide)) (by decide) ?_
    refine ev_aload_n d_103_50 rfl ?_
    refine ev_getf (v := .ref 45) d_103_51 fl_7_16 (ltk (by decide) hN) rfl rfl ?_
    refine ev_iload d_103_54 rfl ?_
    refine ev_iald (i := 3) d_103_56 (ltk (by decide) hN) rfl (vpi (by decide)) (by decide) ?_
    show Ev N L xs (103, 57, [(0, .ref 42), (1, .int s), (2, .int d), (3, .long w), (5, .int (3 : Int32))], [.int (((σ.1 45 3) + (1000 : Int32)) - (σ.1 43 3))], 0, (mmI σ 45 3 (((σ.1 45 3) + (1000 : Int32)) - (σ.1 43 3)))) _
    refine ev_sipush d_103_57 cs_1000 ?_
    refine ev_icmp_lt mmSV (tgt := 67) d_103_60 rfl (fun _h60 => ?_) (fun _h60 => ?_)
    · refine ev_iconst d_103_67 ci_0 ?_
      refine ev_istore (lv' := [(6, .int (0 : Int32)), (0, .ref 42), (1, .int s), (2, .int d), (3, .long w), (5, .int (3 : Int32))]) d_103_68 (by decide) rfl ?_
      refine ev_aload_n d_103_70 rfl ?_
      refine ev_getf (v := .ref 45) d_103_71 fl_7_16 (ltk (by decide) hN) rfl rfl ?_
      refine ev_iload d_103_74 rfl ?_
      refine ev_iload d_103_76 rfl ?_
      refine ev_ifT (tgt := 95) d_103_78 rfl (show (0 : Int32) = (0 : Int32) by decide) ?_
      refine ev_aload_n d_103_95 rfl ?_
      refine ev_getf (v := .ref 45) d_103_96 fl_7_16 (ltk (by decide) hN) rfl rfl ?_
      refine ev_iload d_103_99 rfl ?_
      refine ev_iald (i := 3) d_103_101 (ltk (by decide) hN) rfl (vpi (by decide)) (by decide) ?_
      show Ev N L xs (103, 102, [(6, .int (0 : Int32)), (0, .ref 42), (1, .int s), (2, .int d), (3, .long w), (5, .int (3 : Int32))], [.int (((σ.1 45 3) + (1000 : Int32)) - (σ.1 43 3)), .int (3 : Int32), .ref 45], 0, (mmI σ 45 3 (((σ.1 45 3) + (1000 : Int32)) - (σ.1 43 3)))) _
      refine ev_iastore (i := 3) d_103_102 (ltk (by decide) hN) rfl (vpi (by decide)) (by decide) ?_
      refine ev_iload d_103_103 rfl ?_
      refine ev_ifT (tgt := 128) d_103_105 rfl (show (0 : Int32) = (0 : Int32) by decide) ?_
      refine ev_iinc (lv' := [(5, .int (4 : Int32)), (6, .int (0 : Int32)), (0, .ref 42), (1, .int s), (2, .int d), (3, .long w)]) (v := (4 : Int32)) d_103_128 rfl (by decide) (by decide) rfl ?_
      refine ev_goto (tgt := 9) d_103_131 rfl ?_
      refine ev_sub (lv' := [(0, .ref 42), (1, .int s), (2, .int d), (3, .long w), (5, .int (4 : Int32))]) (by simp) ?_
      exact ev_m_tickA_L4 hN s d w (mmI (mmI σ 45 3 (((σ.1 45 3) + (1000 : Int32)) - (σ.1 43 3))) 45 3 (((σ.1 45 3) + (1000 : Int32)) - (σ.1 43 3))) (by first | exact hJ | exact jm_I (by decide) (jm_I (by decide) hJ) | exact jm_passes (vpi (by decide)) (jm_I (by decide) (jm_I (by decide) hJ)))
    · refine ev_iconst d_103_63 ci_1 ?_
      refine ev_goto (tgt := 68) d_103_64 rfl ?_
      refine ev_istore (lv' := [(6, .int (1 : Int32)), (0, .ref 42), (1, .int s), (2, .int d), (3, .long w), (5, .int (3 : Int32))]) d_103_68 (by decide) rfl ?_
      refine ev_aload_n d_103_70 rfl ?_
      refine ev_getf (v := .ref 45) d_103_71 fl_7_16 (ltk (by decide) hN) rfl rfl ?_
      refine ev_iload d_103_74 rfl ?_
      refine ev_iload d_103_76 rfl ?_
      refine ev_ifF (tgt := 95) d_103_78 rfl (show ¬ ((1 : Int32) = (0 : Int32)) by decide) ?_
      refine ev_aload_n d_103_81 rfl ?_
      refine ev_getf (v := .ref 45) d_103_82 fl_7_16 (ltk (by decide) hN) rfl rfl ?_
      refine ev_iload d_103_85 rfl ?_
      refine ev_iald (i := 3) d_103_87 (ltk (by decide) hN) rfl (vpi (by decide)) (by decide) ?_
      show Ev N L xs (103, 88, [(6, .int (1 : Int32)), (0, .ref 42), (1, .int s), (2, .int d), (3, .long w), (5, .int (3 : Int32))], [.int (((σ.1 45 3) + (1000 : Int32)) - (σ.1 43 3)), .int (3 : Int32), .ref 45], 0, (mmI σ 45 3 (((σ.1 45 3) + (1000 : Int32)) - (σ.1 43 3)))) _
      refine ev_sipush d_103_88 cs_1000 ?_
      refine ev_isub (v := ((((σ.1 45 3) + (1000 : Int32)) - (σ.1 43 3)) - (1000 : Int32))) d_103_91 rfl ?_
      refine ev_goto (tgt := 102) d_103_92 rfl ?_
      refine ev_iastore (i := 3) d_103_102 (ltk (by decide) hN) rfl (vpi (by decide)) (by decide) ?_
      refine ev_iload d_103_103 rfl ?_
      refine ev_ifF (tgt := 128) d_103_105 rfl (show ¬ ((1 : Int32) = (0 : Int32)) by decide) ?_
      refine ev_aload_n d_103_108 rfl ?_
      refine ev_iload d_103_109 rfl ?_
      refine ev_cvI (As := [.int (3 : Int32)]) (t := []) (e' := 0) d_103_111 ml_7_174 rfl rfl rfl rfl rfl (by decide) rfl (ltk (by decide) hN) rfl rfl rfl (ev_m_passes hN (3 : Int32) (mmI (mmI σ 45 3 (((σ.1 45 3) + (1000 : Int32)) - (σ.1 43 3))) 45 3 ((((σ.1 45 3) + (1000 : Int32)) - (σ.1 43 3)) - (1000 : Int32))) (vpi (by decide)) (by first | exact hJ | exact jm_I (by decide) hJ | exact jm_I (by decide) (jm_I (by decide) hJ))) ?_
      refine ev_if_eq mmSV (tgt := 128) d_103_114 rfl (fun _h114 => ?_) (fun _h114 => ?_)
      · refine ev_iinc (lv' := [(5, .int (4 : Int32)), (6, .int (1 : Int32)), (0, .ref 42), (1, .int s), (2, .int d), (3, .long w)]) (v := (4 : Int32)) d_103_128 rfl (by decide) (by decide) rfl ?_
        refine ev_goto (tgt := 9) d_103_131 rfl ?_
        refine ev_sub (lv' := [(0, .ref 42), (1, .int s), (2, .int d), (3, .long w), (5, .int (4 : Int32))]) (by simp) ?_
        exact ev_m_tickA_L4 hN s d w ((sp_m_passes (3 : Int32) (mmI (mmI σ 45 3 (((σ.1 45 3) + (1000 : Int32)) - (σ.1 43 3))) 45 3 ((((σ.1 45 3) + (1000 : Int32)) - (σ.1 43 3)) - (1000 : Int32)))).2) (by first | exact hJ | exact jm_I (by decide) (jm_I (by decide) hJ) | exact jm_passes (vpi (by decide)) (jm_I (by decide) (jm_I (by decide) hJ)))
      · refine ev_iinc (lv' := [(1, .int (s + Int32.ofInt (1))), (6, .int (1 : Int32)), (0, .ref 42), (2, .int d), (3, .long w), (5, .int (3 : Int32))]) (v := (s + Int32.ofInt (1))) d_103_117 rfl rfl (by decide) rfl ?_
        refine ev_iload d_103_120 rfl ?_
        refine ev_istore_n (lv' := [(2, .int (3 : Int32)), (1, .int (s + Int32.ofInt (1))), (6, .int (1 : Int32)), (0, .ref 42), (3, .long w), (5, .int (3 : Int32))]) d_103_122 (by decide) rfl ?_
        refine ev_aload_n d_103_123 rfl ?_
        refine ev_getf (v := .long (((sp_m_passes (3 : Int32) (mmI (mmI σ 45 3 (((σ.1 45 3) + (1000 : Int32)) - (σ.1 43 3))) 45 3 ((((σ.1 45 3) + (1000 : Int32)) - (σ.1 43 3)) - (1000 : Int32)))).2).2 42 23)) d_103_124 fl_7_135 (ltk (by decide) hN) rfl rfl ?_
        refine ev_lstore_n (lv' := [(3, .long (((sp_m_passes (3 : Int32) (mmI (mmI σ 45 3 (((σ.1 45 3) + (1000 : Int32)) - (σ.1 43 3))) 45 3 ((((σ.1 45 3) + (1000 : Int32)) - (σ.1 43 3)) - (1000 : Int32)))).2).2 42 23)), (2, .int (3 : Int32)), (1, .int (s + Int32.ofInt (1))), (6, .int (1 : Int32)), (0, .ref 42), (5, .int (3 : Int32))]) d_103_127 (by decide) rfl ?_
        refine ev_iinc (lv' := [(5, .int (4 : Int32)), (3, .long (((sp_m_passes (3 : Int32) (mmI (mmI σ 45 3 (((σ.1 45 3) + (1000 : Int32)) - (σ.1 43 3))) 45 3 ((((σ.1 45 3) + (1000 : Int32)) - (σ.1 43 3)) - (1000 : Int32)))).2).2 42 23)), (2, .int (3 : Int32)), (1, .int (s + Int32.ofInt (1))), (6, .int (1 : Int32)), (0, .ref 42)]) (v := (4 : Int32)) d_103_128 rfl (by decide) (by decide) rfl ?_
        refine ev_goto (tgt := 9) d_103_131 rfl ?_
        refine ev_sub (lv' := [(0, .ref 42), (1, .int (s + Int32.ofInt (1))), (2, .int (3 : Int32)), (3, .long (((sp_m_passes (3 : Int32) (mmI (mmI σ 45 3 (((σ.1 45 3) + (1000 : Int32)) - (σ.1 43 3))) 45 3 ((((σ.1 45 3) + (1000 : Int32)) - (σ.1 43 3)) - (1000 : Int32)))).2).2 42 23)), (5, .int (4 : Int32))]) (by simp) ?_
        exact ev_m_tickA_L4 hN (s + Int32.ofInt (1)) (3 : Int32) (((sp_m_passes (3 : Int32) (mmI (mmI σ 45 3 (((σ.1 45 3) + (1000 : Int32)) - (σ.1 43 3))) 45 3 ((((σ.1 45 3) + (1000 : Int32)) - (σ.1 43 3)) - (1000 : Int32)))).2).2 42 23) ((sp_m_passes (3 : Int32) (mmI (mmI σ 45 3 (((σ.1 45 3) + (1000 : Int32)) - (σ.1 43 3))) 45 3 ((((σ.1 45 3) + (1000 : Int32)) - (σ.1 43 3)) - (1000 : Int32)))).2) (by first | exact hJ | exact jm_I (by decide) (jm_I (by decide) hJ) | exact jm_passes (vpi (by decide)) (jm_I (by decide) (jm_I (by decide) hJ)))
def sp_m_tickA_L2 (s : Int32) (d : Int32) (w : Int64) (σ : mmS) : mmS :=
if (sp_m_works (2 : Int32) σ) = 0 then
  (sp_m_tickA_L3 s d w σ)
else
  if (((σ.1 45 2) + (1000 : Int32)) - (σ.1 43 2)) < (1000 : Int32) then
    (sp_m_tickA_L3 s d w (mmI (mmI σ 45 2 (((σ.1 45 2) + (1000 : Int32)) - (σ.1 43 2))) 45 2 (((σ.1 45 2) + (1000 : Int32)) - (σ.1 43 2))))
  else
    if (sp_m_passes (2 : Int32) (mmI (mmI σ 45 2 (((σ.1 45 2) + (1000 : Int32)) - (σ.1 43 2))) 45 2 ((((σ.1 45 2) + (1000 : Int32)) - (σ.1 43 2)) - (1000 : Int32)))).1 = 0 then
      (sp_m_tickA_L3 s d w ((sp_m_passes (2 : Int32) (mmI (mmI σ 45 2 (((σ.1 45 2) + (1000 : Int32)) - (σ.1 43 2))) 45 2 ((((σ.1 45 2) + (1000 : Int32)) - (σ.1 43 2)) - (1000 : Int32)))).2))
    else
      (sp_m_tickA_L3 (s + Int32.ofInt (1)) (2 : Int32) (((sp_m_passes (2 : Int32) (mmI (mmI σ 45 2 (((σ.1 45 2) + (1000 : Int32)) - (σ.1 43 2))) 45 2 ((((σ.1 45 2) + (1000 : Int32)) - (σ.1 43 2)) - (1000 : Int32)))).2).2 42 23) ((sp_m_passes (2 : Int32) (mmI (mmI σ 45 2 (((σ.1 45 2) + (1000 : Int32)) - (σ.1 43 2))) 45 2 ((((σ.1 45 2) + (1000 : Int32)) - (σ.1 43 2)) - (1000 : Int32)))).2))
theorem ev_m_tickA_L2 (hN : 65 ≤ N) (s : Int32) (d : Int32) (w : Int64) (σ : mmS) (hJ : Jm σ) : Ev N L xs (103, 9, [(0, .ref 42), (1, .int s), (2, .int d), (3, .long w), (5, .int (2 : Int32))], [], 0, σ) (mmSV (sp_m_tickA_L2 s d w σ)) := by
  unfold sp_m_tickA_L2
  refine ev_iload d_103_9 rfl ?_
  refine ev_iconst d_103_11 ci_4 ?_
  refine ev_icmpF (tgt := 134) d_103_12 rfl (show ¬ ((4 : Int32) ≤ (2 : Int32)) by decide) ?_
  refine ev_aload_n d_103_15 rfl ?_
  refine ev_iload d_103_16 rfl ?_
  refine ev_cvI (As := [.int (2 : Int32)]) (t := []) (e' := 0) d_103_18 ml_7_171 rfl rfl rfl rfl rfl (by decide) rfl (ltk (by decide) hN) rfl rfl rfl (ev_m_works hN (2 : Int32) σ (vpi (by decide))) ?_
  refine ev_if_eq mmSV (tgt := 128) d_103_21 rfl (fun _h21 => ?_) (fun _h21 => ?_)
  · refine ev_iinc (lv' := [(5, .int (3 : Int32)), (0, .ref 42), (1, .int s), (2, .int d), (3, .long w)]) (v := (3 : Int32)) d_103_128 rfl (by decide) (by decide) rfl ?_
    refine ev_goto (tgt := 9) d_103_131 rfl ?_
    refine ev_sub (lv' := [(0, .ref 42), (1, .int s), (2, .int d), (3, .long w), (5, .int (3 : Int32))]) (by simp) ?_
    exact ev_m_tickA_L3 hN s d w σ (by first | exact hJ | exact jm_I (by decide) (jm_I (by decide) hJ) | exact jm_passes (vpi (by decide)) (jm_I (by decide) (jm_I (by decide) hJ)))
  · refine ev_aload_n d_103_24 rfl ?_
    refine ev_getf (v := .ref 45) d_103_25 fl_7_16 (ltk (by decide) hN) rfl rfl ?_
    refine ev_iload d_103_28 rfl ?_
    refine ev_aload_n d_103_30 rfl ?_
    refine ev_getf (v := .ref 45) d_103_31 fl_7_16 (ltk (by decide) hN) rfl rfl ?_
    refine ev_iload d_103_34 rfl ?_
    refine ev_iald (i := 2) d_103_36 (ltk (by decide) hN) rfl (vpi (by decide)) (by decide) ?_
    refine ev_sipush d_103_37 cs_1000 ?_
    refine ev_iadd (v := ((σ.1 45 2) + (1000 : Int32))) d_103_40 rfl ?_
    refine ev_aload_n d_103_41 rfl ?_
    refine ev_getf (v := .ref 43) d_103_42 fl_7_7 (ltk (by decide) hN) rfl rfl ?_
    refine ev_iload d_103_45 rfl ?_
    refine ev_iald (i := 2) d_103_47 (ltk (by decide) hN) rfl (vpi (by decide)) (by decide) ?_
    refine ev_isub (v := (((σ.1 45 2) + (1000 : Int32)) - (σ.1 43 2))) d_103_48 rfl ?_
    refine ev_iastore (i := 2) d_103_49 (ltk (by decide) hN) rfl (vpi (by decide)) (by decide) ?_
    refine ev_aload_n d_103_50 rfl ?_
    refine ev_getf (v := .ref 45) d_103_51 fl_7_16 (ltk (by decide) hN) rfl rfl ?_
    refine ev_iload d_103_54 rfl ?_
    refine ev_iald (i := 2) d_103_56 (ltk (by decide) hN) rfl (vpi (by decide)) (by decide) ?_
    show Ev N L xs (103, 57, [(0, .ref 42), (1, .int s), (2, .int d), (3, .long w), (5, .int (2 : Int32))], [.int (((σ.1 45 2) + (1000 : Int32)) - (σ.1 43 2))], 0, (mmI σ 45 2 (((σ.1 45 2) + (1000 : Int32)) - (σ.1 43 2)))) _
    refine ev_sipush d_103_57 cs_1000 ?_
    refine ev_icmp_lt mmSV (tgt := 67) d_103_60 rfl (fun _h60 => ?_) (fun _h60 => ?_)
    · refine ev_iconst d_103_67 ci_0 ?_
      refine ev_istore (lv' := [(6, .int (0 : Int32)), (0, .ref 42), (1, .int s), (2, .int d), (3, .long w), (5, .int (2 : Int32))]) d_103_68 (by decide) rfl ?_
      refine ev_aload_n d_103_70 rfl ?_
      refine ev_getf (v := .ref 45) d_103_71 fl_7_16 (ltk (by decide) hN) rfl rfl ?_
      refine ev_iload d_103_74 rfl ?_
      refine ev_iload d_103_76 rfl ?_
      refine ev_ifT (tgt := 95) d_103_78 rfl (show (0 : Int32) = (0 : Int32) by decide) ?_
      refine ev_aload_n d_103_95 rfl ?_
      refine ev_getf (v := .ref 45) d_103_96 fl_7_16 (ltk (by decide) hN) rfl rfl ?_
      refine ev_iload d_103_99 rfl ?_
      refine ev_iald (i := 2) d_103_101 (ltk (by decide) hN) rfl (vpi (by decide)) (by decide) ?_
      show Ev N L xs (103, 102, [(6, .int (0 : Int32)), (0, .ref 42), (1, .int s), (2, .int d), (3, .long w), (5, .int (2 : Int32))], [.int (((σ.1 45 2) + (1000 : Int32)) - (σ.1 43 2)), .int (2 : Int32), .ref 45], 0, (mmI σ 45 2 (((σ.1 45 2) + (1000 : Int32)) - (σ.1 43 2)))) _
      refine ev_iastore (i := 2) d_103_102 (ltk (by decide) hN) rfl (vpi (by decide)) (by decide) ?_
      refine ev_iload d_103_103 rfl ?_
      refine ev_ifT (tgt := 128) d_103_105 rfl (show (0 : Int32) = (0 : Int32) by decide) ?_
      refine ev_iinc (lv' := [(5, .int (3 : Int32)), (6, .int (0 : Int32)), (0, .ref 42), (1, .int s), (2, .int d), (3, .long w)]) (v := (3 : Int32)) d_103_128 rfl (by decide) (by decide) rfl ?_
      refine ev_goto (tgt := 9) d_103_131 rfl ?_
      refine ev_sub (lv' := [(0, .ref 42), (1, .int s), (2, .int d), (3, .long w), (5, .int (3 : Int32))]) (by simp) ?_
      exact ev_m_tickA_L3 hN s d w (mmI (mmI σ 45 2 (((σ.1 45 2) + (1000 : Int32)) - (σ.1 43 2))) 45 2 (((σ.1 45 2) + (1000 : Int32)) - (σ.1 43 2))) (by first | exact hJ | exact jm_I (by decide) (jm_I (by decide) hJ) | exact jm_passes (vpi (by decide)) (jm_I (by decide) (jm_I (by decide) hJ)))
    · refine ev_iconst d_103_63 ci_1 ?_
      refine ev_goto (tgt := 68) d_103_64 rfl ?_
      refine ev_istore (lv' := [(6, .int (1 : Int32)), (0, .ref 42), (1, .int s), (2, .int d), (3, .long w), (5, .int (2 : Int32))]) d_103_68 (by decide) rfl ?_
      refine ev_aload_n d_103_70 rfl ?_
      refine ev_getf (v := .ref 45) d_103_71 fl_7_16 (ltk (by decide) hN) rfl rfl ?_
      refine ev_iload d_103_74 rfl ?_
      refine ev_iload d_103_76 rfl ?_
      refine ev_ifF (tgt := 95) d_103_78 rfl (show ¬ ((1 : Int32) = (0 : Int32)) by decide) ?_
      refine ev_aload_n d_103_81 rfl ?_
      refine ev_getf (v := .ref 45) d_103_82 fl_7_16 (ltk (by decide) hN) rfl rfl ?_
      refine ev_iload d_103_85 rfl ?_
      refine ev_iald (i := 2) d_103_87 (ltk (by decide) hN) rfl (vpi (by decide)) (by decide) ?_
      show Ev N L xs (103, 88, [(6, .int (1 : Int32)), (0, .ref 42), (1, .int s), (2, .int d), (3, .long w), (5, .int (2 : Int32))], [.int (((σ.1 45 2) + (1000 : Int32)) - (σ.1 43 2)), .int (2 : Int32), .ref 45], 0, (mmI σ 45 2 (((σ.1 45 2) + (1000 : Int32)) - (σ.1 43 2)))) _
      refine ev_sipush d_103_88 cs_1000 ?_
      refine ev_isub (v := ((((σ.1 45 2) + (1000 : Int32)) - (σ.1 43 2)) - (1000 : Int32))) d_103_91 rfl ?_
      refine ev_goto (tgt := 102) d_103_92 rfl ?_
      refine ev_iastore (i := 2) d_103_102 (ltk (by decide) hN) rfl (vpi (by decide)) (by decide) ?_
      refine ev_iload d_103_103 rfl ?_
      refine ev_ifF (tgt := 128) d_103_105 rfl (show ¬ ((1 : Int32) = (0 : Int32)) by decide) ?_
      refine ev_aload_n d_103_108 rfl ?_
      refine ev_iload d_103_109 rfl ?_
      refine ev_cvI (As := [.int (2 : Int32)]) (t := []) (e' := 0) d_103_111 ml_7_174 rfl rfl rfl rfl rfl (by decide) rfl (ltk (by decide) hN) rfl rfl rfl (ev_m_passes hN (2 : Int32) (mmI (mmI σ 45 2 (((σ.1 45 2) + (1000 : Int32)) - (σ.1 43 2))) 45 2 ((((σ.1 45 2) + (1000 : Int32)) - (σ.1 43 2)) - (1000 : Int32))) (vpi (by decide)) (by first | exact hJ | exact jm_I (by decide) hJ | exact jm_I (by decide) (jm_I (by decide) hJ))) ?_
      refine ev_if_eq mmSV (tgt := 128) d_103_114 rfl (fun _h114 => ?_) (fun _h114 => ?_)
      · refine ev_iinc (lv' := [(5, .int (3 : Int32)), (6, .int (1 : Int32)), (0, .ref 42), (1, .int s), (2, .int d), (3, .long w)]) (v := (3 : Int32)) d_103_128 rfl (by decide) (by decide) rfl ?_
        refine ev_goto (tgt := 9) d_103_131 rfl ?_
        refine ev_sub (lv' := [(0, .ref 42), (1, .int s), (2, .int d), (3, .long w), (5, .int (3 : Int32))]) (by simp) ?_
        exact ev_m_tickA_L3 hN s d w ((sp_m_passes (2 : Int32) (mmI (mmI σ 45 2 (((σ.1 45 2) + (1000 : Int32)) - (σ.1 43 2))) 45 2 ((((σ.1 45 2) + (1000 : Int32)) - (σ.1 43 2)) - (1000 : Int32)))).2) (by first | exact hJ | exact jm_I (by decide) (jm_I (by decide) hJ) | exact jm_passes (vpi (by decide)) (jm_I (by decide) (jm_I (by decide) hJ)))
      · refine ev_iinc (lv' := [(1, .int (s + Int32.ofInt (1))), (6, .int (1 : Int32)), (0, .ref 42), (2, .int d), (3, .long w), (5, .int (2 : Int32))]) (v := (s + Int32.ofInt (1))) d_103_117 rfl rfl (by decide) rfl ?_
        refine ev_iload d_103_120 rfl ?_
        refine ev_istore_n (lv' := [(2, .int (2 : Int32)), (1, .int (s + Int32.ofInt (1))), (6, .int (1 : Int32)), (0, .ref 42), (3, .long w), (5, .int (2 : Int32))]) d_103_122 (by decide) rfl ?_
        refine ev_aload_n d_103_123 rfl ?_
        refine ev_getf (v := .long (((sp_m_passes (2 : Int32) (mmI (mmI σ 45 2 (((σ.1 45 2) + (1000 : Int32)) - (σ.1 43 2))) 45 2 ((((σ.1 45 2) + (1000 : Int32)) - (σ.1 43 2)) - (1000 : Int32)))).2).2 42 23)) d_103_124 fl_7_135 (ltk (by decide) hN) rfl rfl ?_
        refine ev_lstore_n (lv' := [(3, .long (((sp_m_passes (2 : Int32) (mmI (mmI σ 45 2 (((σ.1 45 2) + (1000 : Int32)) - (σ.1 43 2))) 45 2 ((((σ.1 45 2) + (1000 : Int32)) - (σ.1 43 2)) - (1000 : Int32)))).2).2 42 23)), (2, .int (2 : Int32)), (1, .int (s + Int32.ofInt (1))), (6, .int (1 : Int32)), (0, .ref 42), (5, .int (2 : Int32))]) d_103_127 (by decide) rfl ?_
        refine ev_iinc (lv' := [(5, .int (3 : Int32)), (3, .long (((sp_m_passes (2 : Int32) (mmI (mmI σ 45 2 (((σ.1 45 2) + (1000 : Int32)) - (σ.1 43 2))) 45 2 ((((σ.1 45 2) + (1000 : Int32)) - (σ.1 43 2)) - (1000 : Int32)))).2).2 42 23)), (2, .int (2 : Int32)), (1, .int (s + Int32.ofInt (1))), (6, .int (1 : Int32)), (0, .ref 42)]) (v := (3 : Int32)) d_103_128 rfl (by decide) (by decide) rfl ?_
        refine ev_goto (tgt := 9) d_103_131 rfl ?_
        refine ev_sub (lv' := [(0, .ref 42), (1, .int (s + Int32.ofInt (1))), (2, .int (2 : Int32)), (3, .long (((sp_m_passes (2 : Int32) (mmI (mmI σ 45 2 (((σ.1 45 2) + (1000 : Int32)) - (σ.1 43 2))) 45 2 ((((σ.1 45 2) + (1000 : Int32)) - (σ.1 43 2)) - (1000 : Int32)))).2).2 42 23)), (5, .int (3 : Int32))]) (by simp) ?_
        exact ev_m_tickA_L3 hN (s + Int32.ofInt (1)) (2 : Int32) (((sp_m_passes (2 : Int32) (mmI (mmI σ 45 2 (((σ.1 45 2) + (1000 : Int32)) - (σ.1 43 2))) 45 2 ((((σ.1 45 2) + (1000 : Int32)) - (σ.1 43 2)) - (1000 : Int32)))).2).2 42 23) ((sp_m_passes (2 : Int32) (mmI (mmI σ 45 2 (((σ.1 45 2) + (1000 : Int32)) - (σ.1 43 2))) 45 2 ((((σ.1 45 2) + (1000 : Int32)) - (σ.1 43 2)) - (1000 : Int32)))).2) (by first | exact hJ | exact jm_I (by decide) (jm_I (by decide) hJ) | exact jm_passes (vpi (by decide)) (jm_I (by decide) (jm_I (by decide) hJ)))
def sp_m_tickA_L1 (s : Int32) (d : Int32) (w : Int64) (σ : mmS) : mmS :=
if (sp_m_works (1 : Int32) σ) = 0 then
  (sp_m_tickA_L2 s d w σ)
else
  if (((σ.1 45 1) + (1000 : Int32)) - (σ.1 43 1)) < (1000 : Int32) then
    (sp_m_tickA_L2 s d w (mmI (mmI σ 45 1 (((σ.1 45 1) + (1000 : Int32)) - (σ.1 43 1))) 45 1 (((σ.1 45 1) + (1000 : Int32)) - (σ.1 43 1))))
  else
    if (sp_m_passes (1 : Int32) (mmI (mmI σ 45 1 (((σ.1 45 1) + (1000 : Int32)) - (σ.1 43 1))) 45 1 ((((σ.1 45 1) + (1000 : Int32)) - (σ.1 43 1)) - (1000 : Int32)))).1 = 0 then
      (sp_m_tickA_L2 s d w ((sp_m_passes (1 : Int32) (mmI (mmI σ 45 1 (((σ.1 45 1) + (1000 : Int32)) - (σ.1 43 1))) 45 1 ((((σ.1 45 1) + (1000 : Int32)) - (σ.1 43 1)) - (1000 : Int32)))).2))
    else
      (sp_m_tickA_L2 (s + Int32.ofInt (1)) (1 : Int32) (((sp_m_passes (1 : Int32) (mmI (mmI σ 45 1 (((σ.1 45 1) + (1000 : Int32)) - (σ.1 43 1))) 45 1 ((((σ.1 45 1) + (1000 : Int32)) - (σ.1 43 1)) - (1000 : Int32)))).2).2 42 23) ((sp_m_passes (1 : Int32) (mmI (mmI σ 45 1 (((σ.1 45 1) + (1000 : Int32)) - (σ.1 43 1))) 45 1 ((((σ.1 45 1) + (1000 : Int32)) - (σ.1 43 1)) - (1000 : Int32)))).2))
theorem ev_m_tickA_L1 (hN : 65 ≤ N) (s : Int32) (d : Int32) (w : Int64) (σ : mmS) (hJ : Jm σ) : Ev N L xs (103, 9, [(0, .ref 42), (1, .int s), (2, .int d), (3, .long w), (5, .int (1 : Int32))], [], 0, σ) (mmSV (sp_m_tickA_L1 s d w σ)) := by
  unfold sp_m_tickA_L1
  refine ev_iload d_103_9 rfl ?_
  refine ev_iconst d_103_11 ci_4 ?_
  refine ev_icmpF (tgt := 134) d_103_12 rfl (show ¬ ((4 : Int32) ≤ (1 : Int32)) by decide) ?_
  refine ev_aload_n d_103_15 rfl ?_
  refine ev_iload d_103_16 rfl ?_
  refine ev_cvI (As := [.int (1 : Int32)]) (t := []) (e' := 0) d_103_18 ml_7_171 rfl rfl rfl rfl rfl (by decide) rfl (ltk (by decide) hN) rfl rfl rfl (ev_m_works hN (1 : Int32) σ (vpi (by decide))) ?_
  refine ev_if_eq mmSV (tgt := 128) d_103_21 rfl (fun _h21 => ?_) (fun _h21 => ?_)
  · refine ev_iinc (lv' := [(5, .int (2 : Int32)), (0, .ref 42), (1, .int s), (2, .int d), (3, .long w)]) (v := (2 : Int32)) d_103_128 rfl (by decide) (by decide) rfl ?_
    refine ev_goto (tgt := 9) d_103_131 rfl ?_
    refine ev_sub (lv' := [(0, .ref 42), (1, .int s), (2, .int d), (3, .long w), (5, .int (2 : Int32))]) (by simp) ?_
    exact ev_m_tickA_L2 hN s d w σ (by first | exact hJ | exact jm_I (by decide) (jm_I (by decide) hJ) | exact jm_passes (vpi (by decide)) (jm_I (by decide) (jm_I (by decide) hJ)))
  · refine ev_aload_n d_103_24 rfl ?_
    refine ev_getf (v := .ref 45) d_103_25 fl_7_16 (ltk (by decide) hN) rfl rfl ?_
    refine ev_iload d_103_28 rfl ?_
    refine ev_aload_n d_103_30 rfl ?_
    refine ev_getf (v := .ref 45) d_103_31 fl_7_16 (ltk (by decide) hN) rfl rfl ?_
    refine ev_iload d_103_34 rfl ?_
    refine ev_iald (i := 1) d_103_36 (ltk (by decide) hN) rfl (vpi (by decide)) (by decide) ?_
    refine ev_sipush d_103_37 cs_1000 ?_
    refine ev_iadd (v := ((σ.1 45 1) + (1000 : Int32))) d_103_40 rfl ?_
    refine ev_aload_n d_103_41 rfl ?_
    refine ev_getf (v := .ref 43) d_103_42 fl_7_7 (ltk (by decide) hN) rfl rfl ?_
    refine ev_iload d_103_45 rfl ?_
    refine ev_iald (i := 1) d_103_47 (ltk (by decide) hN) rfl (vpi (by decide)) (by decide) ?_
    refine ev_isub (v := (((σ.1 45 1) + (1000 : Int32)) - (σ.1 43 1))) d_103_48 rfl ?_
    refine ev_iastore (i := 1) d_103_49 (ltk (by decide) hN) rfl (vpi (by decide)) (by decide) ?_
    refine ev_aload_n d_103_50 rfl ?_
    refine ev_getf (v := .ref 45) d_103_51 fl_7_16 (ltk (by decide) hN) rfl rfl ?_
    refine ev_iload d_103_54 rfl ?_
    refine ev_iald (i := 1) d_103_56 (ltk (by decide) hN) rfl (vpi (by decide)) (by decide) ?_
    show Ev N L xs (103, 57, [(0, .ref 42), (1, .int s), (2, .int d), (3, .long w), (5, .int (1 : Int32))], [.int (((σ.1 45 1) + (1000 : Int32)) - (σ.1 43 1))], 0, (mmI σ 45 1 (((σ.1 45 1) + (1000 : Int32)) - (σ.1 43 1)))) _
    refine ev_sipush d_103_57 cs_1000 ?_
    refine ev_icmp_lt mmSV (tgt := 67) d_103_60 rfl (fun _h60 => ?_) (fun _h60 => ?_)
    · refine ev_iconst d_103_67 ci_0 ?_
      refine ev_istore (lv' := [(6, .int (0 : Int32)), (0, .ref 42), (1, .int s), (2, .int d), (3, .long w), (5, .int (1 : Int32))]) d_103_68 (by decide) rfl ?_
      refine ev_aload_n d_103_70 rfl ?_
      refine ev_getf (v := .ref 45) d_103_71 fl_7_16 (ltk (by decide) hN) rfl rfl ?_
      refine ev_iload d_103_74 rfl ?_
      refine ev_iload d_103_76 rfl ?_
      refine ev_ifT (tgt := 95) d_103_78 rfl (show (0 : Int32) = (0 : Int32) by decide) ?_
      refine ev_aload_n d_103_95 rfl ?_
      refine ev_getf (v := .ref 45) d_103_96 fl_7_16 (ltk (by decide) hN) rfl rfl ?_
      refine ev_iload d_103_99 rfl ?_
      refine ev_iald (i := 1) d_103_101 (ltk (by decide) hN) rfl (vpi (by decide)) (by decide) ?_
      show Ev N L xs (103, 102, [(6, .int (0 : Int32)), (0, .ref 42), (1, .int s), (2, .int d), (3, .long w), (5, .int (1 : Int32))], [.int (((σ.1 45 1) + (1000 : Int32)) - (σ.1 43 1)), .int (1 : Int32), .ref 45], 0, (mmI σ 45 1 (((σ.1 45 1) + (1000 : Int32)) - (σ.1 43 1)))) _
      refine ev_iastore (i := 1) d_103_102 (ltk (by decide) hN) rfl (vpi (by decide)) (by decide) ?_
      refine ev_iload d_103_103 rfl ?_
      refine ev_ifT (tgt := 128) d_103_105 rfl (show (0 : Int32) = (0 : Int32) by decide) ?_
      refine ev_iinc (lv' := [(5, .int (2 : Int32)), (6, .int (0 : Int32)), (0, .ref 42), (1, .int s), (2, .int d), (3, .long w)]) (v := (2 : Int32)) d_103_128 rfl (by decide) (by decide) rfl ?_
      refine ev_goto (tgt := 9) d_103_131 rfl ?_
      refine ev_sub (lv' := [(0, .ref 42), (1, .int s), (2, .int d), (3, .long w), (5, .int (2 : Int32))]) (by simp) ?_
      exact ev_m_tickA_L2 hN s d w (mmI (mmI σ 45 1 (((σ.1 45 1) + (1000 : Int32)) - (σ.1 43 1))) 45 1 (((σ.1 45 1) + (1000 : Int32)) - (σ.1 43 1))) (by first | exact hJ | exact jm_I (by decide) (jm_I (by decide) hJ) | exact jm_passes (vpi (by decide)) (jm_I (by decide) (jm_I (by decide) hJ)))
    · refine ev_iconst d_103_63 ci_1 ?_
      refine ev_goto (tgt := 68) d_103_64 rfl ?_
      refine ev_istore (lv' := [(6, .int (1 : Int32)), (0, .ref 42), (1, .int s), (2, .int d), (3, .long w), (5, .int (1 : Int32))]) d_103_68 (by decide) rfl ?_
      refine ev_aload_n d_103_70 rfl ?_
      refine ev_getf (v := .ref 45) d_103_71 fl_7_16 (ltk (by decide) hN) rfl rfl ?_
      refine ev_iload d_103_74 rfl ?_
      refine ev_iload d_103_76 rfl ?_
      refine ev_ifF (tgt := 95) d_103_78 rfl (show ¬ ((1 : Int32) = (0 : Int32)) by decide) ?_
      refine ev_aload_n d_103_81 rfl ?_
      refine ev_getf (v := .ref 45) d_103_82 fl_7_16 (ltk (by decide) hN) rfl rfl ?_
      refine ev_iload d_103_85 rfl ?_
      refine ev_iald (i := 1) d_103_87 (ltk (by decide) hN) rfl (vpi (by decide)) (by decide) ?_
      show Ev N L xs (103, 88, [(6, .int (1 : Int32)), (0, .ref 42), (1, .int s), (2, .int d), (3, .long w), (5, .int (1 : Int32))], [.int (((σ.1 45 1) + (1000 : Int32)) - (σ.1 43 1)), .int (1 : Int32), .ref 45], 0, (mmI σ 45 1 (((σ.1 45 1) + (1000 : Int32)) - (σ.1 43 1)))) _
      refine ev_sipush d_103_88 cs_1000 ?_
      refine ev_isub (v := ((((σ.1 45 1) + (1000 : Int32)) - (σ.1 43 1)) - (1000 : Int32))) d_103_91 rfl ?_
      refine ev_goto (tgt := 102) d_103_92 rfl ?_
      refine ev_iastore (i := 1) d_103_102 (ltk (by decide) hN) rfl (vpi (by decide)) (by decide) ?_
      refine ev_iload d_103_103 rfl ?_
      refine ev_ifF (tgt := 128) d_103_105 rfl (show ¬ ((1 : Int32) = (0 : Int32)) by decide) ?_
      refine ev_aload_n d_103_108 rfl ?_
      refine ev_iload d_103_109 rfl ?_
      refine ev_cvI (As := [.int (1 : Int32)]) (t := []) (e' := 0) d_103_111 ml_7_174 rfl rfl rfl rfl rfl (by decide) rfl (ltk (by decide) hN) rfl rfl rfl (ev_m_passes hN (1 : Int32) (mmI (mmI σ 45 1 (((σ.1 45 1) + (1000 : Int32)) - (σ.1 43 1))) 45 1 ((((σ.1 45 1) + (1000 : Int32)) - (σ.1 43 1)) - (1000 : Int32))) (vpi (by decide)) (by first | exact hJ | exact jm_I (by decide) hJ | exact jm_I (by decide) (jm_I (by decide) hJ))) ?_
      refine ev_if_eq mmSV (tgt := 128) d_103_114 rfl (fun _h114 => ?_) (fun _h114 => ?_)
      · refine ev_iinc (lv' := [(5, .int (2 : Int32)), (6, .int (1 : Int32)), (0, .ref 42), (1, .int s), (2, .int d), (3, .long w)]) (v := (2 : Int32)) d_103_128 rfl (by decide) (by decide) rfl ?_
        refine ev_goto (tgt := 9) d_103_131 rfl ?_
        refine ev_sub (lv' := [(0, .ref 42), (1, .int s), (2, .int d), (3, .long w), (5, .int (2 : Int32))]) (by simp) ?_
        exact ev_m_tickA_L2 hN s d w ((sp_m_passes (1 : Int32) (mmI (mmI σ 45 1 (((σ.1 45 1) + (1000 : Int32)) - (σ.1 43 1))) 45 1 ((((σ.1 45 1) + (1000 : Int32)) - (σ.1 43 1)) - (1000 : Int32)))).2) (by first | exact hJ | exact jm_I (by decide) (jm_I (by decide) hJ) | exact jm_passes (vpi (by decide)) (jm_I (by decide) (jm_I (by decide) hJ)))
      · refine ev_iinc (lv' := [(1, .int (s + Int32.ofInt (1))), (6, .int (1 : Int32)), (0, .ref 42), (2, .int d), (3, .long w), (5, .int (1 : Int32))]) (v := (s + Int32.ofInt (1))) d_103_117 rfl rfl (by decide) rfl ?_
        refine ev_iload d_103_120 rfl ?_
        refine ev_istore_n (lv' := [(2, .int (1 : Int32)), (1, .int (s + Int32.ofInt (1))), (6, .int (1 : Int32)), (0, .ref 42), (3, .long w), (5, .int (1 : Int32))]) d_103_122 (by decide) rfl ?_
        refine ev_aload_n d_103_123 rfl ?_
        refine ev_getf (v := .long (((sp_m_passes (1 : Int32) (mmI (mmI σ 45 1 (((σ.1 45 1) + (1000 : Int32)) - (σ.1 43 1))) 45 1 ((((σ.1 45 1) + (1000 : Int32)) - (σ.1 43 1)) - (1000 : Int32)))).2).2 42 23)) d_103_124 fl_7_135 (ltk (by decide) hN) rfl rfl ?_
        refine ev_lstore_n (lv' := [(3, .long (((sp_m_passes (1 : Int32) (mmI (mmI σ 45 1 (((σ.1 45 1) + (1000 : Int32)) - (σ.1 43 1))) 45 1 ((((σ.1 45 1) + (1000 : Int32)) - (σ.1 43 1)) - (1000 : Int32)))).2).2 42 23)), (2, .int (1 : Int32)), (1, .int (s + Int32.ofInt (1))), (6, .int (1 : Int32)), (0, .ref 42), (5, .int (1 : Int32))]) d_103_127 (by decide) rfl ?_
        refine ev_iinc (lv' := [(5, .int (2 : Int32)), (3, .long (((sp_m_passes (1 : Int32) (mmI (mmI σ 45 1 (((σ.1 45 1) + (1000 : Int32)) - (σ.1 43 1))) 45 1 ((((σ.1 45 1) + (1000 : Int32)) - (σ.1 43 1)) - (1000 : Int32)))).2).2 42 23)), (2, .int (1 : Int32)), (1, .int (s + Int32.ofInt (1))), (6, .int (1 : Int32)), (0, .ref 42)]) (v := (2 : Int32)) d_103_128 rfl (by decide) (by decide) rfl ?_
        refine ev_goto (tgt := 9) d_103_131 rfl ?_
        refine ev_sub (lv' := [(0, .ref 42), (1, .int (s + Int32.ofInt (1))), (2, .int (1 : Int32)), (3, .long (((sp_m_passes (1 : Int32) (mmI (mmI σ 45 1 (((σ.1 45 1) + (1000 : Int32)) - (σ.1 43 1))) 45 1 ((((σ.1 45 1) + (1000 : Int32)) - (σ.1 43 1)) - (1000 : Int32)))).2).2 42 23)), (5, .int (2 : Int32))]) (by simp) ?_
        exact ev_m_tickA_L2 hN (s + Int32.ofInt (1)) (1 : Int32) (((sp_m_passes (1 : Int32) (mmI (mmI σ 45 1 (((σ.1 45 1) + (1000 : Int32)) - (σ.1 43 1))) 45 1 ((((σ.1 45 1) + (1000 : Int32)) - (σ.1 43 1)) - (1000 : Int32)))).2).2 42 23) ((sp_m_passes (1 : Int32) (mmI (mmI σ 45 1 (((σ.1 45 1) + (1000 : Int32)) - (σ.1 43 1))) 45 1 ((((σ.1 45 1) + (1000 : Int32)) - (σ.1 43 1)) - (1000 : Int32)))).2) (by first | exact hJ | exact jm_I (by decide) (jm_I (by decide) hJ) | exact jm_passes (vpi (by decide)) (jm_I (by decide) (jm_I (by decide) hJ)))
def sp_m_tickA_L0 (s : Int32) (d : Int32) (w : Int64) (σ : mmS) : mmS :=
if (sp_m_works (0 : Int32) σ) = 0 then
  (sp_m_tickA_L1 s d w σ)
else
  if (((σ.1 45 0) + (1000 : Int32)) - (σ.1 43 0)) < (1000 : Int32) then
    (sp_m_tickA_L1 s d w (mmI (mmI σ 45 0 (((σ.1 45 0) + (1000 : Int32)) - (σ.1 43 0))) 45 0 (((σ.1 45 0) + (1000 : Int32)) - (σ.1 43 0))))
  else
    if (sp_m_passes (0 : Int32) (mmI (mmI σ 45 0 (((σ.1 45 0) + (1000 : Int32)) - (σ.1 43 0))) 45 0 ((((σ.1 45 0) + (1000 : Int32)) - (σ.1 43 0)) - (1000 : Int32)))).1 = 0 then
      (sp_m_tickA_L1 s d w ((sp_m_passes (0 : Int32) (mmI (mmI σ 45 0 (((σ.1 45 0) + (1000 : Int32)) - (σ.1 43 0))) 45 0 ((((σ.1 45 0) + (1000 : Int32)) - (σ.1 43 0)) - (1000 : Int32)))).2))
    else
      (sp_m_tickA_L1 (s + Int32.ofInt (1)) (0 : Int32) (((sp_m_passes (0 : Int32) (mmI (mmI σ 45 0 (((σ.1 45 0) + (1000 : Int32)) - (σ.1 43 0))) 45 0 ((((σ.1 45 0) + (1000 : Int32)) - (σ.1 43 0)) - (1000 : Int32)))).2).2 42 23) ((sp_m_passes (0 : Int32) (mmI (mmI σ 45 0 (((σ.1 45 0) + (1000 : Int32)) - (σ.1 43 0))) 45 0 ((((σ.1 45 0) + (1000 : Int32)) - (σ.1 43 0)) - (1000 : Int32)))).2))
theorem ev_m_tickA_L0 (hN : 65 ≤ N) (s : Int32) (d : Int32) (w : Int64) (σ : mmS) (hJ : Jm σ) : Ev N L xs (103, 9, [(0, .ref 42), (1, .int s), (2, .int d), (3, .long w), (5, .int (0 : Int32))], [], 0, σ) (mmSV (sp_m_tickA_L0 s d w σ)) := by
  unfold sp_m_tickA_L0
  refine ev_iload d_103_9 rfl ?_
  refine ev_iconst d_103_11 ci_4 ?_
  refine ev_icmpF (tgt := 134) d_103_12 rfl (show ¬ ((4 : Int32) ≤ (0 : Int32)) by decide) ?_
  refine ev_aload_n d_103_15 rfl ?_
  refine ev_iload d_103_16 rfl ?_
  refine ev_cvI (As := [.int (0 : Int32)]) (t := []) (e' := 0) d_103_18 ml_7_171 rfl rfl rfl rfl rfl (by decide) rfl (ltk (by decide) hN) rfl rfl rfl (ev_m_works hN (0 : Int32) σ (vpi (by decide))) ?_
  refine ev_if_eq mmSV (tgt := 128) d_103_21 rfl (fun _h21 => ?_) (fun _h21 => ?_)
  · refine ev_iinc (lv' := [(5, .int (1 : Int32)), (0, .ref 42), (1, .int s), (2, .int d), (3, .long w)]) (v := (1 : Int32)) d_103_128 rfl (by decide) (by decide) rfl ?_
    refine ev_goto (tgt := 9) d_103_131 rfl ?_
    refine ev_sub (lv' := [(0, .ref 42), (1, .int s), (2, .int d), (3, .long w), (5, .int (1 : Int32))]) (by simp) ?_
    exact ev_m_tickA_L1 hN s d w σ (by first | exact hJ | exact jm_I (by decide) (jm_I (by decide) hJ) | exact jm_passes (vpi (by decide)) (jm_I (by decide) (jm_I (by decide) hJ)))
  · refine ev_aload_n d_103_24 rfl ?_
    refine ev_getf (v := .ref 45) d_103_25 fl_7_16 (ltk (by decide) hN) rfl rfl ?_
    refine ev_iload d_103_28 rfl ?_
    refine ev_aload_n d_103_30 rfl ?_
    refine ev_getf (v := .ref 45) d_103_31 fl_7_16 (ltk (by decide) hN) rfl rfl ?_
    refine ev_iload d_103_34 rfl ?_
    refine ev_iald (i := 0) d_103_36 (ltk (by decide) hN) rfl (vpi (by decide)) (by decide) ?_
    refine ev_sipush d_103_37 cs_1000 ?_
    refine ev_iadd (v := ((σ.1 45 0) + (1000 : Int32))) d_103_40 rfl ?_
    refine ev_aload_n d_103_41 rfl ?_
    refine ev_getf (v := .ref 43) d_103_42 fl_7_7 (ltk (by decide) hN) rfl rfl ?_
    refine ev_iload d_103_45 rfl ?_
    refine ev_iald (i := 0) d_103_47 (ltk (by decide) hN) rfl (vpi (by decide)) (by decide) ?_
    refine ev_isub (v := (((σ.1 45 0) + (1000 : Int32)) - (σ.1 43 0))) d_103_48 rfl ?_
    refine ev_iastore (i := 0) d_103_49 (ltk (by decide) hN) rfl (vpi (by decide)) (by decide) ?_
    refine ev_aload_n d_103_50 rfl ?_
    refine ev_getf (v := .ref 45) d_103_51 fl_7_16 (ltk (by decide) hN) rfl rfl ?_
    refine ev_iload d_103_54 rfl ?_
    refine ev_iald (i := 0) d_103_56 (ltk (by decide) hN) rfl (vpi (by decide)) (by decide) ?_
    show Ev N L xs (103, 57, [(0, .ref 42), (1, .int s), (2, .int d), (3, .long w), (5, .int (0 : Int32))], [.int (((σ.1 45 0) + (1000 : Int32)) - (σ.1 43 0))], 0, (mmI σ 45 0 (((σ.1 45 0) + (1000 : Int32)) - (σ.1 43 0)))) _
    refine ev_sipush d_103_57 cs_1000 ?_
    refine ev_icmp_lt mmSV (tgt := 67) d_103_60 rfl (fun _h60 => ?_) (fun _h60 => ?_)
    · refine ev_iconst d_103_67 ci_0 ?_
      refine ev_istore (lv' := [(6, .int (0 : Int32)), (0, .ref 42), (1, .int s), (2, .int d), (3, .long w), (5, .int (0 : Int32))]) d_103_68 (by decide) rfl ?_
      refine ev_aload_n d_103_70 rfl ?_
      refine ev_getf (v := .ref 45) d_103_71 fl_7_16 (ltk (by decide) hN) rfl rfl ?_
      refine ev_iload d_103_74 rfl ?_
      refine ev_iload d_103_76 rfl ?_
      refine ev_ifT (tgt := 95) d_103_78 rfl (show (0 : Int32) = (0 : Int32) by decide) ?_
      refine ev_aload_n d_103_95 rfl ?_
      refine ev_getf (v := .ref 45) d_103_96 fl_7_16 (ltk (by decide) hN) rfl rfl ?_
      refine ev_iload d_103_99 rfl ?_
      refine ev_iald (i := 0) d_103_101 (ltk (by decide) hN) rfl (vpi (by decide)) (by decide) ?_
      show Ev N L xs (103, 102, [(6, .int (0 : Int32)), (0, .ref 42), (1, .int s), (2, .int d), (3, .long w), (5, .int (0 : Int32))], [.int (((σ.1 45 0) + (1000 : Int32)) - (σ.1 43 0)), .int (0 : Int32), .ref 45], 0, (mmI σ 45 0 (((σ.1 45 0) + (1000 : Int32)) - (σ.1 43 0)))) _
      refine ev_iastore (i := 0) d_103_102 (ltk (by decide) hN) rfl (vpi (by decide)) (by decide) ?_
      refine ev_iload d_103_103 rfl ?_
      refine ev_ifT (tgt := 128) d_103_105 rfl (show (0 : Int32) = (0 : Int32) by decide) ?_
      refine ev_iinc (lv' := [(5, .int (1 : Int32)), (6, .int (0 : Int32)), (0, .ref 42), (1, .int s), (2, .int d), (3, .long w)]) (v := (1 : Int32)) d_103_128 rfl (by decide) (by decide) rfl ?_
      refine ev_goto (tgt := 9) d_103_131 rfl ?_
      refine ev_sub (lv' := [(0, .ref 42), (1, .int s), (2, .int d), (3, .long w), (5, .int (1 : Int32))]) (by simp) ?_
      exact ev_m_tickA_L1 hN s d w (mmI (mmI σ 45 0 (((σ.1 45 0) + (1000 : Int32)) - (σ.1 43 0))) 45 0 (((σ.1 45 0) + (1000 : Int32)) - (σ.1 43 0))) (by first | exact hJ | exact jm_I (by decide) (jm_I (by decide) hJ) | exact jm_passes (vpi (by decide)) (jm_I (by decide) (jm_I (by decide) hJ)))
    · refine ev_iconst d_103_63 ci_1 ?_
      refine ev_goto (tgt := 68) d_103_64 rfl ?_
      refine ev_istore (lv' := [(6, .int (1 : Int32)), (0, .ref 42), (1, .int s), (2, .int d), (3, .long w), (5, .int (0 : Int32))]) d_103_68 (by decide) rfl ?_
      refine ev_aload_n d_103_70 rfl ?_
      refine ev_getf (v := .ref 45) d_103_71 fl_7_16 (ltk (by decide) hN) rfl rfl ?_
      refine ev_iload d_103_74 rfl ?_
      refine ev_iload d_103_76 rfl ?_
      refine ev_ifF (tgt := 95) d_103_78 rfl (show ¬ ((1 : Int32) = (0 : Int32)) by decide) ?_
      refine ev_aload_n d_103_81 rfl ?_
      refine ev_getf (v := .ref 45) d_103_82 fl_7_16 (ltk (by decide) hN) rfl rfl ?_
      refine ev_iload d_103_85 rfl ?_
      refine ev_iald (i := 0) d_103_87 (ltk (by decide) hN) rfl (vpi (by decide)) (by decide) ?_
      show Ev N L xs (103, 88, [(6, .int (1 : Int32)), (0, .ref 42), (1, .int s), (2, .int d), (3, .long w), (5, .int (0 : Int32))], [.int (((σ.1 45 0) + (1000 : Int32)) - (σ.1 43 0)), .int (0 : Int32), .ref 45], 0, (mmI σ 45 0 (((σ.1 45 0) + (1000 : Int32)) - (σ.1 43 0)))) _
      refine ev_sipush d_103_88 cs_1000 ?_
      refine ev_isub (v := ((((σ.1 45 0) + (1000 : Int32)) - (σ.1 43 0)) - (1000 : Int32))) d_103_91 rfl ?_
      refine ev_goto (tgt := 102) d_103_92 rfl ?_
      refine ev_iastore (i := 0) d_103_102 (ltk (by decide) hN) rfl (vpi (by decide)) (by decide) ?_
      refine ev_iload d_103_103 rfl ?_
      refine ev_ifF (tgt := 128) d_103_105 rfl (show ¬ ((1 : Int32) = (0 : Int32)) by decide) ?_
      refine ev_aload_n d_103_108 rfl ?_
      refine ev_iload d_103_109 rfl ?_
      refine ev_cvI (As := [.int (0 : Int32)]) (t := []) (e' := 0) d_103_111 ml_7_174 rfl rfl rfl rfl rfl (by decide) rfl (ltk (by decide) hN) rfl rfl rfl (ev_m_passes hN (0 : Int32) (mmI (mmI σ 45 0 (((σ.1 45 0) + (1000 : Int32)) - (σ.1 43 0))) 45 0 ((((σ.1 45 0) + (1000 : Int32)) - (σ.1 43 0)) - (1000 : Int32))) (vpi (by decide)) (by first | exact hJ | exact jm_I (by decide) hJ | exact jm_I (by decide) (jm_I (by decide) hJ))) ?_
      refine ev_if_eq mmSV (tgt := 128) d_103_114 rfl (fun _h114 => ?_) (fun _h114 => ?_)
      · refine ev_iinc (lv' := [(5, .int (1 : Int32)), (6, .int (1 : Int32)), (0, .ref 42), (1, .int s), (2, .int d), (3, .long w)]) (v := (1 : Int32)) d_103_128 rfl (by decide) (by decide) rfl ?_
        refine ev_goto (tgt := 9) d_103_131 rfl ?_
        refine ev_sub (lv' := [(0, .ref 42), (1, .int s), (2, .int d), (3, .long w), (5, .int (1 : Int32))]) (by simp) ?_
        exact ev_m_tickA_L1 hN s d w ((sp_m_passes (0 : Int32) (mmI (mmI σ 45 0 (((σ.1 45 0) + (1000 : Int32)) - (σ.1 43 0))) 45 0 ((((σ.1 45 0) + (1000 : Int32)) - (σ.1 43 0)) - (1000 : Int32)))).2) (by first | exact hJ | exact jm_I (by decide) (jm_I (by decide) hJ) | exact jm_passes (vpi (by decide)) (jm_I (by decide) (jm_I (by decide) hJ)))
      · refine ev_iinc (lv' := [(1, .int (s + Int32.ofInt (1))), (6, .int (1 : Int32)), (0, .ref 42), (2, .int d), (3, .long w), (5, .int (0 : Int32))]) (v := (s + Int32.ofInt (1))) d_103_117 rfl rfl (by decide) rfl ?_
        refine ev_iload d_103_120 rfl ?_
        refine ev_istore_n (lv' := [(2, .int (0 : Int32)), (1, .int (s + Int32.ofInt (1))), (6, .int (1 : Int32)), (0, .ref 42), (3, .long w), (5, .int (0 : Int32))]) d_103_122 (by decide) rfl ?_
        refine ev_aload_n d_103_123 rfl ?_
        refine ev_getf (v := .long (((sp_m_passes (0 : Int32) (mmI (mmI σ 45 0 (((σ.1 45 0) + (1000 : Int32)) - (σ.1 43 0))) 45 0 ((((σ.1 45 0) + (1000 : Int32)) - (σ.1 43 0)) - (1000 : Int32)))).2).2 42 23)) d_103_124 fl_7_135 (ltk (by decide) hN) rfl rfl ?_
        refine ev_lstore_n (lv' := [(3, .long (((sp_m_passes (0 : Int32) (mmI (mmI σ 45 0 (((σ.1 45 0) + (1000 : Int32)) - (σ.1 43 0))) 45 0 ((((σ.1 45 0) + (1000 : Int32)) - (σ.1 43 0)) - (1000 : Int32)))).2).2 42 23)), (2, .int (0 : Int32)), (1, .int (s + Int32.ofInt (1))), (6, .int (1 : Int32)), (0, .ref 42), (5, .int (0 : Int32))]) d_103_127 (by decide) rfl ?_
        refine ev_iinc (lv' := [(5, .int (1 : Int32)), (3, .long (((sp_m_passes (0 : Int32) (mmI (mmI σ 45 0 (((σ.1 45 0) + (1000 : Int32)) - (σ.1 43 0))) 45 0 ((((σ.1 45 0) + (1000 : Int32)) - (σ.1 43 0)) - (1000 : Int32)))).2).2 42 23)), (2, .int (0 : Int32)), (1, .int (s + Int32.ofInt (1))), (6, .int (1 : Int32)), (0, .ref 42)]) (v := (1 : Int32)) d_103_128 rfl (by decide) (by decide) rfl ?_
        refine ev_goto (tgt := 9) d_103_131 rfl ?_
        refine ev_sub (lv' := [(0, .ref 42), (1, .int (s + Int32.ofInt (1))), (2, .int (0 : Int32)), (3, .long (((sp_m_passes (0 : Int32) (mmI (mmI σ 45 0 (((σ.1 45 0) + (1000 : Int32)) - (σ.1 43 0))) 45 0 ((((σ.1 45 0) + (1000 : Int32)) - (σ.1 43 0)) - (1000 : Int32)))).2).2 42 23)), (5, .int (1 : Int32))]) (by simp) ?_
        exact ev_m_tickA_L1 hN (s + Int32.ofInt (1)) (0 : Int32) (((sp_m_passes (0 : Int32) (mmI (mmI σ 45 0 (((σ.1 45 0) + (1000 : Int32)) - (σ.1 43 0))) 45 0 ((((σ.1 45 0) + (1000 : Int32)) - (σ.1 43 0)) - (1000 : Int32)))).2).2 42 23) ((sp_m_passes (0 : Int32) (mmI (mmI σ 45 0 (((σ.1 45 0) + (1000 : Int32)) - (σ.1 43 0))) 45 0 ((((σ.1 45 0) + (1000 : Int32)) - (σ.1 43 0)) - (1000 : Int32)))).2) (by first | exact hJ | exact jm_I (by decide) (jm_I (by decide) hJ) | exact jm_passes (vpi (by decide)) (jm_I (by decide) (jm_I (by decide) hJ)))
def sp_m_tick (σ : mmS) : mmS :=
(sp_m_tickA_L0 (0 : Int32) (-1 : Int32) (0 : Int64) σ)
theorem ev_m_tick (hN : 65 ≤ N) (σ : mmS) (hJ : Jm σ) : Ev N L xs (103, 0, lv_args 0 [.ref 42], [], 0, σ) (mmSV (sp_m_tick σ)) := by
  unfold sp_m_tick
  show Ev N L xs (103, 0, [(0, .ref 42)], [], 0, σ) _
  refine ev_iconst d_103_0 ci_0 ?_
  refine ev_istore_n (lv' := [(1, .int (0 : Int32)), (0, .ref 42)]) d_103_1 (by decide) rfl ?_
  refine ev_iconst d_103_2 ci_m1 ?_
  refine ev_istore_n (lv' := [(2, .int (-1 : Int32)), (1, .int (0 : Int32)), (0, .ref 42)]) d_103_3 (by decide) rfl ?_
  refine ev_lconst d_103_4 rfl ?_
  refine ev_lstore_n (lv' := [(3, .long (0 : Int64)), (2, .int (-1 : Int32)), (1, .int (0 : Int32)), (0, .ref 42)]) d_103_5 (by decide) rfl ?_
  refine ev_iconst d_103_6 ci_0 ?_
  refine ev_istore (lv' := [(5, .int (0 : Int32)), (3, .long (0 : Int64)), (2, .int (-1 : Int32)), (1, .int (0 : Int32)), (0, .ref 42)]) d_103_7 (by decide) rfl ?_
  refine ev_sub (lv' := [(0, .ref 42), (1, .int (0 : Int32)), (2, .int (-1 : Int32)), (3, .long (0 : Int64)), (5, .int (0 : Int32))]) (by simp) ?_
  exact ev_m_tickA_L0 hN (0 : Int32) (-1 : Int32) (0 : Int64) σ hJ
theorem jm_m_tickB_L4 {σ : mmS} {d : Int32} (hJ : Jm σ) : Jm (sp_m_tickB_L4 d σ) := by
  unfold sp_m_tickB_L4
  repeat' (with_reducible first | exact hJ | split)
theorem jm_m_tickB_L3 {σ : mmS} {d : Int32} (hJ : Jm σ) : Jm (sp_m_tickB_L3 d σ) := by
  unfold sp_m_tickB_L3
  repeat' (with_reducible first | exact hJ | exact jm_m_tickB_L4 hJ | exact jm_m_tickB_L4 (jm_hear hJ) | split)
theorem jm_m_tickB_L2 {σ : mmS} {d : Int32} (hJ : Jm σ) : Jm (sp_m_tickB_L2 d σ) := by
  unfold sp_m_tickB_L2
  repeat' (with_reducible first | exact hJ | exact jm_m_tickB_L3 hJ | exact jm_m_tickB_L3 (jm_hear hJ) | split)
theorem jm_m_tickB_L1 {σ : mmS} {d : Int32} (hJ : Jm σ) : Jm (sp_m_tickB_L1 d σ) := by
  unfold sp_m_tickB_L1
  repeat' (with_reducible first | exact hJ | exact jm_m_tickB_L2 hJ | exact jm_m_tickB_L2 (jm_hear hJ) | split)
theorem jm_m_tickB_L0 {σ : mmS} {d : Int32} (hJ : Jm σ) : Jm (sp_m_tickB_L0 d σ) := by
  unfold sp_m_tickB_L0
  repeat' (with_reducible first | exact hJ | exact jm_m_tickB_L1 hJ | exact jm_m_tickB_L1 (jm_hear hJ) | split)
theorem jm_m_tickA_L4 {σ : mmS} {s d : Int32} {w : Int64} (hJ : Jm σ) : Jm (sp_m_tickA_L4 s d w σ) := by
  unfold sp_m_tickA_L4
  repeat' (with_reducible first | exact jm_I (by decide) hJ | exact jm_I (by decide) (jm_J (jm_I (by decide) (jm_J (jm_I (by decide) hJ)))) | exact jm_m_tickB_L0 (jm_J (jm_I (by decide) (jm_J (jm_I (by decide) hJ)))) | split)
theorem jm_m_tickA_L3 {σ : mmS} {s d : Int32} {w : Int64} (hJ : Jm σ) : Jm (sp_m_tickA_L3 s d w σ) := by
  unfold sp_m_tickA_L3
  repeat' (with_reducible first | exact jm_m_tickA_L4 hJ | exact jm_m_tickA_L4 (jm_I (by decide) (jm_I (by decide) hJ)) | exact jm_m_tickA_L4 (jm_passes (vpi (by decide)) (jm_I (by decide) (jm_I (by decide) hJ))) | split)
theorem jm_m_tickA_L2 {σ : mmS} {s d : Int32} {w : Int64} (hJ : Jm σ) : Jm (sp_m_tickA_L2 s d w σ) := by
  unfold sp_m_tickA_L2
  repeat' (with_reducible first | exact jm_m_tickA_L3 hJ | exact jm_m_tickA_L3 (jm_I (by decide) (jm_I (by decide) hJ)) | exact jm_m_tickA_L3 (jm_passes (vpi (by decide)) (jm_I (by decide) (jm_I (by decide) hJ))) | split)
theorem jm_m_tickA_L1 {σ : mmS} {s d : Int32} {w : Int64} (hJ : Jm σ) : Jm (sp_m_tickA_L1 s d w σ) := by
  unfold sp_m_tickA_L1
  repeat' (with_reducible first | exact jm_m_tickA_L2 hJ | exact jm_m_tickA_L2 (jm_I (by decide) (jm_I (by decide) hJ)) | exact jm_m_tickA_L2 (jm_passes (vpi (by decide)) (jm_I (by decide) (jm_I (by decide) hJ))) | split)
theorem jm_m_tickA_L0 {σ : mmS} {s d : Int32} {w : Int64} (hJ : Jm σ) : Jm (sp_m_tickA_L0 s d w σ) := by
  unfold sp_m_tickA_L0
  repeat' (with_reducible first | exact jm_m_tickA_L1 hJ | exact jm_m_tickA_L1 (jm_I (by decide) (jm_I (by decide) hJ)) | exact jm_m_tickA_L1 (jm_passes (vpi (by decide)) (jm_I (by decide) (jm_I (by decide) hJ))) | split)
theorem jm_tick {σ : mmS} (hJ : Jm σ) : Jm (sp_m_tick σ) := by
  unfold sp_m_tick
  exact jm_m_tickA_L0 hJ
def runM : Nat → mmS → mmS
  | 0, σ => σ
  | n + 1, σ => runM n (sp_m_tick σ)
theorem jm_run : ∀ (n : Nat) {σ : mmS}, Jm σ → Jm (runM n σ)
  | 0, _, h => h
  | n + 1, _, h => jm_run n (jm_tick h)
theorem ev_m_run_30 (hN : 65 ≤ N) (b : Int32) (n : Nat) (hn : n < 201) : ∀ d i, i + d = n → ∀ σ : mmS, Jm σ → Ev N L xs (102, 30, [(0, .ref 42), (1, .int (Int32.ofNat n)), (2, .int b), (3, .int (Int32.ofNat i))], [], 0, σ) (mmSI ((runM d σ).1 42 22 - b, runM d σ))
  | 0, i, h, σ, _ => by
    have hi : i = n := by omega
    subst hi
    refine ev_iload_n d_102_30 rfl ?_
    refine ev_iload_n d_102_31 rfl ?_
    refine ev_icmpT (tgt := 45) d_102_32 rfl (show Int32.ofNat i ≤ Int32.ofNat i from Int32.le_refl _) ?_
    refine ev_aload_n d_102_45 rfl ?_
    refine ev_getf (v := .int (σ.1 42 22)) d_102_46 fl_7_177 (ltk (by decide) hN) rfl rfl ?_
    refine ev_iload_n d_102_49 rfl ?_
    refine ev_isub (v := σ.1 42 22 - b) d_102_50 rfl ?_
    exact ev_iret d_102_51 rfl
  | d + 1, i, h, σ, hJ => by
    obtain ⟨e1, e2, e3, e4⟩ := nat_s2 i (by omega)
    obtain ⟨f1, f2, f3, f4⟩ := nat_s2 n (by omega)
    refine ev_iload_n d_102_30 rfl ?_
    refine ev_iload_n d_102_31 rfl ?_
    refine ev_icmpF (tgt := 45) d_102_32 rfl (show ¬ Int32.ofNat n ≤ Int32.ofNat i by rw [Int32.le_iff_toInt_le, e4, f4]; omega) ?_
    refine ev_aload_n d_102_35 rfl ?_
    refine ev_cvV (As := []) (t := []) (e' := 0) d_102_36 ml_7_205 rfl rfl rfl rfl rfl (by decide) rfl (ltk (by decide) hN) rfl rfl rfl (ev_m_tick hN σ hJ) ?_
    refine ev_iinc (lv' := [(3, .int (Int32.ofNat (i + 1))), (0, .ref 42), (1, .int (Int32.ofNat n)), (2, .int b)]) (v := Int32.ofNat (i + 1)) d_102_39 rfl e3 (by decide) rfl ?_
    refine ev_goto (tgt := 30) d_102_42 rfl ?_
    refine ev_sub (lv' := [(0, .ref 42), (1, .int (Int32.ofNat n)), (2, .int b), (3, .int (Int32.ofNat (i + 1)))]) (by simp) ?_
    exact ev_m_run_30 hN b n hn d (i + 1) (by omega) _ (jm_tick hJ)
def sp_m_run (i1 : Int32) (σ : mmS) : Int32 × mmS :=
if i1 < (1 : Int32) then
  ((sp_m_fail (1 : Int32) (mmI σ 42 0 (0 : Int32))).1, (sp_m_fail (1 : Int32) (mmI σ 42 0 (0 : Int32))).2)
else
  if i1 ≤ (200 : Int32) then
    ((runM i1.toNatClampNeg (mmI σ 42 0 (0 : Int32))).1 42 22 - (σ.1 42 22), runM i1.toNatClampNeg (mmI σ 42 0 (0 : Int32)))
  else
    ((sp_m_fail (1 : Int32) (mmI σ 42 0 (0 : Int32))).1, (sp_m_fail (1 : Int32) (mmI σ 42 0 (0 : Int32))).2)
theorem ev_m_run (hN : 65 ≤ N) (i1 : Int32) (σ : mmS) (hJ : Jm σ) : Ev N L xs (102, 0, lv_args 0 [.ref 42, .int i1], [], 0, σ) (mmSI (sp_m_run i1 σ)) := by
  unfold sp_m_run
  show Ev N L xs (102, 0, [(0, .ref 42), (1, .int i1)], [], 0, σ) _
  refine ev_aload_n d_102_0 rfl ?_
  refine ev_iconst d_102_1 ci_0 ?_
  refine ev_putf d_102_2 fl_7_81 (ltk (by decide) hN) rfl rfl (Or.inl rfl) ?_
  refine ev_iload_n d_102_5 rfl ?_
  refine ev_iconst d_102_6 ci_1 ?_
  refine ev_icmp_lt mmSI (tgt := 17) d_102_7 rfl (fun _h7 => ?_) (fun _h7 => ?_)
  · refine ev_aload_n d_102_17 rfl ?_
    refine ev_iconst d_102_18 ci_1 ?_
    refine ev_cvI (As := [.int (1 : Int32)]) (t := []) (e' := 0) d_102_19 ml_7_201 rfl rfl rfl rfl rfl (by decide) rfl (ltk (by decide) hN) rfl rfl rfl (ev_m_fail hN (1 : Int32) (mmI σ 42 0 (0 : Int32))) ?_
    exact ev_iret d_102_22 rfl
  · refine ev_iload_n d_102_10 rfl ?_
    refine ev_sipush d_102_11 cs_200 ?_
    refine ev_icmp_le mmSI (tgt := 23) d_102_14 rfl (fun _h14 => ?_) (fun _h14 => ?_)
    · refine ev_aload_n d_102_23 rfl ?_
      refine ev_getf (v := .int (σ.1 42 22)) d_102_24 fl_7_177 (ltk (by decide) hN) rfl rfl ?_
      refine ev_istore_n (lv' := [(2, .int (σ.1 42 22)), (0, .ref 42), (1, .int i1)]) d_102_27 (by decide) rfl ?_
      refine ev_iconst d_102_28 ci_0 ?_
      refine ev_istore_n (lv' := [(3, .int (0 : Int32)), (2, .int (σ.1 42 22)), (0, .ref 42), (1, .int i1)]) d_102_29 (by decide) rfl ?_
      refine ev_sub (lv' := [(0, .ref 42), (1, .int i1), (2, .int (σ.1 42 22)), (3, .int (0 : Int32))]) (by simp) ?_
      obtain ⟨n, hn, rfl⟩ := rn_of _h7 (by rw [Int32.not_lt]; assumption)
      rw [(nat_s2 n (by omega)).1]
      exact ev_m_run_30 hN _ n hn n 0 (by omega) _ (jm_I (by decide) hJ)
    · refine ev_aload_n d_102_17 rfl ?_
      refine ev_iconst d_102_18 ci_1 ?_
      refine ev_cvI (As := [.int (1 : Int32)]) (t := []) (e' := 0) d_102_19 ml_7_201 rfl rfl rfl rfl rfl (by decide) rfl (ltk (by decide) hN) rfl rfl rfl (ev_m_fail hN (1 : Int32) (mmI σ 42 0 (0 : Int32))) ?_
      exact ev_iret d_102_22 rfl
def sp_m_clock (a0 : Int32) (a1 : Int32) (σ : mmS) : Int32 × mmS :=
if (sp_m_out a0 (4 : Int32) (mmI σ 42 0 (0 : Int32))) = 0 then
  if (sp_m_out a1 (6 : Int32) (mmI σ 42 0 (0 : Int32))) = 0 then
    if (sp_m_works a0 (mmI σ 42 0 (0 : Int32))) = 0 then
      ((sp_m_fail (2 : Int32) (mmI σ 42 0 (0 : Int32))).1, (sp_m_fail (2 : Int32) (mmI σ 42 0 (0 : Int32))).2)
    else
      if (σ.1 44 a0.toNatClampNeg) = (1 : Int32) then
        ((sp_m_fail (2 : Int32) (mmI σ 42 0 (0 : Int32))).1, (sp_m_fail (2 : Int32) (mmI σ 42 0 (0 : Int32))).2)
      else
        if a1 = 0 then
          ((σ.1 49 a0.toNatClampNeg), (mmI σ 42 0 (0 : Int32)))
        else
          if a1 = 1 then
            ((σ.1 50 a0.toNatClampNeg), (mmI σ 42 0 (0 : Int32)))
          else
            if a1 = 2 then
              ((σ.1 51 a0.toNatClampNeg), (mmI σ 42 0 (0 : Int32)))
            else
              if a1 = 3 then
                ((σ.1 52 a0.toNatClampNeg), (mmI σ 42 0 (0 : Int32)))
              else
                if a1 = 4 then
                  ((σ.1 54 a0.toNatClampNeg), (mmI σ 42 0 (0 : Int32)))
                else
                  ((σ.1 55 a0.toNatClampNeg), (mmI σ 42 0 (0 : Int32)))
  else
    ((sp_m_fail (1 : Int32) (mmI σ 42 0 (0 : Int32))).1, (sp_m_fail (1 : Int32) (mmI σ 42 0 (0 : Int32))).2)
else
  ((sp_m_fail (1 : Int32) (mmI σ 42 0 (0 : Int32))).1, (sp_m_fail (1 : Int32) (mmI σ 42 0 (0 : Int32))).2)
theorem ev_m_clock (hN : 65 ≤ N) (a0 : Int32) (a1 : Int32) (σ : mmS) : Ev N L xs (125, 0, lv_args 0 [.ref 42, .int a0, .int a1], [], 0, σ) (mmSI (sp_m_clock a0 a1 σ)) := by
  unfold sp_m_clock
  show Ev N L xs (125, 0, [(0, .ref 42), (1, .int a0), (2, .int a1)], [], 0, σ) _
  refine ev_aload_n d_125_0 rfl ?_
  refine ev_iconst d_125_1 ci_0 ?_
  refine ev_putf d_125_2 fl_7_81 (ltk (by decide) hN) rfl rfl (Or.inl rfl) ?_
  refine ev_iload_n d_125_5 rfl ?_
  refine ev_iconst d_125_6 ci_4 ?_
  refine ev_csI (As := [.int a0, .int (4 : Int32)]) (t := []) (e' := 0) d_125_7 ml_7_197 rfl rfl rfl rfl rfl (by decide) rfl rfl (ev_m_out hN a0 (4 : Int32) (mmI σ 42 0 (0 : Int32))) ?_
  refine ev_if_ne mmSI (tgt := 22) d_125_10 rfl (fun _h10 => ?_) (fun _h10 => ?_)
  · refine ev_aload_n d_125_22 rfl ?_
    refine ev_iconst d_125_23 ci_1 ?_
    refine ev_cvI (As := [.int (1 : Int32)]) (t := []) (e' := 0) d_125_24 ml_7_201 rfl rfl rfl rfl rfl (by decide) rfl (ltk (by decide) hN) rfl rfl rfl (ev_m_fail hN (1 : Int32) (mmI σ 42 0 (0 : Int32))) ?_
    exact ev_iret d_125_27 rfl
  · refine ev_iload_n d_125_13 rfl ?_
    refine ev_bipush d_125_14 cb_6 ?_
    refine ev_csI (As := [.int a1, .int (6 : Int32)]) (t := []) (e' := 0) d_125_16 ml_7_197 rfl rfl rfl rfl rfl (by decide) rfl rfl (ev_m_out hN a1 (6 : Int32) (mmI σ 42 0 (0 : Int32))) ?_
    refine ev_if_eq mmSI (tgt := 28) d_125_19 rfl (fun _h19 => ?_) (fun _h19 => ?_)
    · refine ev_aload_n d_125_28 rfl ?_
      refine ev_iload_n d_125_29 rfl ?_
      refine ev_cvI (As := [.int a0]) (t := []) (e' := 0) d_125_30 ml_7_171 rfl rfl rfl rfl rfl (by decide) rfl (ltk (by decide) hN) rfl rfl rfl (ev_m_works hN a0 (mmI σ 42 0 (0 : Int32)) (by apply mo_of; assumption)) ?_
      refine ev_if_eq mmSI (tgt := 46) d_125_33 rfl (fun _h33 => ?_) (fun _h33 => ?_)
      · refine ev_aload_n d_125_46 rfl ?_
        refine ev_iconst d_125_47 ci_2 ?_
        refine ev_cvI (As := [.int (2 : Int32)]) (t := []) (e' := 0) d_125_48 ml_7_201 rfl rfl rfl rfl rfl (by decide) rfl (ltk (by decide) hN) rfl rfl rfl (ev_m_fail hN (2 : Int32) (mmI σ 42 0 (0 : Int32))) ?_
        exact ev_iret d_125_51 rfl
      · refine ev_aload_n d_125_36 rfl ?_
        refine ev_getf (v := .ref 44) d_125_37 fl_7_13 (ltk (by decide) hN) rfl rfl ?_
        refine ev_iload_n d_125_40 rfl ?_
        refine ev_iald2 (i := a0.toNatClampNeg) (v := (σ.1 44 a0.toNatClampNeg)) d_125_41 (ltk (by decide) hN) rfl (by first | assumption | (apply mo_of; assumption)) rfl (rdK (by decide)) ?_
        refine ev_iconst d_125_42 ci_1 ?_
        refine ev_icmp_ne mmSI (tgt := 52) d_125_43 rfl (fun _h43 => ?_) (fun _h43 => ?_)
        · refine ev_iload_n d_125_52 rfl ?_
          by_cases _t53_0 : a1 = 0
          · rw [if_pos _t53_0]
            refine ev_tabIn (off := 35) (tgt := 88) d_125_53 (by rw [_t53_0]; decide) (by rw [_t53_0]; decide) (by rw [_t53_0]; decide) rfl ?_
            refine ev_aload_n d_125_88 rfl ?_
            refine ev_getf (v := .ref 49) d_125_89 fl_7_28 (ltk (by decide) hN) rfl rfl ?_
            refine ev_iload_n d_125_92 rfl ?_
            refine ev_iald2 (i := a0.toNatClampNeg) (v := (σ.1 49 a0.toNatClampNeg)) d_125_93 (ltk (by decide) hN) rfl (by first | assumption | (apply mo_of; assumption)) rfl (rdK (by decide)) ?_
            exact ev_iret d_125_94 rfl
          · rw [if_neg _t53_0]
            by_cases _t53_1 : a1 = 1
            · rw [if_pos _t53_1]
              refine ev_tabIn (off := 42) (tgt := 95) d_125_53 (by rw [_t53_1]; decide) (by rw [_t53_1]; decide) (by rw [_t53_1]; decide) rfl ?_
              refine ev_aload_n d_125_95 rfl ?_
              refine ev_getf (v := .ref 50) d_125_96 fl_7_31 (ltk (by decide) hN) rfl rfl ?_
              refine ev_iload_n d_125_99 rfl ?_
              refine ev_iald2 (i := a0.toNatClampNeg) (v := (σ.1 50 a0.toNatClampNeg)) d_125_100 (ltk (by decide) hN) rfl (by first | assumption | (apply mo_of; assumption)) rfl (rdK (by decide)) ?_
              exact ev_iret d_125_101 rfl
            · rw [if_neg _t53_1]
              by_cases _t53_2 : a1 = 2
              · rw [if_pos _t53_2]
                refine ev_tabIn (off := 49) (tgt := 102) d_125_53 (by rw [_t53_2]; decide) (by rw [_t53_2]; decide) (by rw [_t53_2]; decide) rfl ?_
                refine ev_aload_n d_125_102 rfl ?_
                refine ev_getf (v := .ref 51) d_125_103 fl_7_34 (ltk (by decide) hN) rfl rfl ?_
                refine ev_iload_n d_125_106 rfl ?_
                refine ev_iald2 (i := a0.toNatClampNeg) (v := (σ.1 51 a0.toNatClampNeg)) d_125_107 (ltk (by decide) hN) rfl (by first | assumption | (apply mo_of; assumption)) rfl (rdK (by decide)) ?_
                exact ev_iret d_125_108 rfl
              · rw [if_neg _t53_2]
                by_cases _t53_3 : a1 = 3
                · rw [if_pos _t53_3]
                  refine ev_tabIn (off := 56) (tgt := 109) d_125_53 (by rw [_t53_3]; decide) (by rw [_t53_3]; decide) (by rw [_t53_3]; decide) rfl ?_
                  refine ev_aload_n d_125_109 rfl ?_
                  refine ev_getf (v := .ref 52) d_125_110 fl_7_37 (ltk (by decide) hN) rfl rfl ?_
                  refine ev_iload_n d_125_113 rfl ?_
                  refine ev_iald2 (i := a0.toNatClampNeg) (v := (σ.1 52 a0.toNatClampNeg)) d_125_114 (ltk (by decide) hN) rfl (by first | assumption | (apply mo_of; assumption)) rfl (rdK (by decide)) ?_
                  exact ev_iret d_125_115 rfl
                · rw [if_neg _t53_3]
                  by_cases _t53_4 : a1 = 4
                  · rw [if_pos _t53_4]
                    refine ev_tabIn (off := 63) (tgt := 116) d_125_53 (by rw [_t53_4]; decide) (by rw [_t53_4]; decide) (by rw [_t53_4]; decide) rfl ?_
                    refine ev_aload_n d_125_116 rfl ?_
                    refine ev_getf (v := .ref 54) d_125_117 fl_7_43 (ltk (by decide) hN) rfl rfl ?_
                    refine ev_iload_n d_125_120 rfl ?_
                    refine ev_iald2 (i := a0.toNatClampNeg) (v := (σ.1 54 a0.toNatClampNeg)) d_125_121 (ltk (by decide) hN) rfl (by first | assumption | (apply mo_of; assumption)) rfl (rdK (by decide)) ?_
                    exact ev_iret d_125_122 rfl
                  · rw [if_neg _t53_4]
                    refine ev_tabOut (tgt := 123) d_125_53 (tabO _t53_0 _t53_1 _t53_2 _t53_3 _t53_4) rfl ?_
                    refine ev_aload_n d_125_123 rfl ?_
                    refine ev_getf (v := .ref 55) d_125_124 fl_7_46 (ltk (by decide) hN) rfl rfl ?_
                    refine ev_iload_n d_125_127 rfl ?_
                    refine ev_iald2 (i := a0.toNatClampNeg) (v := (σ.1 55 a0.toNatClampNeg)) d_125_128 (ltk (by decide) hN) rfl (by first | assumption | (apply mo_of; assumption)) rfl (rdK (by decide)) ?_
                    exact ev_iret d_125_129 rfl
        · refine ev_aload_n d_125_46 rfl ?_
          refine ev_iconst d_125_47 ci_2 ?_
          refine ev_cvI (As := [.int (2 : Int32)]) (t := []) (e' := 0) d_125_48 ml_7_201 rfl rfl rfl rfl rfl (by decide) rfl (ltk (by decide) hN) rfl rfl rfl (ev_m_fail hN (2 : Int32) (mmI σ 42 0 (0 : Int32))) ?_
          exact ev_iret d_125_51 rfl
    · refine ev_aload_n d_125_22 rfl ?_
      refine ev_iconst d_125_23 ci_1 ?_
      refine ev_cvI (As := [.int (1 : Int32)]) (t := []) (e' := 0) d_125_24 ml_7_201 rfl rfl rfl rfl rfl (by decide) rfl (ltk (by decide) hN) rfl rfl rfl (ev_m_fail hN (1 : Int32) (mmI σ 42 0 (0 : Int32))) ?_
      exact ev_iret d_125_27 rfl
end SP
