section SP
variable {N L : Nat} {xs : Nat → Int32}
theorem li_add (p c : Nat) : Int32.ofNat (p + c) = Int32.ofNat p + Int32.ofNat c := Int32.ofNat_add p c
theorem li_cl {q : Nat} (h : q < 4000) : q = (Int32.ofNat q).toNatClampNeg ∧ ¬ Int32.ofNat q < 0 := by
  have h1 : (Int32.ofNat q).toInt = q := Int32.toInt_ofNat_of_lt (by omega)
  refine ⟨?_, ?_⟩
  · show q = (Int32.ofNat q).toInt.toNat
    omega
  · rw [Int32.lt_iff_toInt_lt, h1]
    have e0 : (0 : Int32).toInt = 0 := by decide
    omega
theorem li_in {p c L : Nat} (hp : p + 6 ≤ L) (hL : L ≤ 3073) (hc : c < 6) : vp_in (Int32.ofNat (p + c)) L := by
  obtain ⟨h1, h2⟩ := li_cl (q := p + c) (by omega)
  unfold vp_in
  rintro (h | h)
  · exact h2 h
  · rw [← h1] at h; omega
theorem li_nat {p c L : Nat} (hp : p + 6 ≤ L) (hL : L ≤ 3073) (hc : c < 6) : p + c = (Int32.ofNat (p + c)).toNatClampNeg := (li_cl (by omega)).1
theorem li_hd {p L : Nat} (hp : p < 3080) (hL : L ≤ 3073) : Int32.ofNat L - 6 < Int32.ofNat p ↔ L < p + 6 := by
  have h1 : (Int32.ofNat p).toInt = p := Int32.toInt_ofNat_of_lt (by omega)
  have h2 : Int32.ofNat L - 6 = Int32.ofInt ((L : Int) - 6) := by
    rw [Int32.ofInt_sub]; rfl
  rw [Int32.lt_iff_toInt_lt, h1, h2, Int32.toInt_ofInt_of_le (by omega) (by omega)]
  omega
theorem le_e {e z y : Nat} (hz : Nat.ble (mE z) 10 = true) (hy : mE y = 20000) (he : e + 10 ≤ 20000) : e + mE z ≤ mE y := by
  have h := Nat.le_of_ble_eq_true hz
  rw [hy]
  omega
theorem law_0 (hN : 66 ≤ N) (p e : Nat) (hp : p + 6 ≤ L) (hL : L ≤ 3073) (he : e + 24 ≤ 20000) (σ σ1 : mmS) (k : Int32) (hw : Ev N L xs (3, 0, lv_args 0 [.ref 0, .int (xs (p + 1))], [], 0, σ) (mmSI (k, σ1))) (heq : (sp_m_thrown (sp_m_power (xs (p + 1)) σ1)) = k) (r : mmR) (hk : Ev N L xs (132, 1067, [(0, .ref 1000), (1, .ref 0), (2, .ref 42), (3, .ref 65), (4, .int (Int32.ofNat p))], [], e + 2, (sp_m_power (xs (p + 1)) σ1)) r) : Ev N L xs (132, 124, [(0, .ref 1000), (1, .ref 0), (2, .ref 42), (3, .ref 65), (4, .int (Int32.ofNat p))], [], e, σ) (r) := by
  refine ev_aload_n d_132_124 rfl ?_
  refine ev_aload_n d_132_125 rfl ?_
  refine ev_iload d_132_126 rfl ?_
  refine ev_iconst d_132_128 ci_1 ?_
  refine ev_iadd (v := (Int32.ofNat (p + 1))) d_132_129 (li_add p 1) ?_
  refine ev_sald (i := (p + 1)) d_132_130 (li_in hp hL (by decide)) (li_nat hp hL (by decide)) ?_
  refine ev_csI (As := [.ref 0, .int (xs (p + 1))]) (t := []) (e' := (e + 2)) d_132_131 ml_9_78 rfl rfl rfl rfl rfl (le_e rfl rfl (by omega)) rfl rfl hw ?_
  refine ev_istore (lv' := [(5, .int k), (0, .ref 1000), (1, .ref 0), (2, .ref 42), (3, .ref 65), (4, .int (Int32.ofNat p))]) d_132_134 (by decide) rfl ?_
  refine ev_aload_n d_132_136 rfl ?_
  refine ev_aload_n d_132_137 rfl ?_
  refine ev_iload d_132_138 rfl ?_
  refine ev_iconst d_132_140 ci_1 ?_
  refine ev_iadd (v := (Int32.ofNat (p + 1))) d_132_141 (li_add p 1) ?_
  refine ev_sald (i := (p + 1)) d_132_142 (li_in hp hL (by decide)) (li_nat hp hL (by decide)) ?_
  refine ev_cvV (As := [.int (xs (p + 1))]) (t := []) (e' := (e + 2)) d_132_143 ml_9_81 rfl rfl rfl rfl rfl (le_e rfl rfl (by omega)) rfl (ltk6 (by decide) hN) rfl rfl rfl (ev_m_power (Nat.le_of_succ_le hN) (xs (p + 1)) σ1) ?_
  refine ev_aload_n d_132_146 rfl ?_
  refine ev_cvI (As := []) (t := []) (e' := (e + 2)) d_132_147 ml_9_82 rfl rfl rfl rfl rfl (le_e rfl rfl (by omega)) rfl (ltk6 (by decide) hN) rfl rfl rfl (ev_m_thrown (Nat.le_of_succ_le hN) (sp_m_power (xs (p + 1)) σ1)) ?_
  refine ev_iload d_132_150 rfl ?_
  refine ev_icmpT (tgt := 157) d_132_152 rfl heq ?_
  refine ev_goto (tgt := 1067) d_132_157 rfl ?_
  refine ev_sub (lv' := [(0, .ref 1000), (1, .ref 0), (2, .ref 42), (3, .ref 65), (4, .int (Int32.ofNat p))]) (by simp) ?_
  exact hk
theorem law_1 (hN : 66 ≤ N) (p e : Nat) (hp : p + 6 ≤ L) (hL : L ≤ 3073) (he : e + 24 ≤ 20000) (σ σ1 : mmS) (k : Int32) (hw : Ev N L xs (12, 0, lv_args 0 [.ref 0, .int (xs (p + 1)), .ref 65], [], 0, σ) (mmSI (k, σ1))) (heq : (sp_m_thrown ((sp_m_off (xs (p + 1)) σ1).2)) = k) (hout : k = 0 → (lg_cmp (((sp_m_off (xs (p + 1)) σ1).2).2 65 0) (((sp_m_off (xs (p + 1)) σ1).1).toInt64)) = (0 : Int32)) (r : mmR) (hk : Ev N L xs (132, 1067, [(0, .ref 1000), (1, .ref 0), (2, .ref 42), (3, .ref 65), (4, .int (Int32.ofNat p))], [], e + 1, (sp_m_off (xs (p + 1)) σ1).2) r) : Ev N L xs (132, 160, [(0, .ref 1000), (1, .ref 0), (2, .ref 42), (3, .ref 65), (4, .int (Int32.ofNat p))], [], e, σ) (r) := by
  refine ev_aload_n d_132_160 rfl ?_
  refine ev_aload_n d_132_161 rfl ?_
  refine ev_iload d_132_162 rfl ?_
  refine ev_iconst d_132_164 ci_1 ?_
  refine ev_iadd (v := (Int32.ofNat (p + 1))) d_132_165 (li_add p 1) ?_
  refine ev_sald (i := (p + 1)) d_132_166 (li_in hp hL (by decide)) (li_nat hp hL (by decide)) ?_
  refine ev_aload_n d_132_167 rfl ?_
  refine ev_csI (As := [.ref 0, .int (xs (p + 1)), .ref 65]) (t := []) (e' := (e + 1)) d_132_168 ml_9_86 rfl rfl rfl rfl rfl (le_e rfl rfl (by omega)) rfl rfl hw ?_
  refine ev_istore (lv' := [(5, .int k), (0, .ref 1000), (1, .ref 0), (2, .ref 42), (3, .ref 65), (4, .int (Int32.ofNat p))]) d_132_171 (by decide) rfl ?_
  refine ev_aload_n d_132_173 rfl ?_
  refine ev_aload_n d_132_174 rfl ?_
  refine ev_iload d_132_175 rfl ?_
  refine ev_iconst d_132_177 ci_1 ?_
  refine ev_iadd (v := (Int32.ofNat (p + 1))) d_132_178 (li_add p 1) ?_
  refine ev_sald (i := (p + 1)) d_132_179 (li_in hp hL (by decide)) (li_nat hp hL (by decide)) ?_
  refine ev_cvI (As := [.int (xs (p + 1))]) (t := []) (e' := (e + 1)) d_132_180 ml_9_89 rfl rfl rfl rfl rfl (le_e rfl rfl (by omega)) rfl (ltk6 (by decide) hN) rfl rfl rfl (ev_m_off (Nat.le_of_succ_le hN) (xs (p + 1)) σ1) ?_
  refine ev_istore (lv' := [(6, .int ((sp_m_off (xs (p + 1)) σ1).1)), (5, .int k), (0, .ref 1000), (1, .ref 0), (2, .ref 42), (3, .ref 65), (4, .int (Int32.ofNat p))]) d_132_183 (by decide) rfl ?_
  refine ev_aload_n d_132_185 rfl ?_
  refine ev_cvI (As := []) (t := []) (e' := (e + 1)) d_132_186 ml_9_82 rfl rfl rfl rfl rfl (le_e rfl rfl (by omega)) rfl (ltk6 (by decide) hN) rfl rfl rfl (ev_m_thrown (Nat.le_of_succ_le hN) ((sp_m_off (xs (p + 1)) σ1).2)) ?_
  refine ev_iload d_132_189 rfl ?_
  refine ev_icmpT (tgt := 196) d_132_191 rfl heq ?_
  refine ev_iload d_132_196 rfl ?_
  refine ev_if (tgt := 213) d_132_198 rfl (fun _h198 => ?_) (fun _h198 => ?_)
  · refine ev_goto (tgt := 1067) d_132_213 rfl ?_
    refine ev_sub (lv' := [(0, .ref 1000), (1, .ref 0), (2, .ref 42), (3, .ref 65), (4, .int (Int32.ofNat p))]) (by simp) ?_
    exact hk
  · refine ev_aload_n d_132_201 rfl ?_
    refine ev_iconst d_132_202 ci_0 ?_
    refine ev_laload (i := 0) d_132_203 (ltk6 (by decide) hN) rfl (vpi (by decide)) (by decide) ?_
    refine ev_iload d_132_204 rfl ?_
    refine ev_i2l (v := ((sp_m_off (xs (p + 1)) σ1).1).toInt64) d_132_206 rfl ?_
    refine ev_lcmp d_132_207 ?_
    refine ev_ifT (tgt := 213) d_132_208 rfl (hout (Classical.not_not.mp _h198)) ?_
    refine ev_goto (tgt := 1067) d_132_213 rfl ?_
    refine ev_sub (lv' := [(0, .ref 1000), (1, .ref 0), (2, .ref 42), (3, .ref 65), (4, .int (Int32.ofNat p))]) (by simp) ?_
    exact hk
theorem law_2 (hN : 66 ≤ N) (p e : Nat) (hp : p + 6 ≤ L) (hL : L ≤ 3073) (he : e + 24 ≤ 20000) (σ σ1 : mmS) (k : Int32) (hw : Ev N L xs (14, 0, lv_args 0 [.ref 0, .int (xs (p + 1)), .ref 65], [], 0, σ) (mmSI (k, σ1))) (hJ : Jm σ1) (heq : (sp_m_thrown ((sp_m_run (xs (p + 1)) σ1).2)) = k) (hout : k = 0 → (lg_cmp (((sp_m_run (xs (p + 1)) σ1).2).2 65 0) (((sp_m_run (xs (p + 1)) σ1).1).toInt64)) = (0 : Int32)) (r : mmR) (hk : Ev N L xs (132, 1067, [(0, .ref 1000), (1, .ref 0), (2, .ref 42), (3, .ref 65), (4, .int (Int32.ofNat p))], [], e + 1, (sp_m_run (xs (p + 1)) σ1).2) r) : Ev N L xs (132, 216, [(0, .ref 1000), (1, .ref 0), (2, .ref 42), (3, .ref 65), (4, .int (Int32.ofNat p))], [], e, σ) (r) := by
  refine ev_aload_n d_132_216 rfl ?_
  refine ev_aload_n d_132_217 rfl ?_
  refine ev_iload d_132_218 rfl ?_
  refine ev_iconst d_132_220 ci_1 ?_
  refine ev_iadd (v := (Int32.ofNat (p + 1))) d_132_221 (li_add p 1) ?_
  refine ev_sald (i := (p + 1)) d_132_222 (li_in hp hL (by decide)) (li_nat hp hL (by decide)) ?_
  refine ev_aload_n d_132_223 rfl ?_
  refine ev_csI (As := [.ref 0, .int (xs (p + 1)), .ref 65]) (t := []) (e' := (e + 1)) d_132_224 ml_9_90 rfl rfl rfl rfl rfl (le_e rfl rfl (by omega)) rfl rfl hw ?_
  refine ev_istore (lv' := [(5, .int k), (0, .ref 1000), (1, .ref 0), (2, .ref 42), (3, .ref 65), (4, .int (Int32.ofNat p))]) d_132_227 (by decide) rfl ?_
  refine ev_aload_n d_132_229 rfl ?_
  refine ev_aload_n d_132_230 rfl ?_
  refine ev_iload d_132_231 rfl ?_
  refine ev_iconst d_132_233 ci_1 ?_
  refine ev_iadd (v := (Int32.ofNat (p + 1))) d_132_234 (li_add p 1) ?_
  refine ev_sald (i := (p + 1)) d_132_235 (li_in hp hL (by decide)) (li_nat hp hL (by decide)) ?_
  refine ev_cvI (As := [.int (xs (p + 1))]) (t := []) (e' := (e + 1)) d_132_236 ml_9_92 rfl rfl rfl rfl rfl (le_e rfl rfl (by omega)) rfl (ltk6 (by decide) hN) rfl rfl rfl (ev_m_run (Nat.le_of_succ_le hN) (xs (p + 1)) σ1 hJ) ?_
  refine ev_istore (lv' := [(6, .int ((sp_m_run (xs (p + 1)) σ1).1)), (5, .int k), (0, .ref 1000), (1, .ref 0), (2, .ref 42), (3, .ref 65), (4, .int (Int32.ofNat p))]) d_132_239 (by decide) rfl ?_
  refine ev_aload_n d_132_241 rfl ?_
  refine ev_cvI (As := []) (t := []) (e' := (e + 1)) d_132_242 ml_9_82 rfl rfl rfl rfl rfl (le_e rfl rfl (by omega)) rfl (ltk6 (by decide) hN) rfl rfl rfl (ev_m_thrown (Nat.le_of_succ_le hN) ((sp_m_run (xs (p + 1)) σ1).2)) ?_
  refine ev_iload d_132_245 rfl ?_
  refine ev_icmpT (tgt := 252) d_132_247 rfl heq ?_
  refine ev_iload d_132_252 rfl ?_
  refine ev_if (tgt := 269) d_132_254 rfl (fun _h254 => ?_) (fun _h254 => ?_)
  · refine ev_goto (tgt := 1067) d_132_269 rfl ?_
    refine ev_sub (lv' := [(0, .ref 1000), (1, .ref 0), (2, .ref 42), (3, .ref 65), (4, .int (Int32.ofNat p))]) (by simp) ?_
    exact hk
  · refine ev_aload_n d_132_257 rfl ?_
    refine ev_iconst d_132_258 ci_0 ?_
    refine ev_laload (i := 0) d_132_259 (ltk6 (by decide) hN) rfl (vpi (by decide)) (by decide) ?_
    refine ev_iload d_132_260 rfl ?_
    refine ev_i2l (v := ((sp_m_run (xs (p + 1)) σ1).1).toInt64) d_132_262 rfl ?_
    refine ev_lcmp d_132_263 ?_
    refine ev_ifT (tgt := 269) d_132_264 rfl (hout (Classical.not_not.mp _h254)) ?_
    refine ev_goto (tgt := 1067) d_132_269 rfl ?_
    refine ev_sub (lv' := [(0, .ref 1000), (1, .ref 0), (2, .ref 42), (3, .ref 65), (4, .int (Int32.ofNat p))]) (by simp) ?_
    exact hk
theorem law_3 (hN : 66 ≤ N) (p e : Nat) (hp : p + 6 ≤ L) (hL : L ≤ 3073) (he : e + 24 ≤ 20000) (σ σ1 : mmS) (k : Int32) (hw : Ev N L xs (66, 0, lv_args 0 [.ref 0, .int (xs (p + 1)), .int (xs (p + 2))], [], 0, σ) (mmSI (k, σ1))) (heq : (sp_m_thrown (sp_m_value (xs (p + 1)) (xs (p + 2)) σ1)) = k) (r : mmR) (hk : Ev N L xs (132, 1067, [(0, .ref 1000), (1, .ref 0), (2, .ref 42), (3, .ref 65), (4, .int (Int32.ofNat p))], [], e + 3, (sp_m_value (xs (p + 1)) (xs (p + 2)) σ1)) r) : Ev N L xs (132, 272, [(0, .ref 1000), (1, .ref 0), (2, .ref 42), (3, .ref 65), (4, .int (Int32.ofNat p))], [], e, σ) (r) := by
  refine ev_aload_n d_132_272 rfl ?_
  refine ev_aload_n d_132_273 rfl ?_
  refine ev_iload d_132_274 rfl ?_
  refine ev_iconst d_132_276 ci_1 ?_
  refine ev_iadd (v := (Int32.ofNat (p + 1))) d_132_277 (li_add p 1) ?_
  refine ev_sald (i := (p + 1)) d_132_278 (li_in hp hL (by decide)) (li_nat hp hL (by decide)) ?_
  refine ev_aload_n d_132_279 rfl ?_
  refine ev_iload d_132_280 rfl ?_
  refine ev_iconst d_132_282 ci_2 ?_
  refine ev_iadd (v := (Int32.ofNat (p + 2))) d_132_283 (li_add p 2) ?_
  refine ev_sald (i := (p + 2)) d_132_284 (li_in hp hL (by decide)) (li_nat hp hL (by decide)) ?_
  refine ev_csI (As := [.ref 0, .int (xs (p + 1)), .int (xs (p + 2))]) (t := []) (e' := (e + 3)) d_132_285 ml_9_93 rfl rfl rfl rfl rfl (le_e rfl rfl (by omega)) rfl rfl hw ?_
  refine ev_istore (lv' := [(5, .int k), (0, .ref 1000), (1, .ref 0), (2, .ref 42), (3, .ref 65), (4, .int (Int32.ofNat p))]) d_132_288 (by decide) rfl ?_
  refine ev_aload_n d_132_290 rfl ?_
  refine ev_aload_n d_132_291 rfl ?_
  refine ev_iload d_132_292 rfl ?_
  refine ev_iconst d_132_294 ci_1 ?_
  refine ev_iadd (v := (Int32.ofNat (p + 1))) d_132_295 (li_add p 1) ?_
  refine ev_sald (i := (p + 1)) d_132_296 (li_in hp hL (by decide)) (li_nat hp hL (by decide)) ?_
  refine ev_aload_n d_132_297 rfl ?_
  refine ev_iload d_132_298 rfl ?_
  refine ev_iconst d_132_300 ci_2 ?_
  refine ev_iadd (v := (Int32.ofNat (p + 2))) d_132_301 (li_add p 2) ?_
  refine ev_sald (i := (p + 2)) d_132_302 (li_in hp hL (by decide)) (li_nat hp hL (by decide)) ?_
  refine ev_cvV (As := [.int (xs (p + 1)), .int (xs (p + 2))]) (t := []) (e' := (e + 3)) d_132_303 ml_9_96 rfl rfl rfl rfl rfl (le_e rfl rfl (by omega)) rfl (ltk6 (by decide) hN) rfl rfl rfl (ev_m_value (Nat.le_of_succ_le hN) (xs (p + 1)) (xs (p + 2)) σ1) ?_
  refine ev_aload_n d_132_306 rfl ?_
  refine ev_cvI (As := []) (t := []) (e' := (e + 3)) d_132_307 ml_9_82 rfl rfl rfl rfl rfl (le_e rfl rfl (by omega)) rfl (ltk6 (by decide) hN) rfl rfl rfl (ev_m_thrown (Nat.le_of_succ_le hN) (sp_m_value (xs (p + 1)) (xs (p + 2)) σ1)) ?_
  refine ev_iload d_132_310 rfl ?_
  refine ev_icmpT (tgt := 317) d_132_312 rfl heq ?_
  refine ev_goto (tgt := 1067) d_132_317 rfl ?_
  refine ev_sub (lv' := [(0, .ref 1000), (1, .ref 0), (2, .ref 42), (3, .ref 65), (4, .int (Int32.ofNat p))]) (by simp) ?_
  exact hk
theorem law_4 (hN : 66 ≤ N) (p e : Nat) (hp : p + 6 ≤ L) (hL : L ≤ 3073) (he : e + 24 ≤ 20000) (σ σ1 : mmS) (k : Int32) (hw : Ev N L xs (69, 0, lv_args 0 [.ref 0, .int (xs (p + 1)), .int (xs (p + 2)), .int (xs (p + 3)), .int (xs (p + 4)), .int (xs (p + 5))], [], 0, σ) (mmSI (k, σ1))) (heq : (sp_m_thrown (sp_m_post (xs (p + 1)) (xs (p + 2)) (xs (p + 3)) (xs (p + 4)) (xs (p + 5)) σ1)) = k) (r : mmR) (hk : Ev N L xs (132, 1067, [(0, .ref 1000), (1, .ref 0), (2, .ref 42), (3, .ref 65), (4, .int (Int32.ofNat p))], [], e + 7, (sp_m_post (xs (p + 1)) (xs (p + 2)) (xs (p + 3)) (xs (p + 4)) (xs (p + 5)) σ1)) r) : Ev N L xs (132, 320, [(0, .ref 1000), (1, .ref 0), (2, .ref 42), (3, .ref 65), (4, .int (Int32.ofNat p))], [], e, σ) (r) := by
  refine ev_aload_n d_132_320 rfl ?_
  refine ev_aload_n d_132_321 rfl ?_
  refine ev_iload d_132_322 rfl ?_
  refine ev_iconst d_132_324 ci_1 ?_
  refine ev_iadd (v := (Int32.ofNat (p + 1))) d_132_325 (li_add p 1) ?_
  refine ev_sald (i := (p + 1)) d_132_326 (li_in hp hL (by decide)) (li_nat hp hL (by decide)) ?_
  refine ev_aload_n d_132_327 rfl ?_
  refine ev_iload d_132_328 rfl ?_
  refine ev_iconst d_132_330 ci_2 ?_
  refine ev_iadd (v := (Int32.ofNat (p + 2))) d_132_331 (li_add p 2) ?_
  refine ev_sald (i := (p + 2)) d_132_332 (li_in hp hL (by decide)) (li_nat hp hL (by decide)) ?_
  refine ev_aload_n d_132_333 rfl ?_
  refine ev_iload d_132_334 rfl ?_
  refine ev_iconst d_132_336 ci_3 ?_
  refine ev_iadd (v := (Int32.ofNat (p + 3))) d_132_337 (li_add p 3) ?_
  refine ev_sald (i := (p + 3)) d_132_338 (li_in hp hL (by decide)) (li_nat hp hL (by decide)) ?_
  refine ev_aload_n d_132_339 rfl ?_
  refine ev_iload d_132_340 rfl ?_
  refine ev_iconst d_132_342 ci_4 ?_
  refine ev_iadd (v := (Int32.ofNat (p + 4))) d_132_343 (li_add p 4) ?_
  refine ev_sald (i := (p + 4)) d_132_344 (li_in hp hL (by decide)) (li_nat hp hL (by decide)) ?_
  refine ev_aload_n d_132_345 rfl ?_
  refine ev_iload d_132_346 rfl ?_
  refine ev_iconst d_132_348 ci_5 ?_
  refine ev_iadd (v := (Int32.ofNat (p + 5))) d_132_349 (li_add p 5) ?_
  refine ev_sald (i := (p + 5)) d_132_350 (li_in hp hL (by decide)) (li_nat hp hL (by decide)) ?_
  refine ev_csI (As := [.ref 0, .int (xs (p + 1)), .int (xs (p + 2)), .int (xs (p + 3)), .int (xs (p + 4)), .int (xs (p + 5))]) (t := []) (e' := (e + 7)) d_132_351 ml_9_97 rfl rfl rfl rfl rfl (le_e rfl rfl (by omega)) rfl rfl hw ?_
  refine ev_istore (lv' := [(5, .int k), (0, .ref 1000), (1, .ref 0), (2, .ref 42), (3, .ref 65), (4, .int (Int32.ofNat p))]) d_132_354 (by decide) rfl ?_
  refine ev_aload_n d_132_356 rfl ?_
  refine ev_aload_n d_132_357 rfl ?_
  refine ev_iload d_132_358 rfl ?_
  refine ev_iconst d_132_360 ci_1 ?_
  refine ev_iadd (v := (Int32.ofNat (p + 1))) d_132_361 (li_add p 1) ?_
  refine ev_sald (i := (p + 1)) d_132_362 (li_in hp hL (by decide)) (li_nat hp hL (by decide)) ?_
  refine ev_aload_n d_132_363 rfl ?_
  refine ev_iload d_132_364 rfl ?_
  refine ev_iconst d_132_366 ci_2 ?_
  refine ev_iadd (v := (Int32.ofNat (p + 2))) d_132_367 (li_add p 2) ?_
  refine ev_sald (i := (p + 2)) d_132_368 (li_in hp hL (by decide)) (li_nat hp hL (by decide)) ?_
  refine ev_aload_n d_132_369 rfl ?_
  refine ev_iload d_132_370 rfl ?_
  refine ev_iconst d_132_372 ci_3 ?_
  refine ev_iadd (v := (Int32.ofNat (p + 3))) d_132_373 (li_add p 3) ?_
  refine ev_sald (i := (p + 3)) d_132_374 (li_in hp hL (by decide)) (li_nat hp hL (by decide)) ?_
  refine ev_aload_n d_132_375 rfl ?_
  refine ev_iload d_132_376 rfl ?_
  refine ev_iconst d_132_378 ci_4 ?_
  refine ev_iadd (v := (Int32.ofNat (p + 4))) d_132_379 (li_add p 4) ?_
  refine ev_sald (i := (p + 4)) d_132_380 (li_in hp hL (by decide)) (li_nat hp hL (by decide)) ?_
  refine ev_aload_n d_132_381 rfl ?_
  refine ev_iload d_132_382 rfl ?_
  refine ev_iconst d_132_384 ci_5 ?_
  refine ev_iadd (v := (Int32.ofNat (p + 5))) d_132_385 (li_add p 5) ?_
  refine ev_sald (i := (p + 5)) d_132_386 (li_in hp hL (by decide)) (li_nat hp hL (by decide)) ?_
  refine ev_cvV (As := [.int (xs (p + 1)), .int (xs (p + 2)), .int (xs (p + 3)), .int (xs (p + 4)), .int (xs (p + 5))]) (t := []) (e' := (e + 7)) d_132_387 ml_9_100 rfl rfl rfl rfl rfl (le_e rfl rfl (by omega)) rfl (ltk6 (by decide) hN) rfl rfl rfl (ev_m_post (Nat.le_of_succ_le hN) (xs (p + 1)) (xs (p + 2)) (xs (p + 3)) (xs (p + 4)) (xs (p + 5)) σ1) ?_
  refine ev_aload_n d_132_390 rfl ?_
  refine ev_cvI (As := []) (t := []) (e' := (e + 7)) d_132_391 ml_9_82 rfl rfl rfl rfl rfl (le_e rfl rfl (by omega)) rfl (ltk6 (by decide) hN) rfl rfl rfl (ev_m_thrown (Nat.le_of_succ_le hN) (sp_m_post (xs (p + 1)) (xs (p + 2)) (xs (p + 3)) (xs (p + 4)) (xs (p + 5)) σ1)) ?_
  refine ev_iload d_132_394 rfl ?_
  refine ev_icmpT (tgt := 401) d_132_396 rfl heq ?_
  refine ev_goto (tgt := 1067) d_132_401 rfl ?_
  refine ev_sub (lv' := [(0, .ref 1000), (1, .ref 0), (2, .ref 42), (3, .ref 65), (4, .int (Int32.ofNat p))]) (by simp) ?_
  exact hk
theorem law_5 (hN : 66 ≤ N) (p e : Nat) (hp : p + 6 ≤ L) (hL : L ≤ 3073) (he : e + 24 ≤ 20000) (σ σ1 : mmS) (k : Int32) (hw : Ev N L xs (72, 0, lv_args 0 [.ref 0, .long ((((xs (p + 1)).toInt64) <<< ((32 : Int32).toInt64 &&& 63)) ||| (((xs (p + 2)).toInt64) &&& (4294967295 : Int64)))], [], 0, σ) (mmSI (k, σ1))) (heq : (sp_m_thrown (sp_m_disturb ((((xs (p + 1)).toInt64) <<< ((32 : Int32).toInt64 &&& 63)) ||| (((xs (p + 2)).toInt64) &&& (4294967295 : Int64))) σ1)) = k) (r : mmR) (hk : Ev N L xs (132, 1067, [(0, .ref 1000), (1, .ref 0), (2, .ref 42), (3, .ref 65), (4, .int (Int32.ofNat p))], [], e + 1, (sp_m_disturb ((((xs (p + 1)).toInt64) <<< ((32 : Int32).toInt64 &&& 63)) ||| (((xs (p + 2)).toInt64) &&& (4294967295 : Int64))) σ1)) r) : Ev N L xs (132, 404, [(0, .ref 1000), (1, .ref 0), (2, .ref 42), (3, .ref 65), (4, .int (Int32.ofNat p))], [], e, σ) (r) := by
  refine ev_aload_n d_132_404 rfl ?_
  refine ev_aload_n d_132_405 rfl ?_
  refine ev_iload d_132_406 rfl ?_
  refine ev_iconst d_132_408 ci_1 ?_
  refine ev_iadd (v := (Int32.ofNat (p + 1))) d_132_409 (li_add p 1) ?_
  refine ev_sald (i := (p + 1)) d_132_410 (li_in hp hL (by decide)) (li_nat hp hL (by decide)) ?_
  refine ev_i2l (v := (xs (p + 1)).toInt64) d_132_411 rfl ?_
  refine ev_bipush d_132_412 cb_32 ?_
  refine ev_lshl (v := (((xs (p + 1)).toInt64) <<< ((32 : Int32).toInt64 &&& 63))) d_132_414 rfl ?_
  refine ev_aload_n d_132_415 rfl ?_
  refine ev_iload d_132_416 rfl ?_
  refine ev_iconst d_132_418 ci_2 ?_
  refine ev_iadd (v := (Int32.ofNat (p + 2))) d_132_419 (li_add p 2) ?_
  refine ev_sald (i := (p + 2)) d_132_420 (li_in hp hL (by decide)) (li_nat hp hL (by decide)) ?_
  refine ev_i2l (v := (xs (p + 2)).toInt64) d_132_421 rfl ?_
  refine ev_ldc2 d_132_422 kl_9_101 ?_
  refine ev_land (v := (((xs (p + 2)).toInt64) &&& (4294967295 : Int64))) d_132_425 rfl ?_
  refine ev_lor (v := ((((xs (p + 1)).toInt64) <<< ((32 : Int32).toInt64 &&& 63)) ||| (((xs (p + 2)).toInt64) &&& (4294967295 : Int64)))) d_132_426 rfl ?_
  refine ev_csI (As := [.ref 0, .long ((((xs (p + 1)).toInt64) <<< ((32 : Int32).toInt64 &&& 63)) ||| (((xs (p + 2)).toInt64) &&& (4294967295 : Int64)))]) (t := []) (e' := (e + 1)) d_132_427 ml_9_103 rfl rfl rfl rfl rfl (le_e rfl rfl (by omega)) rfl rfl hw ?_
  refine ev_istore (lv' := [(5, .int k), (0, .ref 1000), (1, .ref 0), (2, .ref 42), (3, .ref 65), (4, .int (Int32.ofNat p))]) d_132_430 (by decide) rfl ?_
  refine ev_aload_n d_132_432 rfl ?_
  refine ev_aload_n d_132_433 rfl ?_
  refine ev_iload d_132_434 rfl ?_
  refine ev_iconst d_132_436 ci_1 ?_
  refine ev_iadd (v := (Int32.ofNat (p + 1))) d_132_437 (li_add p 1) ?_
  refine ev_sald (i := (p + 1)) d_132_438 (li_in hp hL (by decide)) (li_nat hp hL (by decide)) ?_
  refine ev_i2l (v := (xs (p + 1)).toInt64) d_132_439 rfl ?_
  refine ev_bipush d_132_440 cb_32 ?_
  refine ev_lshl (v := (((xs (p + 1)).toInt64) <<< ((32 : Int32).toInt64 &&& 63))) d_132_442 rfl ?_
  refine ev_aload_n d_132_443 rfl ?_
  refine ev_iload d_132_444 rfl ?_
  refine ev_iconst d_132_446 ci_2 ?_
  refine ev_iadd (v := (Int32.ofNat (p + 2))) d_132_447 (li_add p 2) ?_
  refine ev_sald (i := (p + 2)) d_132_448 (li_in hp hL (by decide)) (li_nat hp hL (by decide)) ?_
  refine ev_i2l (v := (xs (p + 2)).toInt64) d_132_449 rfl ?_
  refine ev_ldc2 d_132_450 kl_9_101 ?_
  refine ev_land (v := (((xs (p + 2)).toInt64) &&& (4294967295 : Int64))) d_132_453 rfl ?_
  refine ev_lor (v := ((((xs (p + 1)).toInt64) <<< ((32 : Int32).toInt64 &&& 63)) ||| (((xs (p + 2)).toInt64) &&& (4294967295 : Int64)))) d_132_454 rfl ?_
  refine ev_cvV (As := [.long ((((xs (p + 1)).toInt64) <<< ((32 : Int32).toInt64 &&& 63)) ||| (((xs (p + 2)).toInt64) &&& (4294967295 : Int64)))]) (t := []) (e' := (e + 1)) d_132_455 ml_9_106 rfl rfl rfl rfl rfl (le_e rfl rfl (by omega)) rfl (ltk6 (by decide) hN) rfl rfl rfl (ev_m_disturb (Nat.le_of_succ_le hN) ((((xs (p + 1)).toInt64) <<< ((32 : Int32).toInt64 &&& 63)) ||| (((xs (p + 2)).toInt64) &&& (4294967295 : Int64))) σ1) ?_
  refine ev_aload_n d_132_458 rfl ?_
  refine ev_cvI (As := []) (t := []) (e' := (e + 1)) d_132_459 ml_9_82 rfl rfl rfl rfl rfl (le_e rfl rfl (by omega)) rfl (ltk6 (by decide) hN) rfl rfl rfl (ev_m_thrown (Nat.le_of_succ_le hN) (sp_m_disturb ((((xs (p + 1)).toInt64) <<< ((32 : Int32).toInt64 &&& 63)) ||| (((xs (p + 2)).toInt64) &&& (4294967295 : Int64))) σ1)) ?_
  refine ev_iload d_132_462 rfl ?_
  refine ev_icmpT (tgt := 469) d_132_464 rfl heq ?_
  refine ev_goto (tgt := 1067) d_132_469 rfl ?_
  refine ev_sub (lv' := [(0, .ref 1000), (1, .ref 0), (2, .ref 42), (3, .ref 65), (4, .int (Int32.ofNat p))]) (by simp) ?_
  exact hk
theorem law_6 (hN : 66 ≤ N) (p e : Nat) (hp : p + 6 ≤ L) (hL : L ≤ 3073) (he : e + 24 ≤ 20000) (σ σ1 : mmS) (k : Int32) (hw : Ev N L xs (75, 0, lv_args 0 [.ref 0, .int (xs (p + 1)), .ref 65], [], 0, σ) (mmSI (k, σ1))) (heq : (sp_m_thrown ((sp_m_lose (xs (p + 1)) σ1).2)) = k) (hout : k = 0 → (lg_cmp (((sp_m_lose (xs (p + 1)) σ1).2).2 65 0) (((sp_m_lose (xs (p + 1)) σ1).1).toInt64)) = (0 : Int32)) (r : mmR) (hk : Ev N L xs (132, 1067, [(0, .ref 1000), (1, .ref 0), (2, .ref 42), (3, .ref 65), (4, .int (Int32.ofNat p))], [], e + 1, (sp_m_lose (xs (p + 1)) σ1).2) r) : Ev N L xs (132, 472, [(0, .ref 1000), (1, .ref 0), (2, .ref 42), (3, .ref 65), (4, .int (Int32.ofNat p))], [], e, σ) (r) := by
  refine ev_aload_n d_132_472 rfl ?_
  refine ev_aload_n d_132_473 rfl ?_
  refine ev_iload d_132_474 rfl ?_
  refine ev_iconst d_132_476 ci_1 ?_
  refine ev_iadd (v := (Int32.ofNat (p + 1))) d_132_477 (li_add p 1) ?_
  refine ev_sald (i := (p + 1)) d_132_478 (li_in hp hL (by decide)) (li_nat hp hL (by decide)) ?_
  refine ev_aload_n d_132_479 rfl ?_
  refine ev_csI (As := [.ref 0, .int (xs (p + 1)), .ref 65]) (t := []) (e' := (e + 1)) d_132_480 ml_9_107 rfl rfl rfl rfl rfl (le_e rfl rfl (by omega)) rfl rfl hw ?_
  refine ev_istore (lv' := [(5, .int k), (0, .ref 1000), (1, .ref 0), (2, .ref 42), (3, .ref 65), (4, .int (Int32.ofNat p))]) d_132_483 (by decide) rfl ?_
  refine ev_aload_n d_132_485 rfl ?_
  refine ev_aload_n d_132_486 rfl ?_
  refine ev_iload d_132_487 rfl ?_
  refine ev_iconst d_132_489 ci_1 ?_
  refine ev_iadd (v := (Int32.ofNat (p + 1))) d_132_490 (li_add p 1) ?_
  refine ev_sald (i := (p + 1)) d_132_491 (li_in hp hL (by decide)) (li_nat hp hL (by decide)) ?_
  refine ev_cvI (As := [.int (xs (p + 1))]) (t := []) (e' := (e + 1)) d_132_492 ml_9_109 rfl rfl rfl rfl rfl (le_e rfl rfl (by omega)) rfl (ltk6 (by decide) hN) rfl rfl rfl (ev_m_lose (Nat.le_of_succ_le hN) (xs (p + 1)) σ1) ?_
  refine ev_istore (lv' := [(6, .int ((sp_m_lose (xs (p + 1)) σ1).1)), (5, .int k), (0, .ref 1000), (1, .ref 0), (2, .ref 42), (3, .ref 65), (4, .int (Int32.ofNat p))]) d_132_495 (by decide) rfl ?_
  refine ev_aload_n d_132_497 rfl ?_
  refine ev_cvI (As := []) (t := []) (e' := (e + 1)) d_132_498 ml_9_82 rfl rfl rfl rfl rfl (le_e rfl rfl (by omega)) rfl (ltk6 (by decide) hN) rfl rfl rfl (ev_m_thrown (Nat.le_of_succ_le hN) ((sp_m_lose (xs (p + 1)) σ1).2)) ?_
  refine ev_iload d_132_501 rfl ?_
  refine ev_icmpT (tgt := 508) d_132_503 rfl heq ?_
  refine ev_iload d_132_508 rfl ?_
  refine ev_if (tgt := 525) d_132_510 rfl (fun _h510 => ?_) (fun _h510 => ?_)
  · refine ev_goto (tgt := 1067) d_132_525 rfl ?_
    refine ev_sub (lv' := [(0, .ref 1000), (1, .ref 0), (2, .ref 42), (3, .ref 65), (4, .int (Int32.ofNat p))]) (by simp) ?_
    exact hk
  · refine ev_aload_n d_132_513 rfl ?_
    refine ev_iconst d_132_514 ci_0 ?_
    refine ev_laload (i := 0) d_132_515 (ltk6 (by decide) hN) rfl (vpi (by decide)) (by decide) ?_
    refine ev_iload d_132_516 rfl ?_
    refine ev_i2l (v := ((sp_m_lose (xs (p + 1)) σ1).1).toInt64) d_132_518 rfl ?_
    refine ev_lcmp d_132_519 ?_
    refine ev_ifT (tgt := 525) d_132_520 rfl (hout (Classical.not_not.mp _h510)) ?_
    refine ev_goto (tgt := 1067) d_132_525 rfl ?_
    refine ev_sub (lv' := [(0, .ref 1000), (1, .ref 0), (2, .ref 42), (3, .ref 65), (4, .int (Int32.ofNat p))]) (by simp) ?_
    exact hk
theorem law_7 (hN : 66 ≤ N) (p e : Nat) (hp : p + 6 ≤ L) (hL : L ≤ 3073) (he : e + 24 ≤ 20000) (σ σ1 : mmS) (k : Int32) (hw : Ev N L xs (77, 0, lv_args 0 [.ref 0, .int (xs (p + 1)), .ref 65], [], 0, σ) (mmSI (k, σ1))) (heq : (sp_m_thrown ((sp_m_state (xs (p + 1)) σ1).2)) = k) (hout : k = 0 → (lg_cmp (((sp_m_state (xs (p + 1)) σ1).2).2 65 0) (((sp_m_state (xs (p + 1)) σ1).1).toInt64)) = (0 : Int32)) (r : mmR) (hk : Ev N L xs (132, 1067, [(0, .ref 1000), (1, .ref 0), (2, .ref 42), (3, .ref 65), (4, .int (Int32.ofNat p))], [], e + 1, (sp_m_state (xs (p + 1)) σ1).2) r) : Ev N L xs (132, 528, [(0, .ref 1000), (1, .ref 0), (2, .ref 42), (3, .ref 65), (4, .int (Int32.ofNat p))], [], e, σ) (r) := by
  refine ev_aload_n d_132_528 rfl ?_
  refine ev_aload_n d_132_529 rfl ?_
  refine ev_iload d_132_530 rfl ?_
  refine ev_iconst d_132_532 ci_1 ?_
  refine ev_iadd (v := (Int32.ofNat (p + 1))) d_132_533 (li_add p 1) ?_
  refine ev_sald (i := (p + 1)) d_132_534 (li_in hp hL (by decide)) (li_nat hp hL (by decide)) ?_
  refine ev_aload_n d_132_535 rfl ?_
  refine ev_csI (As := [.ref 0, .int (xs (p + 1)), .ref 65]) (t := []) (e' := (e + 1)) d_132_536 ml_9_110 rfl rfl rfl rfl rfl (le_e rfl rfl (by omega)) rfl rfl hw ?_
  refine ev_istore (lv' := [(5, .int k), (0, .ref 1000), (1, .ref 0), (2, .ref 42), (3, .ref 65), (4, .int (Int32.ofNat p))]) d_132_539 (by decide) rfl ?_
  refine ev_aload_n d_132_541 rfl ?_
  refine ev_aload_n d_132_542 rfl ?_
  refine ev_iload d_132_543 rfl ?_
  refine ev_iconst d_132_545 ci_1 ?_
  refine ev_iadd (v := (Int32.ofNat (p + 1))) d_132_546 (li_add p 1) ?_
  refine ev_sald (i := (p + 1)) d_132_547 (li_in hp hL (by decide)) (li_nat hp hL (by decide)) ?_
  refine ev_cvI (As := [.int (xs (p + 1))]) (t := []) (e' := (e + 1)) d_132_548 ml_9_112 rfl rfl rfl rfl rfl (le_e rfl rfl (by omega)) rfl (ltk6 (by decide) hN) rfl rfl rfl (ev_m_state (Nat.le_of_succ_le hN) (xs (p + 1)) σ1) ?_
  refine ev_istore (lv' := [(6, .int ((sp_m_state (xs (p + 1)) σ1).1)), (5, .int k), (0, .ref 1000), (1, .ref 0), (2, .ref 42), (3, .ref 65), (4, .int (Int32.ofNat p))]) d_132_551 (by decide) rfl ?_
  refine ev_aload_n d_132_553 rfl ?_
  refine ev_cvI (As := []) (t := []) (e' := (e + 1)) d_132_554 ml_9_82 rfl rfl rfl rfl rfl (le_e rfl rfl (by omega)) rfl (ltk6 (by decide) hN) rfl rfl rfl (ev_m_thrown (Nat.le_of_succ_le hN) ((sp_m_state (xs (p + 1)) σ1).2)) ?_
  refine ev_iload d_132_557 rfl ?_
  refine ev_icmpT (tgt := 564) d_132_559 rfl heq ?_
  refine ev_iload d_132_564 rfl ?_
  refine ev_if (tgt := 581) d_132_566 rfl (fun _h566 => ?_) (fun _h566 => ?_)
  · refine ev_goto (tgt := 1067) d_132_581 rfl ?_
    refine ev_sub (lv' := [(0, .ref 1000), (1, .ref 0), (2, .ref 42), (3, .ref 65), (4, .int (Int32.ofNat p))]) (by simp) ?_
    exact hk
  · refine ev_aload_n d_132_569 rfl ?_
    refine ev_iconst d_132_570 ci_0 ?_
    refine ev_laload (i := 0) d_132_571 (ltk6 (by decide) hN) rfl (vpi (by decide)) (by decide) ?_
    refine ev_iload d_132_572 rfl ?_
    refine ev_i2l (v := ((sp_m_state (xs (p + 1)) σ1).1).toInt64) d_132_574 rfl ?_
    refine ev_lcmp d_132_575 ?_
    refine ev_ifT (tgt := 581) d_132_576 rfl (hout (Classical.not_not.mp _h566)) ?_
    refine ev_goto (tgt := 1067) d_132_581 rfl ?_
    refine ev_sub (lv' := [(0, .ref 1000), (1, .ref 0), (2, .ref 42), (3, .ref 65), (4, .int (Int32.ofNat p))]) (by simp) ?_
    exact hk
theorem law_8 (hN : 66 ≤ N) (p e : Nat) (hp : p + 6 ≤ L) (hL : L ≤ 3073) (he : e + 24 ≤ 20000) (σ σ1 : mmS) (k : Int32) (hw : Ev N L xs (79, 0, lv_args 0 [.ref 0, .int (xs (p + 1)), .int (xs (p + 2)), .ref 65], [], 0, σ) (mmSI (k, σ1))) (heq : (sp_m_thrown ((sp_m_clock (xs (p + 1)) (xs (p + 2)) σ1).2)) = k) (hout : k = 0 → (lg_cmp (((sp_m_clock (xs (p + 1)) (xs (p + 2)) σ1).2).2 65 0) (((sp_m_clock (xs (p + 1)) (xs (p + 2)) σ1).1).toInt64)) = (0 : Int32)) (r : mmR) (hk : Ev N L xs (132, 1067, [(0, .ref 1000), (1, .ref 0), (2, .ref 42), (3, .ref 65), (4, .int (Int32.ofNat p))], [], e + 3, (sp_m_clock (xs (p + 1)) (xs (p + 2)) σ1).2) r) : Ev N L xs (132, 584, [(0, .ref 1000), (1, .ref 0), (2, .ref 42), (3, .ref 65), (4, .int (Int32.ofNat p))], [], e, σ) (r) := by
  refine ev_aload_n d_132_584 rfl ?_
  refine ev_aload_n d_132_585 rfl ?_
  refine ev_iload d_132_586 rfl ?_
  refine ev_iconst d_132_588 ci_1 ?_
  refine ev_iadd (v := (Int32.ofNat (p + 1))) d_132_589 (li_add p 1) ?_
  refine ev_sald (i := (p + 1)) d_132_590 (li_in hp hL (by decide)) (li_nat hp hL (by decide)) ?_
  refine ev_aload_n d_132_591 rfl ?_
  refine ev_iload d_132_592 rfl ?_
  refine ev_iconst d_132_594 ci_2 ?_
  refine ev_iadd (v := (Int32.ofNat (p + 2))) d_132_595 (li_add p 2) ?_
  refine ev_sald (i := (p + 2)) d_132_596 (li_in hp hL (by decide)) (li_nat hp hL (by decide)) ?_
  refine ev_aload_n d_132_597 rfl ?_
  refine ev_csI (As := [.ref 0, .int (xs (p + 1)), .int (xs (p + 2)), .ref 65]) (t := []) (e' := (e + 3)) d_132_598 ml_9_113 rfl rfl rfl rfl rfl (le_e rfl rfl (by omega)) rfl rfl hw ?_
  refine ev_istore (lv' := [(5, .int k), (0, .ref 1000), (1, .ref 0), (2, .ref 42), (3, .ref 65), (4, .int (Int32.ofNat p))]) d_132_601 (by decide) rfl ?_
  refine ev_aload_n d_132_603 rfl ?_
  refine ev_aload_n d_132_604 rfl ?_
  refine ev_iload d_132_605 rfl ?_
  refine ev_iconst d_132_607 ci_1 ?_
  refine ev_iadd (v := (Int32.ofNat (p + 1))) d_132_608 (li_add p 1) ?_
  refine ev_sald (i := (p + 1)) d_132_609 (li_in hp hL (by decide)) (li_nat hp hL (by decide)) ?_
  refine ev_aload_n d_132_610 rfl ?_
  refine ev_iload d_132_611 rfl ?_
  refine ev_iconst d_132_613 ci_2 ?_
  refine ev_iadd (v := (Int32.ofNat (p + 2))) d_132_614 (li_add p 2) ?_
  refine ev_sald (i := (p + 2)) d_132_615 (li_in hp hL (by decide)) (li_nat hp hL (by decide)) ?_
  refine ev_cvI (As := [.int (xs (p + 1)), .int (xs (p + 2))]) (t := []) (e' := (e + 3)) d_132_616 ml_9_116 rfl rfl rfl rfl rfl (le_e rfl rfl (by omega)) rfl (ltk6 (by decide) hN) rfl rfl rfl (ev_m_clock (Nat.le_of_succ_le hN) (xs (p + 1)) (xs (p + 2)) σ1) ?_
  refine ev_istore (lv' := [(6, .int ((sp_m_clock (xs (p + 1)) (xs (p + 2)) σ1).1)), (5, .int k), (0, .ref 1000), (1, .ref 0), (2, .ref 42), (3, .ref 65), (4, .int (Int32.ofNat p))]) d_132_619 (by decide) rfl ?_
  refine ev_aload_n d_132_621 rfl ?_
  refine ev_cvI (As := []) (t := []) (e' := (e + 3)) d_132_622 ml_9_82 rfl rfl rfl rfl rfl (le_e rfl rfl (by omega)) rfl (ltk6 (by decide) hN) rfl rfl rfl (ev_m_thrown (Nat.le_of_succ_le hN) ((sp_m_clock (xs (p + 1)) (xs (p + 2)) σ1).2)) ?_
  refine ev_iload d_132_625 rfl ?_
  refine ev_icmpT (tgt := 632) d_132_627 rfl heq ?_
  refine ev_iload d_132_632 rfl ?_
  refine ev_if (tgt := 649) d_132_634 rfl (fun _h634 => ?_) (fun _h634 => ?_)
  · refine ev_goto (tgt := 1067) d_132_649 rfl ?_
    refine ev_sub (lv' := [(0, .ref 1000), (1, .ref 0), (2, .ref 42), (3, .ref 65), (4, .int (Int32.ofNat p))]) (by simp) ?_
    exact hk
  · refine ev_aload_n d_132_637 rfl ?_
    refine ev_iconst d_132_638 ci_0 ?_
    refine ev_laload (i := 0) d_132_639 (ltk6 (by decide) hN) rfl (vpi (by decide)) (by decide) ?_
    refine ev_iload d_132_640 rfl ?_
    refine ev_i2l (v := ((sp_m_clock (xs (p + 1)) (xs (p + 2)) σ1).1).toInt64) d_132_642 rfl ?_
    refine ev_lcmp d_132_643 ?_
    refine ev_ifT (tgt := 649) d_132_644 rfl (hout (Classical.not_not.mp _h634)) ?_
    refine ev_goto (tgt := 1067) d_132_649 rfl ?_
    refine ev_sub (lv' := [(0, .ref 1000), (1, .ref 0), (2, .ref 42), (3, .ref 65), (4, .int (Int32.ofNat p))]) (by simp) ?_
    exact hk
theorem law_9f (hN : 66 ≤ N) (p e : Nat) (hp : p + 6 ≤ L) (hL : L ≤ 3073) (he : e + 24 ≤ 20000) (σ σ1 : mmS) (k : Int32) (hb : (xs (p + 3)) = (0 : Int32)) (hw : Ev N L xs (82, 0, lv_args 0 [.ref 0, .int (xs (p + 1)), .int (xs (p + 2)), .int (0 : Int32), .ref 65], [], 0, σ) (mmSI (k, σ1))) (heq : (sp_m_thrown ((sp_m_deviation (xs (p + 1)) (xs (p + 2)) (0 : Int32) σ1).2)) = k) (hout : k = 0 → (lg_cmp (((sp_m_deviation (xs (p + 1)) (xs (p + 2)) (0 : Int32) σ1).2).2 65 0) (((sp_m_deviation (xs (p + 1)) (xs (p + 2)) (0 : Int32) σ1).1).toInt64)) = (0 : Int32)) (r : mmR) (hk : Ev N L xs (132, 1067, [(0, .ref 1000), (1, .ref 0), (2, .ref 42), (3, .ref 65), (4, .int (Int32.ofNat p))], [], e + 3, (sp_m_deviation (xs (p + 1)) (xs (p + 2)) (0 : Int32) σ1).2) r) : Ev N L xs (132, 652, [(0, .ref 1000), (1, .ref 0), (2, .ref 42), (3, .ref 65), (4, .int (Int32.ofNat p))], [], e, σ) (r) := by
  refine ev_aload_n d_132_652 rfl ?_
  refine ev_aload_n d_132_653 rfl ?_
  refine ev_iload d_132_654 rfl ?_
  refine ev_iconst d_132_656 ci_1 ?_
  refine ev_iadd (v := (Int32.ofNat (p + 1))) d_132_657 (li_add p 1) ?_
  refine ev_sald (i := (p + 1)) d_132_658 (li_in hp hL (by decide)) (li_nat hp hL (by decide)) ?_
  refine ev_aload_n d_132_659 rfl ?_
  refine ev_iload d_132_660 rfl ?_
  refine ev_iconst d_132_662 ci_2 ?_
  refine ev_iadd (v := (Int32.ofNat (p + 2))) d_132_663 (li_add p 2) ?_
  refine ev_sald (i := (p + 2)) d_132_664 (li_in hp hL (by decide)) (li_nat hp hL (by decide)) ?_
  refine ev_aload_n d_132_665 rfl ?_
  refine ev_iload d_132_666 rfl ?_
  refine ev_iconst d_132_668 ci_3 ?_
  refine ev_iadd (v := (Int32.ofNat (p + 3))) d_132_669 (li_add p 3) ?_
  refine ev_sald (i := (p + 3)) d_132_670 (li_in hp hL (by decide)) (li_nat hp hL (by decide)) ?_
  refine ev_ifT (tgt := 678) d_132_671 rfl hb ?_
  refine ev_iconst d_132_678 ci_0 ?_
  refine ev_aload_n d_132_679 rfl ?_
  refine ev_csI (As := [.ref 0, .int (xs (p + 1)), .int (xs (p + 2)), .int (0 : Int32), .ref 65]) (t := []) (e' := (e + 3)) d_132_680 ml_9_117 rfl rfl rfl rfl rfl (le_e rfl rfl (by omega)) rfl rfl hw ?_
  refine ev_istore (lv' := [(5, .int k), (0, .ref 1000), (1, .ref 0), (2, .ref 42), (3, .ref 65), (4, .int (Int32.ofNat p))]) d_132_683 (by decide) rfl ?_
  refine ev_aload_n d_132_685 rfl ?_
  refine ev_aload_n d_132_686 rfl ?_
  refine ev_iload d_132_687 rfl ?_
  refine ev_iconst d_132_689 ci_1 ?_
  refine ev_iadd (v := (Int32.ofNat (p + 1))) d_132_690 (li_add p 1) ?_
  refine ev_sald (i := (p + 1)) d_132_691 (li_in hp hL (by decide)) (li_nat hp hL (by decide)) ?_
  refine ev_aload_n d_132_692 rfl ?_
  refine ev_iload d_132_693 rfl ?_
  refine ev_iconst d_132_695 ci_2 ?_
  refine ev_iadd (v := (Int32.ofNat (p + 2))) d_132_696 (li_add p 2) ?_
  refine ev_sald (i := (p + 2)) d_132_697 (li_in hp hL (by decide)) (li_nat hp hL (by decide)) ?_
  refine ev_aload_n d_132_698 rfl ?_
  refine ev_iload d_132_699 rfl ?_
  refine ev_iconst d_132_701 ci_3 ?_
  refine ev_iadd (v := (Int32.ofNat (p + 3))) d_132_702 (li_add p 3) ?_
  refine ev_sald (i := (p + 3)) d_132_703 (li_in hp hL (by decide)) (li_nat hp hL (by decide)) ?_
  refine ev_ifT (tgt := 711) d_132_704 rfl hb ?_
  refine ev_iconst d_132_711 ci_0 ?_
  refine ev_cvI (As := [.int (xs (p + 1)), .int (xs (p + 2)), .int (0 : Int32)]) (t := []) (e' := (e + 3)) d_132_712 ml_9_120 rfl rfl rfl rfl rfl (le_e rfl rfl (by omega)) rfl (ltk6 (by decide) hN) rfl rfl rfl (ev_m_deviation (Nat.le_of_succ_le hN) (xs (p + 1)) (xs (p + 2)) (0 : Int32) σ1) ?_
  refine ev_istore (lv' := [(6, .int ((sp_m_deviation (xs (p + 1)) (xs (p + 2)) (0 : Int32) σ1).1)), (5, .int k), (0, .ref 1000), (1, .ref 0), (2, .ref 42), (3, .ref 65), (4, .int (Int32.ofNat p))]) d_132_715 (by decide) rfl ?_
  refine ev_aload_n d_132_717 rfl ?_
  refine ev_cvI (As := []) (t := []) (e' := (e + 3)) d_132_718 ml_9_82 rfl rfl rfl rfl rfl (le_e rfl rfl (by omega)) rfl (ltk6 (by decide) hN) rfl rfl rfl (ev_m_thrown (Nat.le_of_succ_le hN) ((sp_m_deviation (xs (p + 1)) (xs (p + 2)) (0 : Int32) σ1).2)) ?_
  refine ev_iload d_132_721 rfl ?_
  refine ev_icmpT (tgt := 728) d_132_723 rfl heq ?_
  refine ev_iload d_132_728 rfl ?_
  refine ev_if (tgt := 745) d_132_730 rfl (fun _h730 => ?_) (fun _h730 => ?_)
  · refine ev_goto (tgt := 1067) d_132_745 rfl ?_
    refine ev_sub (lv' := [(0, .ref 1000), (1, .ref 0), (2, .ref 42), (3, .ref 65), (4, .int (Int32.ofNat p))]) (by simp) ?_
    exact hk
  · refine ev_aload_n d_132_733 rfl ?_
    refine ev_iconst d_132_734 ci_0 ?_
    refine ev_laload (i := 0) d_132_735 (ltk6 (by decide) hN) rfl (vpi (by decide)) (by decide) ?_
    refine ev_iload d_132_736 rfl ?_
    refine ev_i2l (v := ((sp_m_deviation (xs (p + 1)) (xs (p + 2)) (0 : Int32) σ1).1).toInt64) d_132_738 rfl ?_
    refine ev_lcmp d_132_739 ?_
    refine ev_ifT (tgt := 745) d_132_740 rfl (hout (Classical.not_not.mp _h730)) ?_
    refine ev_goto (tgt := 1067) d_132_745 rfl ?_
    refine ev_sub (lv' := [(0, .ref 1000), (1, .ref 0), (2, .ref 42), (3, .ref 65), (4, .int (Int32.ofNat p))]) (by simp) ?_
    exact hk
theorem law_9t (hN : 66 ≤ N) (p e : Nat) (hp : p + 6 ≤ L) (hL : L ≤ 3073) (he : e + 24 ≤ 20000) (σ σ1 : mmS) (k : Int32) (hb : ¬ ((xs (p + 3)) = (0 : Int32))) (hw : Ev N L xs (82, 0, lv_args 0 [.ref 0, .int (xs (p + 1)), .int (xs (p + 2)), .int (1 : Int32), .ref 65], [], 0, σ) (mmSI (k, σ1))) (heq : (sp_m_thrown ((sp_m_deviation (xs (p + 1)) (xs (p + 2)) (1 : Int32) σ1).2)) = k) (hout : k = 0 → (lg_cmp (((sp_m_deviation (xs (p + 1)) (xs (p + 2)) (1 : Int32) σ1).2).2 65 0) (((sp_m_deviation (xs (p + 1)) (xs (p + 2)) (1 : Int32) σ1).1).toInt64)) = (0 : Int32)) (r : mmR) (hk : Ev N L xs (132, 1067, [(0, .ref 1000), (1, .ref 0), (2, .ref 42), (3, .ref 65), (4, .int (Int32.ofNat p))], [], e + 3, (sp_m_deviation (xs (p + 1)) (xs (p + 2)) (1 : Int32) σ1).2) r) : Ev N L xs (132, 652, [(0, .ref 1000), (1, .ref 0), (2, .ref 42), (3, .ref 65), (4, .int (Int32.ofNat p))], [], e, σ) (r) := by
  refine ev_aload_n d_132_652 rfl ?_
  refine ev_aload_n d_132_653 rfl ?_
  refine ev_iload d_132_654 rfl ?_
  refine ev_iconst d_132_656 ci_1 ?_
  refine ev_iadd (v := (Int32.ofNat (p + 1))) d_132_657 (li_add p 1) ?_
  refine ev_sald (i := (p + 1)) d_132_658 (li_in hp hL (by decide)) (li_nat hp hL (by decide)) ?_
  refine ev_aload_n d_132_659 rfl ?_
  refine ev_iload d_132_660 rfl ?_
  refine ev_iconst d_132_662 ci_2 ?_
  refine ev_iadd (v := (Int32.ofNat (p + 2))) d_132_663 (li_add p 2) ?_
  refine ev_sald (i := (p + 2)) d_132_664 (li_in hp hL (by decide)) (li_nat hp hL (by decide)) ?_
  refine ev_aload_n d_132_665 rfl ?_
  refine ev_iload d_132_666 rfl ?_
  refine ev_iconst d_132_668 ci_3 ?_
  refine ev_iadd (v := (Int32.ofNat (p + 3))) d_132_669 (li_add p 3) ?_
  refine ev_sald (i := (p + 3)) d_132_670 (li_in hp hL (by decide)) (li_nat hp hL (by decide)) ?_
  refine ev_ifF (tgt := 678) d_132_671 rfl hb ?_
  refine ev_iconst d_132_674 ci_1 ?_
  refine ev_goto (tgt := 679) d_132_675 rfl ?_
  refine ev_aload_n d_132_679 rfl ?_
  refine ev_csI (As := [.ref 0, .int (xs (p + 1)), .int (xs (p + 2)), .int (1 : Int32), .ref 65]) (t := []) (e' := (e + 3)) d_132_680 ml_9_117 rfl rfl rfl rfl rfl (le_e rfl rfl (by omega)) rfl rfl hw ?_
  refine ev_istore (lv' := [(5, .int k), (0, .ref 1000), (1, .ref 0), (2, .ref 42), (3, .ref 65), (4, .int (Int32.ofNat p))]) d_132_683 (by decide) rfl ?_
  refine ev_aload_n d_132_685 rfl ?_
  refine ev_aload_n d_132_686 rfl ?_
  refine ev_iload d_132_687 rfl ?_
  refine ev_iconst d_132_689 ci_1 ?_
  refine ev_iadd (v := (Int32.ofNat (p + 1))) d_132_690 (li_add p 1) ?_
  refine ev_sald (i := (p + 1)) d_132_691 (li_in hp hL (by decide)) (li_nat hp hL (by decide)) ?_
  refine ev_aload_n d_132_692 rfl ?_
  refine ev_iload d_132_693 rfl ?_
  refine ev_iconst d_132_695 ci_2 ?_
  refine ev_iadd (v := (Int32.ofNat (p + 2))) d_132_696 (li_add p 2) ?_
  refine ev_sald (i := (p + 2)) d_132_697 (li_in hp hL (by decide)) (li_nat hp hL (by decide)) ?_
  refine ev_aload_n d_132_698 rfl ?_
  refine ev_iload d_132_699 rfl ?_
  refine ev_iconst d_132_701 ci_3 ?_
  refine ev_iadd (v := (Int32.ofNat (p + 3))) d_132_702 (li_add p 3) ?_
  refine ev_sald (i := (p + 3)) d_132_703 (li_in hp hL (by decide)) (li_nat hp hL (by decide)) ?_
  refine ev_ifF (tgt := 711) d_132_704 rfl hb ?_
  refine ev_iconst d_132_707 ci_1 ?_
  refine ev_goto (tgt := 712) d_132_708 rfl ?_
  refine ev_cvI (As := [.int (xs (p + 1)), .int (xs (p + 2)), .int (1 : Int32)]) (t := []) (e' := (e + 3)) d_132_712 ml_9_120 rfl rfl rfl rfl rfl (le_e rfl rfl (by omega)) rfl (ltk6 (by decide) hN) rfl rfl rfl (ev_m_deviation (Nat.le_of_succ_le hN) (xs (p + 1)) (xs (p + 2)) (1 : Int32) σ1) ?_
  refine ev_istore (lv' := [(6, .int ((sp_m_deviation (xs (p + 1)) (xs (p + 2)) (1 : Int32) σ1).1)), (5, .int k), (0, .ref 1000), (1, .ref 0), (2, .ref 42), (3, .ref 65), (4, .int (Int32.ofNat p))]) d_132_715 (by decide) rfl ?_
  refine ev_aload_n d_132_717 rfl ?_
  refine ev_cvI (As := []) (t := []) (e' := (e + 3)) d_132_718 ml_9_82 rfl rfl rfl rfl rfl (le_e rfl rfl (by omega)) rfl (ltk6 (by decide) hN) rfl rfl rfl (ev_m_thrown (Nat.le_of_succ_le hN) ((sp_m_deviation (xs (p + 1)) (xs (p + 2)) (1 : Int32) σ1).2)) ?_
  refine ev_iload d_132_721 rfl ?_
  refine ev_icmpT (tgt := 728) d_132_723 rfl heq ?_
  refine ev_iload d_132_728 rfl ?_
  refine ev_if (tgt := 745) d_132_730 rfl (fun _h730 => ?_) (fun _h730 => ?_)
  · refine ev_goto (tgt := 1067) d_132_745 rfl ?_
    refine ev_sub (lv' := [(0, .ref 1000), (1, .ref 0), (2, .ref 42), (3, .ref 65), (4, .int (Int32.ofNat p))]) (by simp) ?_
    exact hk
  · refine ev_aload_n d_132_733 rfl ?_
    refine ev_iconst d_132_734 ci_0 ?_
    refine ev_laload (i := 0) d_132_735 (ltk6 (by decide) hN) rfl (vpi (by decide)) (by decide) ?_
    refine ev_iload d_132_736 rfl ?_
    refine ev_i2l (v := ((sp_m_deviation (xs (p + 1)) (xs (p + 2)) (1 : Int32) σ1).1).toInt64) d_132_738 rfl ?_
    refine ev_lcmp d_132_739 ?_
    refine ev_ifT (tgt := 745) d_132_740 rfl (hout (Classical.not_not.mp _h730)) ?_
    refine ev_goto (tgt := 1067) d_132_745 rfl ?_
    refine ev_sub (lv' := [(0, .ref 1000), (1, .ref 0), (2, .ref 42), (3, .ref 65), (4, .int (Int32.ofNat p))]) (by simp) ?_
    exact hk
theorem law_10 (hN : 66 ≤ N) (p e : Nat) (hp : p + 6 ≤ L) (hL : L ≤ 3073) (he : e + 24 ≤ 20000) (σ σ1 : mmS) (k : Int32) (hw : Ev N L xs (86, 0, lv_args 0 [.ref 0, .int (xs (p + 1)), .int (xs (p + 2)), .ref 65], [], 0, σ) (mmSI (k, σ1))) (heq : (sp_m_thrown ((sp_m_got (xs (p + 1)) (xs (p + 2)) σ1).2)) = k) (hout : k = 0 → (lg_cmp (((sp_m_got (xs (p + 1)) (xs (p + 2)) σ1).2).2 65 0) (((sp_m_got (xs (p + 1)) (xs (p + 2)) σ1).1).toInt64)) = (0 : Int32)) (r : mmR) (hk : Ev N L xs (132, 1067, [(0, .ref 1000), (1, .ref 0), (2, .ref 42), (3, .ref 65), (4, .int (Int32.ofNat p))], [], e + 3, (sp_m_got (xs (p + 1)) (xs (p + 2)) σ1).2) r) : Ev N L xs (132, 748, [(0, .ref 1000), (1, .ref 0), (2, .ref 42), (3, .ref 65), (4, .int (Int32.ofNat p))], [], e, σ) (r) := by
  refine ev_aload_n d_132_748 rfl ?_
  refine ev_aload_n d_132_749 rfl ?_
  refine ev_iload d_132_750 rfl ?_
  refine ev_iconst d_132_752 ci_1 ?_
  refine ev_iadd (v := (Int32.ofNat (p + 1))) d_132_753 (li_add p 1) ?_
  refine ev_sald (i := (p + 1)) d_132_754 (li_in hp hL (by decide)) (li_nat hp hL (by decide)) ?_
  refine ev_aload_n d_132_755 rfl ?_
  refine ev_iload d_132_756 rfl ?_
  refine ev_iconst d_132_758 ci_2 ?_
  refine ev_iadd (v := (Int32.ofNat (p + 2))) d_132_759 (li_add p 2) ?_
  refine ev_sald (i := (p + 2)) d_132_760 (li_in hp hL (by decide)) (li_nat hp hL (by decide)) ?_
  refine ev_aload_n d_132_761 rfl ?_
  refine ev_csI (As := [.ref 0, .int (xs (p + 1)), .int (xs (p + 2)), .ref 65]) (t := []) (e' := (e + 3)) d_132_762 ml_9_121 rfl rfl rfl rfl rfl (le_e rfl rfl (by omega)) rfl rfl hw ?_
  refine ev_istore (lv' := [(5, .int k), (0, .ref 1000), (1, .ref 0), (2, .ref 42), (3, .ref 65), (4, .int (Int32.ofNat p))]) d_132_765 (by decide) rfl ?_
  refine ev_aload_n d_132_767 rfl ?_
  refine ev_aload_n d_132_768 rfl ?_
  refine ev_iload d_132_769 rfl ?_
  refine ev_iconst d_132_771 ci_1 ?_
  refine ev_iadd (v := (Int32.ofNat (p + 1))) d_132_772 (li_add p 1) ?_
  refine ev_sald (i := (p + 1)) d_132_773 (li_in hp hL (by decide)) (li_nat hp hL (by decide)) ?_
  refine ev_aload_n d_132_774 rfl ?_
  refine ev_iload d_132_775 rfl ?_
  refine ev_iconst d_132_777 ci_2 ?_
  refine ev_iadd (v := (Int32.ofNat (p + 2))) d_132_778 (li_add p 2) ?_
  refine ev_sald (i := (p + 2)) d_132_779 (li_in hp hL (by decide)) (li_nat hp hL (by decide)) ?_
  refine ev_cvI (As := [.int (xs (p + 1)), .int (xs (p + 2))]) (t := []) (e' := (e + 3)) d_132_780 ml_9_123 rfl rfl rfl rfl rfl (le_e rfl rfl (by omega)) rfl (ltk6 (by decide) hN) rfl rfl rfl (ev_m_got (Nat.le_of_succ_le hN) (xs (p + 1)) (xs (p + 2)) σ1) ?_
  refine ev_istore (lv' := [(6, .int ((sp_m_got (xs (p + 1)) (xs (p + 2)) σ1).1)), (5, .int k), (0, .ref 1000), (1, .ref 0), (2, .ref 42), (3, .ref 65), (4, .int (Int32.ofNat p))]) d_132_783 (by decide) rfl ?_
  refine ev_aload_n d_132_785 rfl ?_
  refine ev_cvI (As := []) (t := []) (e' := (e + 3)) d_132_786 ml_9_82 rfl rfl rfl rfl rfl (le_e rfl rfl (by omega)) rfl (ltk6 (by decide) hN) rfl rfl rfl (ev_m_thrown (Nat.le_of_succ_le hN) ((sp_m_got (xs (p + 1)) (xs (p + 2)) σ1).2)) ?_
  refine ev_iload d_132_789 rfl ?_
  refine ev_icmpT (tgt := 796) d_132_791 rfl heq ?_
  refine ev_iload d_132_796 rfl ?_
  refine ev_if (tgt := 813) d_132_798 rfl (fun _h798 => ?_) (fun _h798 => ?_)
  · refine ev_goto (tgt := 1067) d_132_813 rfl ?_
    refine ev_sub (lv' := [(0, .ref 1000), (1, .ref 0), (2, .ref 42), (3, .ref 65), (4, .int (Int32.ofNat p))]) (by simp) ?_
    exact hk
  · refine ev_aload_n d_132_801 rfl ?_
    refine ev_iconst d_132_802 ci_0 ?_
    refine ev_laload (i := 0) d_132_803 (ltk6 (by decide) hN) rfl (vpi (by decide)) (by decide) ?_
    refine ev_iload d_132_804 rfl ?_
    refine ev_i2l (v := ((sp_m_got (xs (p + 1)) (xs (p + 2)) σ1).1).toInt64) d_132_806 rfl ?_
    refine ev_lcmp d_132_807 ?_
    refine ev_ifT (tgt := 813) d_132_808 rfl (hout (Classical.not_not.mp _h798)) ?_
    refine ev_goto (tgt := 1067) d_132_813 rfl ?_
    refine ev_sub (lv' := [(0, .ref 1000), (1, .ref 0), (2, .ref 42), (3, .ref 65), (4, .int (Int32.ofNat p))]) (by simp) ?_
    exact hk
theorem law_11 (hN : 66 ≤ N) (p e : Nat) (hp : p + 6 ≤ L) (hL : L ≤ 3073) (he : e + 24 ≤ 20000) (σ : mmS) (heq : (sp_b_frames σ) = (sp_m_frames σ).1) (r : mmR) (hk : Ev N L xs (132, 1067, [(0, .ref 1000), (1, .ref 0), (2, .ref 42), (3, .ref 65), (4, .int (Int32.ofNat p))], [], e, (sp_m_frames σ).2) r) : Ev N L xs (132, 816, [(0, .ref 1000), (1, .ref 0), (2, .ref 42), (3, .ref 65), (4, .int (Int32.ofNat p))], [], e, σ) (r) := by
  refine ev_aload_n d_132_816 rfl ?_
  refine ev_cvI (As := []) (t := []) (e' := e) d_132_817 ml_9_124 rfl rfl rfl rfl rfl (le_e rfl rfl (by omega)) rfl (ltk6 (by decide) hN) rfl rfl rfl (ev_b_frames (Nat.le_of_succ_le hN) σ) ?_
  refine ev_aload_n d_132_820 rfl ?_
  refine ev_cvI (As := []) (t := [.int (sp_b_frames σ)]) (e' := e) d_132_821 ml_9_127 rfl rfl rfl rfl rfl (le_e rfl rfl (by omega)) rfl (ltk6 (by decide) hN) rfl rfl rfl (ev_m_frames (Nat.le_of_succ_le hN) σ) ?_
  refine ev_icmpT (tgt := 1067) d_132_824 rfl heq ?_
  exact hk
theorem law_12 (hN : 66 ≤ N) (p e : Nat) (hp : p + 6 ≤ L) (hL : L ≤ 3073) (he : e + 24 ≤ 20000) (σ σ1 : mmS) (k : Int32) (hw : Ev N L xs (88, 0, lv_args 0 [.ref 0, .ref 65], [], 0, σ) (mmSI (k, σ1))) (heq : (sp_m_thrown ((sp_m_last σ1).2)) = k) (hout : k = 0 → (lg_cmp (((sp_m_last σ1).2).2 65 0) ((sp_m_last σ1).1)) = (0 : Int32)) (r : mmR) (hk : Ev N L xs (132, 1067, [(0, .ref 1000), (1, .ref 0), (2, .ref 42), (3, .ref 65), (4, .int (Int32.ofNat p))], [], e + 1, (sp_m_last σ1).2) r) : Ev N L xs (132, 829, [(0, .ref 1000), (1, .ref 0), (2, .ref 42), (3, .ref 65), (4, .int (Int32.ofNat p))], [], e, σ) (r) := by
  refine ev_aload_n d_132_829 rfl ?_
  refine ev_aload_n d_132_830 rfl ?_
  refine ev_csI (As := [.ref 0, .ref 65]) (t := []) (e' := (e + 1)) d_132_831 ml_9_128 rfl rfl rfl rfl rfl (le_e rfl rfl (by omega)) rfl rfl hw ?_
  refine ev_istore (lv' := [(5, .int k), (0, .ref 1000), (1, .ref 0), (2, .ref 42), (3, .ref 65), (4, .int (Int32.ofNat p))]) d_132_834 (by decide) rfl ?_
  refine ev_aload_n d_132_836 rfl ?_
  refine ev_cvJ (As := []) (t := []) (e' := (e + 1)) d_132_837 ml_9_131 rfl rfl rfl rfl rfl (le_e rfl rfl (by omega)) rfl (ltk6 (by decide) hN) rfl rfl rfl (ev_m_last (Nat.le_of_succ_le hN) σ1) ?_
  refine ev_lstore (lv' := [(6, .long ((sp_m_last σ1).1)), (5, .int k), (0, .ref 1000), (1, .ref 0), (2, .ref 42), (3, .ref 65), (4, .int (Int32.ofNat p))]) d_132_840 (by decide) rfl ?_
  refine ev_aload_n d_132_842 rfl ?_
  refine ev_cvI (As := []) (t := []) (e' := (e + 1)) d_132_843 ml_9_82 rfl rfl rfl rfl rfl (le_e rfl rfl (by omega)) rfl (ltk6 (by decide) hN) rfl rfl rfl (ev_m_thrown (Nat.le_of_succ_le hN) ((sp_m_last σ1).2)) ?_
  refine ev_iload d_132_846 rfl ?_
  refine ev_icmpT (tgt := 853) d_132_848 rfl heq ?_
  refine ev_iload d_132_853 rfl ?_
  refine ev_if (tgt := 869) d_132_855 rfl (fun _h855 => ?_) (fun _h855 => ?_)
  · refine ev_goto (tgt := 1067) d_132_869 rfl ?_
    refine ev_sub (lv' := [(0, .ref 1000), (1, .ref 0), (2, .ref 42), (3, .ref 65), (4, .int (Int32.ofNat p))]) (by simp) ?_
    exact hk
  · refine ev_aload_n d_132_858 rfl ?_
    refine ev_iconst d_132_859 ci_0 ?_
    refine ev_laload (i := 0) d_132_860 (ltk6 (by decide) hN) rfl (vpi (by decide)) (by decide) ?_
    refine ev_lload d_132_861 rfl ?_
    refine ev_lcmp d_132_863 ?_
    refine ev_ifT (tgt := 869) d_132_864 rfl (hout (Classical.not_not.mp _h855)) ?_
    refine ev_goto (tgt := 1067) d_132_869 rfl ?_
    refine ev_sub (lv' := [(0, .ref 1000), (1, .ref 0), (2, .ref 42), (3, .ref 65), (4, .int (Int32.ofNat p))]) (by simp) ?_
    exact hk
theorem law_13f (hN : 66 ≤ N) (p e : Nat) (hp : p + 6 ≤ L) (hL : L ≤ 3073) (he : e + 24 ≤ 20000) (σ σ1 : mmS) (k : Int32) (hb : (xs (p + 3)) = (0 : Int32)) (hw : Ev N L xs (90, 0, lv_args 0 [.ref 0, .int (xs (p + 1)), .int (xs (p + 2)), .int (0 : Int32), .int (xs (p + 4)), .ref 65], [], 0, σ) (mmSI (k, σ1))) (heq : (sp_m_thrown ((sp_m_encode (xs (p + 1)) (xs (p + 2)) (0 : Int32) (xs (p + 4)) σ1).2)) = k) (hout : k = 0 → (lg_cmp (((sp_m_encode (xs (p + 1)) (xs (p + 2)) (0 : Int32) (xs (p + 4)) σ1).2).2 65 0) ((sp_m_encode (xs (p + 1)) (xs (p + 2)) (0 : Int32) (xs (p + 4)) σ1).1)) = (0 : Int32)) (r : mmR) (hk : Ev N L xs (132, 1067, [(0, .ref 1000), (1, .ref 0), (2, .ref 42), (3, .ref 65), (4, .int (Int32.ofNat p))], [], e + 3, (sp_m_encode (xs (p + 1)) (xs (p + 2)) (0 : Int32) (xs (p + 4)) σ1).2) r) : Ev N L xs (132, 872, [(0, .ref 1000), (1, .ref 0), (2, .ref 42), (3, .ref 65), (4, .int (Int32.ofNat p))], [], e, σ) (r) := by
  refine ev_aload_n d_132_872 rfl ?_
  refine ev_aload_n d_132_873 rfl ?_
  refine ev_iload d_132_874 rfl ?_
  refine ev_iconst d_132_876 ci_1 ?_
  refine ev_iadd (v := (Int32.ofNat (p + 1))) d_132_877 (li_add p 1) ?_
  refine ev_sald (i := (p + 1)) d_132_878 (li_in hp hL (by decide)) (li_nat hp hL (by decide)) ?_
  refine ev_aload_n d_132_879 rfl ?_
  refine ev_iload d_132_880 rfl ?_
  refine ev_iconst d_132_882 ci_2 ?_
  refine ev_iadd (v := (Int32.ofNat (p + 2))) d_132_883 (li_add p 2) ?_
  refine ev_sald (i := (p + 2)) d_132_884 (li_in hp hL (by decide)) (li_nat hp hL (by decide)) ?_
  refine ev_aload_n d_132_885 rfl ?_
  refine ev_iload d_132_886 rfl ?_
  refine ev_iconst d_132_888 ci_3 ?_
  refine ev_iadd (v := (Int32.ofNat (p + 3))) d_132_889 (li_add p 3) ?_
  refine ev_sald (i := (p + 3)) d_132_890 (li_in hp hL (by decide)) (li_nat hp hL (by decide)) ?_
  refine ev_ifT (tgt := 898) d_132_891 rfl hb ?_
  refine ev_iconst d_132_898 ci_0 ?_
  refine ev_aload_n d_132_899 rfl ?_
  refine ev_iload d_132_900 rfl ?_
  refine ev_iconst d_132_902 ci_4 ?_
  refine ev_iadd (v := (Int32.ofNat (p + 4))) d_132_903 (li_add p 4) ?_
  refine ev_sald (i := (p + 4)) d_132_904 (li_in hp hL (by decide)) (li_nat hp hL (by decide)) ?_
  refine ev_aload_n d_132_905 rfl ?_
  refine ev_csI (As := [.ref 0, .int (xs (p + 1)), .int (xs (p + 2)), .int (0 : Int32), .int (xs (p + 4)), .ref 65]) (t := []) (e' := (e + 3)) d_132_906 ml_9_132 rfl rfl rfl rfl rfl (le_e rfl rfl (by omega)) rfl rfl hw ?_
  refine ev_istore (lv' := [(5, .int k), (0, .ref 1000), (1, .ref 0), (2, .ref 42), (3, .ref 65), (4, .int (Int32.ofNat p))]) d_132_909 (by decide) rfl ?_
  refine ev_aload_n d_132_911 rfl ?_
  refine ev_aload_n d_132_912 rfl ?_
  refine ev_iload d_132_913 rfl ?_
  refine ev_iconst d_132_915 ci_1 ?_
  refine ev_iadd (v := (Int32.ofNat (p + 1))) d_132_916 (li_add p 1) ?_
  refine ev_sald (i := (p + 1)) d_132_917 (li_in hp hL (by decide)) (li_nat hp hL (by decide)) ?_
  refine ev_aload_n d_132_918 rfl ?_
  refine ev_iload d_132_919 rfl ?_
  refine ev_iconst d_132_921 ci_2 ?_
  refine ev_iadd (v := (Int32.ofNat (p + 2))) d_132_922 (li_add p 2) ?_
  refine ev_sald (i := (p + 2)) d_132_923 (li_in hp hL (by decide)) (li_nat hp hL (by decide)) ?_
  refine ev_aload_n d_132_924 rfl ?_
  refine ev_iload d_132_925 rfl ?_
  refine ev_iconst d_132_927 ci_3 ?_
  refine ev_iadd (v := (Int32.ofNat (p + 3))) d_132_928 (li_add p 3) ?_
  refine ev_sald (i := (p + 3)) d_132_929 (li_in hp hL (by decide)) (li_nat hp hL (by decide)) ?_
  refine ev_ifT (tgt := 937) d_132_930 rfl hb ?_
  refine ev_iconst d_132_937 ci_0 ?_
  refine ev_aload_n d_132_938 rfl ?_
  refine ev_iload d_132_939 rfl ?_
  refine ev_iconst d_132_941 ci_4 ?_
  refine ev_iadd (v := (Int32.ofNat (p + 4))) d_132_942 (li_add p 4) ?_
  refine ev_sald (i := (p + 4)) d_132_943 (li_in hp hL (by decide)) (li_nat hp hL (by decide)) ?_
  refine ev_cvJ (As := [.int (xs (p + 1)), .int (xs (p + 2)), .int (0 : Int32), .int (xs (p + 4))]) (t := []) (e' := (e + 3)) d_132_944 ml_9_135 rfl rfl rfl rfl rfl (le_e rfl rfl (by omega)) rfl (ltk6 (by decide) hN) rfl rfl rfl (ev_m_encode (Nat.le_of_succ_le hN) (xs (p + 1)) (xs (p + 2)) (0 : Int32) (xs (p + 4)) σ1) ?_
  refine ev_lstore (lv' := [(6, .long ((sp_m_encode (xs (p + 1)) (xs (p + 2)) (0 : Int32) (xs (p + 4)) σ1).1)), (5, .int k), (0, .ref 1000), (1, .ref 0), (2, .ref 42), (3, .ref 65), (4, .int (Int32.ofNat p))]) d_132_947 (by decide) rfl ?_
  refine ev_aload_n d_132_949 rfl ?_
  refine ev_cvI (As := []) (t := []) (e' := (e + 3)) d_132_950 ml_9_82 rfl rfl rfl rfl rfl (le_e rfl rfl (by omega)) rfl (ltk6 (by decide) hN) rfl rfl rfl (ev_m_thrown (Nat.le_of_succ_le hN) ((sp_m_encode (xs (p + 1)) (xs (p + 2)) (0 : Int32) (xs (p + 4)) σ1).2)) ?_
  refine ev_iload d_132_953 rfl ?_
  refine ev_icmpT (tgt := 960) d_132_955 rfl heq ?_
  refine ev_iload d_132_960 rfl ?_
  refine ev_if (tgt := 976) d_132_962 rfl (fun _h962 => ?_) (fun _h962 => ?_)
  · refine ev_goto (tgt := 1067) d_132_976 rfl ?_
    refine ev_sub (lv' := [(0, .ref 1000), (1, .ref 0), (2, .ref 42), (3, .ref 65), (4, .int (Int32.ofNat p))]) (by simp) ?_
    exact hk
  · refine ev_aload_n d_132_965 rfl ?_
    refine ev_iconst d_132_966 ci_0 ?_
    refine ev_laload (i := 0) d_132_967 (ltk6 (by decide) hN) rfl (vpi (by decide)) (by decide) ?_
    refine ev_lload d_132_968 rfl ?_
    refine ev_lcmp d_132_970 ?_
    refine ev_ifT (tgt := 976) d_132_971 rfl (hout (Classical.not_not.mp _h962)) ?_
    refine ev_goto (tgt := 1067) d_132_976 rfl ?_
    refine ev_sub (lv' := [(0, .ref 1000), (1, .ref 0), (2, .ref 42), (3, .ref 65), (4, .int (Int32.ofNat p))]) (by simp) ?_
    exact hk
theorem law_13t (hN : 66 ≤ N) (p e : Nat) (hp : p + 6 ≤ L) (hL : L ≤ 3073) (he : e + 24 ≤ 20000) (σ σ1 : mmS) (k : Int32) (hb : ¬ ((xs (p + 3)) = (0 : Int32))) (hw : Ev N L xs (90, 0, lv_args 0 [.ref 0, .int (xs (p + 1)), .int (xs (p + 2)), .int (1 : Int32), .int (xs (p + 4)), .ref 65], [], 0, σ) (mmSI (k, σ1))) (heq : (sp_m_thrown ((sp_m_encode (xs (p + 1)) (xs (p + 2)) (1 : Int32) (xs (p + 4)) σ1).2)) = k) (hout : k = 0 → (lg_cmp (((sp_m_encode (xs (p + 1)) (xs (p + 2)) (1 : Int32) (xs (p + 4)) σ1).2).2 65 0) ((sp_m_encode (xs (p + 1)) (xs (p + 2)) (1 : Int32) (xs (p + 4)) σ1).1)) = (0 : Int32)) (r : mmR) (hk : Ev N L xs (132, 1067, [(0, .ref 1000), (1, .ref 0), (2, .ref 42), (3, .ref 65), (4, .int (Int32.ofNat p))], [], e + 3, (sp_m_encode (xs (p + 1)) (xs (p + 2)) (1 : Int32) (xs (p + 4)) σ1).2) r) : Ev N L xs (132, 872, [(0, .ref 1000), (1, .ref 0), (2, .ref 42), (3, .ref 65), (4, .int (Int32.ofNat p))], [], e, σ) (r) := by
  refine ev_aload_n d_132_872 rfl ?_
  refine ev_aload_n d_132_873 rfl ?_
  refine ev_iload d_132_874 rfl ?_
  refine ev_iconst d_132_876 ci_1 ?_
  refine ev_iadd (v := (Int32.ofNat (p + 1))) d_132_877 (li_add p 1) ?_
  refine ev_sald (i := (p + 1)) d_132_878 (li_in hp hL (by decide)) (li_nat hp hL (by decide)) ?_
  refine ev_aload_n d_132_879 rfl ?_
  refine ev_iload d_132_880 rfl ?_
  refine ev_iconst d_132_882 ci_2 ?_
  refine ev_iadd (v := (Int32.ofNat (p + 2))) d_132_883 (li_add p 2) ?_
  refine ev_sald (i := (p + 2)) d_132_884 (li_in hp hL (by decide)) (li_nat hp hL (by decide)) ?_
  refine ev_aload_n d_132_885 rfl ?_
  refine ev_iload d_132_886 rfl ?_
  refine ev_iconst d_132_888 ci_3 ?_
  refine ev_iadd (v := (Int32.ofNat (p + 3))) d_132_889 (li_add p 3) ?_
  refine ev_sald (i := (p + 3)) d_132_890 (li_in hp hL (by decide)) (li_nat hp hL (by decide)) ?_
  refine ev_ifF (tgt := 898) d_132_891 rfl hb ?_
  refine ev_iconst d_132_894 ci_1 ?_
  refine ev_goto (tgt := 899) d_132_895 rfl ?_
  refine ev_aload_n d_132_899 rfl ?_
  refine ev_iload d_132_900 rfl ?_
  refine ev_iconst d_132_902 ci_4 ?_
  refine ev_iadd (v := (Int32.ofNat (p + 4))) d_132_903 (li_add p 4) ?_
  refine ev_sald (i := (p + 4)) d_132_904 (li_in hp hL (by decide)) (li_nat hp hL (by decide)) ?_
  refine ev_aload_n d_132_905 rfl ?_
  refine ev_csI (As := [.ref 0, .int (xs (p + 1)), .int (xs (p + 2)), .int (1 : Int32), .int (xs (p + 4)), .ref 65]) (t := []) (e' := (e + 3)) d_132_906 ml_9_132 rfl rfl rfl rfl rfl (le_e rfl rfl (by omega)) rfl rfl hw ?_
  refine ev_istore (lv' := [(5, .int k), (0, .ref 1000), (1, .ref 0), (2, .ref 42), (3, .ref 65), (4, .int (Int32.ofNat p))]) d_132_909 (by decide) rfl ?_
  refine ev_aload_n d_132_911 rfl ?_
  refine ev_aload_n d_132_912 rfl ?_
  refine ev_iload d_132_913 rfl ?_
  refine ev_iconst d_132_915 ci_1 ?_
  refine ev_iadd (v := (Int32.ofNat (p + 1))) d_132_916 (li_add p 1) ?_
  refine ev_sald (i := (p + 1)) d_132_917 (li_in hp hL (by decide)) (li_nat hp hL (by decide)) ?_
  refine ev_aload_n d_132_918 rfl ?_
  refine ev_iload d_132_919 rfl ?_
  refine ev_iconst d_132_921 ci_2 ?_
  refine ev_iadd (v := (Int32.ofNat (p + 2))) d_132_922 (li_add p 2) ?_
  refine ev_sald (i := (p + 2)) d_132_923 (li_in hp hL (by decide)) (li_nat hp hL (by decide)) ?_
  refine ev_aload_n d_132_924 rfl ?_
  refine ev_iload d_132_925 rfl ?_
  refine ev_iconst d_132_927 ci_3 ?_
  refine ev_iadd (v := (Int32.ofNat (p + 3))) d_132_928 (li_add p 3) ?_
  refine ev_sald (i := (p + 3)) d_132_929 (li_in hp hL (by decide)) (li_nat hp hL (by decide)) ?_
  refine ev_ifF (tgt := 937) d_132_930 rfl hb ?_
  refine ev_iconst d_132_933 ci_1 ?_
  refine ev_goto (tgt := 938) d_132_934 rfl ?_
  refine ev_aload_n d_132_938 rfl ?_
  refine ev_iload d_132_939 rfl ?_
  refine ev_iconst d_132_941 ci_4 ?_
  refine ev_iadd (v := (Int32.ofNat (p + 4))) d_132_942 (li_add p 4) ?_
  refine ev_sald (i := (p + 4)) d_132_943 (li_in hp hL (by decide)) (li_nat hp hL (by decide)) ?_
  refine ev_cvJ (As := [.int (xs (p + 1)), .int (xs (p + 2)), .int (1 : Int32), .int (xs (p + 4))]) (t := []) (e' := (e + 3)) d_132_944 ml_9_135 rfl rfl rfl rfl rfl (le_e rfl rfl (by omega)) rfl (ltk6 (by decide) hN) rfl rfl rfl (ev_m_encode (Nat.le_of_succ_le hN) (xs (p + 1)) (xs (p + 2)) (1 : Int32) (xs (p + 4)) σ1) ?_
  refine ev_lstore (lv' := [(6, .long ((sp_m_encode (xs (p + 1)) (xs (p + 2)) (1 : Int32) (xs (p + 4)) σ1).1)), (5, .int k), (0, .ref 1000), (1, .ref 0), (2, .ref 42), (3, .ref 65), (4, .int (Int32.ofNat p))]) d_132_947 (by decide) rfl ?_
  refine ev_aload_n d_132_949 rfl ?_
  refine ev_cvI (As := []) (t := []) (e' := (e + 3)) d_132_950 ml_9_82 rfl rfl rfl rfl rfl (le_e rfl rfl (by omega)) rfl (ltk6 (by decide) hN) rfl rfl rfl (ev_m_thrown (Nat.le_of_succ_le hN) ((sp_m_encode (xs (p + 1)) (xs (p + 2)) (1 : Int32) (xs (p + 4)) σ1).2)) ?_
  refine ev_iload d_132_953 rfl ?_
  refine ev_icmpT (tgt := 960) d_132_955 rfl heq ?_
  refine ev_iload d_132_960 rfl ?_
  refine ev_if (tgt := 976) d_132_962 rfl (fun _h962 => ?_) (fun _h962 => ?_)
  · refine ev_goto (tgt := 1067) d_132_976 rfl ?_
    refine ev_sub (lv' := [(0, .ref 1000), (1, .ref 0), (2, .ref 42), (3, .ref 65), (4, .int (Int32.ofNat p))]) (by simp) ?_
    exact hk
  · refine ev_aload_n d_132_965 rfl ?_
    refine ev_iconst d_132_966 ci_0 ?_
    refine ev_laload (i := 0) d_132_967 (ltk6 (by decide) hN) rfl (vpi (by decide)) (by decide) ?_
    refine ev_lload d_132_968 rfl ?_
    refine ev_lcmp d_132_970 ?_
    refine ev_ifT (tgt := 976) d_132_971 rfl (hout (Classical.not_not.mp _h962)) ?_
    refine ev_goto (tgt := 1067) d_132_976 rfl ?_
    refine ev_sub (lv' := [(0, .ref 1000), (1, .ref 0), (2, .ref 42), (3, .ref 65), (4, .int (Int32.ofNat p))]) (by simp) ?_
    exact hk
theorem law_14 (hN : 66 ≤ N) (p e : Nat) (hp : p + 6 ≤ L) (hL : L ≤ 3073) (he : e + 24 ≤ 20000) (σ σ1 : mmS) (k : Int32) (hw : Ev N L xs (92, 0, lv_args 0 [.ref 0, .long ((((xs (p + 1)).toInt64) <<< ((32 : Int32).toInt64 &&& 63)) ||| (((xs (p + 2)).toInt64) &&& (4294967295 : Int64))), .ref 65], [], 0, σ) (mmSI (k, σ1))) (heq : (sp_m_thrown ((sp_m_decode ((((xs (p + 1)).toInt64) <<< ((32 : Int32).toInt64 &&& 63)) ||| (((xs (p + 2)).toInt64) &&& (4294967295 : Int64))) σ1).2)) = k) (hout : k = 0 → (lg_cmp (((sp_m_decode ((((xs (p + 1)).toInt64) <<< ((32 : Int32).toInt64 &&& 63)) ||| (((xs (p + 2)).toInt64) &&& (4294967295 : Int64))) σ1).2).2 65 0) (((sp_m_decode ((((xs (p + 1)).toInt64) <<< ((32 : Int32).toInt64 &&& 63)) ||| (((xs (p + 2)).toInt64) &&& (4294967295 : Int64))) σ1).1).toInt64)) = (0 : Int32)) (r : mmR) (hk : Ev N L xs (132, 1067, [(0, .ref 1000), (1, .ref 0), (2, .ref 42), (3, .ref 65), (4, .int (Int32.ofNat p))], [], e + 2, (sp_m_decode ((((xs (p + 1)).toInt64) <<< ((32 : Int32).toInt64 &&& 63)) ||| (((xs (p + 2)).toInt64) &&& (4294967295 : Int64))) σ1).2) r) : Ev N L xs (132, 979, [(0, .ref 1000), (1, .ref 0), (2, .ref 42), (3, .ref 65), (4, .int (Int32.ofNat p))], [], e, σ) (r) := by
  refine ev_aload_n d_132_979 rfl ?_
  refine ev_aload_n d_132_980 rfl ?_
  refine ev_iload d_132_981 rfl ?_
  refine ev_iconst d_132_983 ci_1 ?_
  refine ev_iadd (v := (Int32.ofNat (p + 1))) d_132_984 (li_add p 1) ?_
  refine ev_sald (i := (p + 1)) d_132_985 (li_in hp hL (by decide)) (li_nat hp hL (by decide)) ?_
  refine ev_i2l (v := (xs (p + 1)).toInt64) d_132_986 rfl ?_
  refine ev_bipush d_132_987 cb_32 ?_
  refine ev_lshl (v := (((xs (p + 1)).toInt64) <<< ((32 : Int32).toInt64 &&& 63))) d_132_989 rfl ?_
  refine ev_aload_n d_132_990 rfl ?_
  refine ev_iload d_132_991 rfl ?_
  refine ev_iconst d_132_993 ci_2 ?_
  refine ev_iadd (v := (Int32.ofNat (p + 2))) d_132_994 (li_add p 2) ?_
  refine ev_sald (i := (p + 2)) d_132_995 (li_in hp hL (by decide)) (li_nat hp hL (by decide)) ?_
  refine ev_i2l (v := (xs (p + 2)).toInt64) d_132_996 rfl ?_
  refine ev_ldc2 d_132_997 kl_9_101 ?_
  refine ev_land (v := (((xs (p + 2)).toInt64) &&& (4294967295 : Int64))) d_132_1000 rfl ?_
  refine ev_lor (v := ((((xs (p + 1)).toInt64) <<< ((32 : Int32).toInt64 &&& 63)) ||| (((xs (p + 2)).toInt64) &&& (4294967295 : Int64)))) d_132_1001 rfl ?_
  refine ev_aload_n d_132_1002 rfl ?_
  refine ev_csI (As := [.ref 0, .long ((((xs (p + 1)).toInt64) <<< ((32 : Int32).toInt64 &&& 63)) ||| (((xs (p + 2)).toInt64) &&& (4294967295 : Int64))), .ref 65]) (t := []) (e' := (e + 2)) d_132_1003 ml_9_136 rfl rfl rfl rfl rfl (le_e rfl rfl (by omega)) rfl rfl hw ?_
  refine ev_istore (lv' := [(5, .int k), (0, .ref 1000), (1, .ref 0), (2, .ref 42), (3, .ref 65), (4, .int (Int32.ofNat p))]) d_132_1006 (by decide) rfl ?_
  refine ev_aload_n d_132_1008 rfl ?_
  refine ev_aload_n d_132_1009 rfl ?_
  refine ev_iload d_132_1010 rfl ?_
  refine ev_iconst d_132_1012 ci_1 ?_
  refine ev_iadd (v := (Int32.ofNat (p + 1))) d_132_1013 (li_add p 1) ?_
  refine ev_sald (i := (p + 1)) d_132_1014 (li_in hp hL (by decide)) (li_nat hp hL (by decide)) ?_
  refine ev_i2l (v := (xs (p + 1)).toInt64) d_132_1015 rfl ?_
  refine ev_bipush d_132_1016 cb_32 ?_
  refine ev_lshl (v := (((xs (p + 1)).toInt64) <<< ((32 : Int32).toInt64 &&& 63))) d_132_1018 rfl ?_
  refine ev_aload_n d_132_1019 rfl ?_
  refine ev_iload d_132_1020 rfl ?_
  refine ev_iconst d_132_1022 ci_2 ?_
  refine ev_iadd (v := (Int32.ofNat (p + 2))) d_132_1023 (li_add p 2) ?_
  refine ev_sald (i := (p + 2)) d_132_1024 (li_in hp hL (by decide)) (li_nat hp hL (by decide)) ?_
  refine ev_i2l (v := (xs (p + 2)).toInt64) d_132_1025 rfl ?_
  refine ev_ldc2 d_132_1026 kl_9_101 ?_
  refine ev_land (v := (((xs (p + 2)).toInt64) &&& (4294967295 : Int64))) d_132_1029 rfl ?_
  refine ev_lor (v := ((((xs (p + 1)).toInt64) <<< ((32 : Int32).toInt64 &&& 63)) ||| (((xs (p + 2)).toInt64) &&& (4294967295 : Int64)))) d_132_1030 rfl ?_
  refine ev_cvI (As := [.long ((((xs (p + 1)).toInt64) <<< ((32 : Int32).toInt64 &&& 63)) ||| (((xs (p + 2)).toInt64) &&& (4294967295 : Int64)))]) (t := []) (e' := (e + 2)) d_132_1031 ml_9_139 rfl rfl rfl rfl rfl (le_e rfl rfl (by omega)) rfl (ltk6 (by decide) hN) rfl rfl rfl (ev_m_decode (Nat.le_of_succ_le hN) ((((xs (p + 1)).toInt64) <<< ((32 : Int32).toInt64 &&& 63)) ||| (((xs (p + 2)).toInt64) &&& (4294967295 : Int64))) σ1) ?_
  refine ev_istore (lv' := [(6, .int ((sp_m_decode ((((xs (p + 1)).toInt64) <<< ((32 : Int32).toInt64 &&& 63)) ||| (((xs (p + 2)).toInt64) &&& (4294967295 : Int64))) σ1).1)), (5, .int k), (0, .ref 1000), (1, .ref 0), (2, .ref 42), (3, .ref 65), (4, .int (Int32.ofNat p))]) d_132_1034 (by decide) rfl ?_
  refine ev_aload_n d_132_1036 rfl ?_
  refine ev_cvI (As := []) (t := []) (e' := (e + 2)) d_132_1037 ml_9_82 rfl rfl rfl rfl rfl (le_e rfl rfl (by omega)) rfl (ltk6 (by decide) hN) rfl rfl rfl (ev_m_thrown (Nat.le_of_succ_le hN) ((sp_m_decode ((((xs (p + 1)).toInt64) <<< ((32 : Int32).toInt64 &&& 63)) ||| (((xs (p + 2)).toInt64) &&& (4294967295 : Int64))) σ1).2)) ?_
  refine ev_iload d_132_1040 rfl ?_
  refine ev_icmpT (tgt := 1047) d_132_1042 rfl heq ?_
  refine ev_iload d_132_1047 rfl ?_
  refine ev_if (tgt := 1064) d_132_1049 rfl (fun _h1049 => ?_) (fun _h1049 => ?_)
  · refine ev_goto (tgt := 1067) d_132_1064 rfl ?_
    refine ev_sub (lv' := [(0, .ref 1000), (1, .ref 0), (2, .ref 42), (3, .ref 65), (4, .int (Int32.ofNat p))]) (by simp) ?_
    exact hk
  · refine ev_aload_n d_132_1052 rfl ?_
    refine ev_iconst d_132_1053 ci_0 ?_
    refine ev_laload (i := 0) d_132_1054 (ltk6 (by decide) hN) rfl (vpi (by decide)) (by decide) ?_
    refine ev_iload d_132_1055 rfl ?_
    refine ev_i2l (v := ((sp_m_decode ((((xs (p + 1)).toInt64) <<< ((32 : Int32).toInt64 &&& 63)) ||| (((xs (p + 2)).toInt64) &&& (4294967295 : Int64))) σ1).1).toInt64) d_132_1057 rfl ?_
    refine ev_lcmp d_132_1058 ?_
    refine ev_ifT (tgt := 1064) d_132_1059 rfl (hout (Classical.not_not.mp _h1049)) ?_
    refine ev_goto (tgt := 1067) d_132_1064 rfl ?_
    refine ev_sub (lv' := [(0, .ref 1000), (1, .ref 0), (2, .ref 42), (3, .ref 65), (4, .int (Int32.ofNat p))]) (by simp) ?_
    exact hk
theorem law_end (p e : Nat) (hp : p < 3080) (hL : L ≤ 3073) (hq : L < p + 6) (σ : mmS) : Ev N L xs (132, 33, [(0, .ref 1000), (1, .ref 0), (2, .ref 42), (3, .ref 65), (4, .int (Int32.ofNat p))], [], e, σ) (mmPI σ 1) := by
  refine ev_iload d_132_33 rfl ?_
  refine ev_aload_n d_132_35 rfl ?_
  refine ev_slen d_132_36 ?_
  refine ev_bipush d_132_37 cb_6 ?_
  refine ev_isub (v := ((Int32.ofNat L) - (6 : Int32))) d_132_39 rfl ?_
  refine ev_icmpT (tgt := 1073) d_132_40 rfl ((li_hd hp hL).mpr hq) ?_
  refine ev_iconst d_132_1073 ci_1 ?_
  exact ev_zret d_132_1074 rfl (Or.inr rfl)
theorem law_to0 (p e : Nat) (hp : p + 6 ≤ L) (hL : L ≤ 3073) (σ : mmS) (r : mmR) (h : ((xs p) &&& (15 : Int32)) = 0) (hk : Ev N L xs (132, 124, [(0, .ref 1000), (1, .ref 0), (2, .ref 42), (3, .ref 65), (4, .int (Int32.ofNat p))], [], e, σ) r) : Ev N L xs (132, 33, [(0, .ref 1000), (1, .ref 0), (2, .ref 42), (3, .ref 65), (4, .int (Int32.ofNat p))], [], e, σ) (r) := by
  refine ev_iload d_132_33 rfl ?_
  refine ev_aload_n d_132_35 rfl ?_
  refine ev_slen d_132_36 ?_
  refine ev_bipush d_132_37 cb_6 ?_
  refine ev_isub (v := ((Int32.ofNat L) - (6 : Int32))) d_132_39 rfl ?_
  refine ev_icmpF (tgt := 1073) d_132_40 rfl (fun z => absurd ((li_hd (by omega) hL).mp z) (by omega)) ?_
  refine ev_aload_n d_132_43 rfl ?_
  refine ev_iload d_132_44 rfl ?_
  refine ev_sald (i := p) d_132_46 (li_in (c := 0) hp hL (by decide)) (li_nat (c := 0) hp hL (by decide)) ?_
  refine ev_bipush d_132_47 cb_15 ?_
  refine ev_iand (v := ((xs p) &&& (15 : Int32))) d_132_49 rfl ?_
  refine ev_tabIn (off := 74) (tgt := 124) d_132_50 (by rw [h]; decide) (by rw [h]; decide) (by rw [h]; decide) rfl ?_
  exact hk
theorem law_to1 (p e : Nat) (hp : p + 6 ≤ L) (hL : L ≤ 3073) (σ : mmS) (r : mmR) (h : ((xs p) &&& (15 : Int32)) = 1) (hk : Ev N L xs (132, 160, [(0, .ref 1000), (1, .ref 0), (2, .ref 42), (3, .ref 65), (4, .int (Int32.ofNat p))], [], e, σ) r) : Ev N L xs (132, 33, [(0, .ref 1000), (1, .ref 0), (2, .ref 42), (3, .ref 65), (4, .int (Int32.ofNat p))], [], e, σ) (r) := by
  refine ev_iload d_132_33 rfl ?_
  refine ev_aload_n d_132_35 rfl ?_
  refine ev_slen d_132_36 ?_
  refine ev_bipush d_132_37 cb_6 ?_
  refine ev_isub (v := ((Int32.ofNat L) - (6 : Int32))) d_132_39 rfl ?_
  refine ev_icmpF (tgt := 1073) d_132_40 rfl (fun z => absurd ((li_hd (by omega) hL).mp z) (by omega)) ?_
  refine ev_aload_n d_132_43 rfl ?_
  refine ev_iload d_132_44 rfl ?_
  refine ev_sald (i := p) d_132_46 (li_in (c := 0) hp hL (by decide)) (li_nat (c := 0) hp hL (by decide)) ?_
  refine ev_bipush d_132_47 cb_15 ?_
  refine ev_iand (v := ((xs p) &&& (15 : Int32))) d_132_49 rfl ?_
  refine ev_tabIn (off := 110) (tgt := 160) d_132_50 (by rw [h]; decide) (by rw [h]; decide) (by rw [h]; decide) rfl ?_
  exact hk
theorem law_to2 (p e : Nat) (hp : p + 6 ≤ L) (hL : L ≤ 3073) (σ : mmS) (r : mmR) (h : ((xs p) &&& (15 : Int32)) = 2) (hk : Ev N L xs (132, 216, [(0, .ref 1000), (1, .ref 0), (2, .ref 42), (3, .ref 65), (4, .int (Int32.ofNat p))], [], e, σ) r) : Ev N L xs (132, 33, [(0, .ref 1000), (1, .ref 0), (2, .ref 42), (3, .ref 65), (4, .int (Int32.ofNat p))], [], e, σ) (r) := by
  refine ev_iload d_132_33 rfl ?_
  refine ev_aload_n d_132_35 rfl ?_
  refine ev_slen d_132_36 ?_
  refine ev_bipush d_132_37 cb_6 ?_
  refine ev_isub (v := ((Int32.ofNat L) - (6 : Int32))) d_132_39 rfl ?_
  refine ev_icmpF (tgt := 1073) d_132_40 rfl (fun z => absurd ((li_hd (by omega) hL).mp z) (by omega)) ?_
  refine ev_aload_n d_132_43 rfl ?_
  refine ev_iload d_132_44 rfl ?_
  refine ev_sald (i := p) d_132_46 (li_in (c := 0) hp hL (by decide)) (li_nat (c := 0) hp hL (by decide)) ?_
  refine ev_bipush d_132_47 cb_15 ?_
  refine ev_iand (v := ((xs p) &&& (15 : Int32))) d_132_49 rfl ?_
  refine ev_tabIn (off := 166) (tgt := 216) d_132_50 (by rw [h]; decide) (by rw [h]; decide) (by rw [h]; decide) rfl ?_
  exact hk
theorem law_to3 (p e : Nat) (hp : p + 6 ≤ L) (hL : L ≤ 3073) (σ : mmS) (r : mmR) (h : ((xs p) &&& (15 : Int32)) = 3) (hk : Ev N L xs (132, 272, [(0, .ref 1000), (1, .ref 0), (2, .ref 42), (3, .ref 65), (4, .int (Int32.ofNat p))], [], e, σ) r) : Ev N L xs (132, 33, [(0, .ref 1000), (1, .ref 0), (2, .ref 42), (3, .ref 65), (4, .int (Int32.ofNat p))], [], e, σ) (r) := by
  refine ev_iload d_132_33 rfl ?_
  refine ev_aload_n d_132_35 rfl ?_
  refine ev_slen d_132_36 ?_
  refine ev_bipush d_132_37 cb_6 ?_
  refine ev_isub (v := ((Int32.ofNat L) - (6 : Int32))) d_132_39 rfl ?_
  refine ev_icmpF (tgt := 1073) d_132_40 rfl (fun z => absurd ((li_hd (by omega) hL).mp z) (by omega)) ?_
  refine ev_aload_n d_132_43 rfl ?_
  refine ev_iload d_132_44 rfl ?_
  refine ev_sald (i := p) d_132_46 (li_in (c := 0) hp hL (by decide)) (li_nat (c := 0) hp hL (by decide)) ?_
  refine ev_bipush d_132_47 cb_15 ?_
  refine ev_iand (v := ((xs p) &&& (15 : Int32))) d_132_49 rfl ?_
  refine ev_tabIn (off := 222) (tgt := 272) d_132_50 (by rw [h]; decide) (by rw [h]; decide) (by rw [h]; decide) rfl ?_
  exact hk
theorem law_to4 (p e : Nat) (hp : p + 6 ≤ L) (hL : L ≤ 3073) (σ : mmS) (r : mmR) (h : ((xs p) &&& (15 : Int32)) = 4) (hk : Ev N L xs (132, 320, [(0, .ref 1000), (1, .ref 0), (2, .ref 42), (3, .ref 65), (4, .int (Int32.ofNat p))], [], e, σ) r) : Ev N L xs (132, 33, [(0, .ref 1000), (1, .ref 0), (2, .ref 42), (3, .ref 65), (4, .int (Int32.ofNat p))], [], e, σ) (r) := by
  refine ev_iload d_132_33 rfl ?_
  refine ev_aload_n d_132_35 rfl ?_
  refine ev_slen d_132_36 ?_
  refine ev_bipush d_132_37 cb_6 ?_
  refine ev_isub (v := ((Int32.ofNat L) - (6 : Int32))) d_132_39 rfl ?_
  refine ev_icmpF (tgt := 1073) d_132_40 rfl (fun z => absurd ((li_hd (by omega) hL).mp z) (by omega)) ?_
  refine ev_aload_n d_132_43 rfl ?_
  refine ev_iload d_132_44 rfl ?_
  refine ev_sald (i := p) d_132_46 (li_in (c := 0) hp hL (by decide)) (li_nat (c := 0) hp hL (by decide)) ?_
  refine ev_bipush d_132_47 cb_15 ?_
  refine ev_iand (v := ((xs p) &&& (15 : Int32))) d_132_49 rfl ?_
  refine ev_tabIn (off := 270) (tgt := 320) d_132_50 (by rw [h]; decide) (by rw [h]; decide) (by rw [h]; decide) rfl ?_
  exact hk
theorem law_to5 (p e : Nat) (hp : p + 6 ≤ L) (hL : L ≤ 3073) (σ : mmS) (r : mmR) (h : ((xs p) &&& (15 : Int32)) = 5) (hk : Ev N L xs (132, 404, [(0, .ref 1000), (1, .ref 0), (2, .ref 42), (3, .ref 65), (4, .int (Int32.ofNat p))], [], e, σ) r) : Ev N L xs (132, 33, [(0, .ref 1000), (1, .ref 0), (2, .ref 42), (3, .ref 65), (4, .int (Int32.ofNat p))], [], e, σ) (r) := by
  refine ev_iload d_132_33 rfl ?_
  refine ev_aload_n d_132_35 rfl ?_
  refine ev_slen d_132_36 ?_
  refine ev_bipush d_132_37 cb_6 ?_
  refine ev_isub (v := ((Int32.ofNat L) - (6 : Int32))) d_132_39 rfl ?_
  refine ev_icmpF (tgt := 1073) d_132_40 rfl (fun z => absurd ((li_hd (by omega) hL).mp z) (by omega)) ?_
  refine ev_aload_n d_132_43 rfl ?_
  refine ev_iload d_132_44 rfl ?_
  refine ev_sald (i := p) d_132_46 (li_in (c := 0) hp hL (by decide)) (li_nat (c := 0) hp hL (by decide)) ?_
  refine ev_bipush d_132_47 cb_15 ?_
  refine ev_iand (v := ((xs p) &&& (15 : Int32))) d_132_49 rfl ?_
  refine ev_tabIn (off := 354) (tgt := 404) d_132_50 (by rw [h]; decide) (by rw [h]; decide) (by rw [h]; decide) rfl ?_
  exact hk
theorem law_to6 (p e : Nat) (hp : p + 6 ≤ L) (hL : L ≤ 3073) (σ : mmS) (r : mmR) (h : ((xs p) &&& (15 : Int32)) = 6) (hk : Ev N L xs (132, 472, [(0, .ref 1000), (1, .ref 0), (2, .ref 42), (3, .ref 65), (4, .int (Int32.ofNat p))], [], e, σ) r) : Ev N L xs (132, 33, [(0, .ref 1000), (1, .ref 0), (2, .ref 42), (3, .ref 65), (4, .int (Int32.ofNat p))], [], e, σ) (r) := by
  refine ev_iload d_132_33 rfl ?_
  refine ev_aload_n d_132_35 rfl ?_
  refine ev_slen d_132_36 ?_
  refine ev_bipush d_132_37 cb_6 ?_
  refine ev_isub (v := ((Int32.ofNat L) - (6 : Int32))) d_132_39 rfl ?_
  refine ev_icmpF (tgt := 1073) d_132_40 rfl (fun z => absurd ((li_hd (by omega) hL).mp z) (by omega)) ?_
  refine ev_aload_n d_132_43 rfl ?_
  refine ev_iload d_132_44 rfl ?_
  refine ev_sald (i := p) d_132_46 (li_in (c := 0) hp hL (by decide)) (li_nat (c := 0) hp hL (by decide)) ?_
  refine ev_bipush d_132_47 cb_15 ?_
  refine ev_iand (v := ((xs p) &&& (15 : Int32))) d_132_49 rfl ?_
  refine ev_tabIn (off := 422) (tgt := 472) d_132_50 (by rw [h]; decide) (by rw [h]; decide) (by rw [h]; decide) rfl ?_
  exact hk
theorem law_to7 (p e : Nat) (hp : p + 6 ≤ L) (hL : L ≤ 3073) (σ : mmS) (r : mmR) (h : ((xs p) &&& (15 : Int32)) = 7) (hk : Ev N L xs (132, 528, [(0, .ref 1000), (1, .ref 0), (2, .ref 42), (3, .ref 65), (4, .int (Int32.ofNat p))], [], e, σ) r) : Ev N L xs (132, 33, [(0, .ref 1000), (1, .ref 0), (2, .ref 42), (3, .ref 65), (4, .int (Int32.ofNat p))], [], e, σ) (r) := by
  refine ev_iload d_132_33 rfl ?_
  refine ev_aload_n d_132_35 rfl ?_
  refine ev_slen d_132_36 ?_
  refine ev_bipush d_132_37 cb_6 ?_
  refine ev_isub (v := ((Int32.ofNat L) - (6 : Int32))) d_132_39 rfl ?_
  refine ev_icmpF (tgt := 1073) d_132_40 rfl (fun z => absurd ((li_hd (by omega) hL).mp z) (by omega)) ?_
  refine ev_aload_n d_132_43 rfl ?_
  refine ev_iload d_132_44 rfl ?_
  refine ev_sald (i := p) d_132_46 (li_in (c := 0) hp hL (by decide)) (li_nat (c := 0) hp hL (by decide)) ?_
  refine ev_bipush d_132_47 cb_15 ?_
  refine ev_iand (v := ((xs p) &&& (15 : Int32))) d_132_49 rfl ?_
  refine ev_tabIn (off := 478) (tgt := 528) d_132_50 (by rw [h]; decide) (by rw [h]; decide) (by rw [h]; decide) rfl ?_
  exact hk
theorem law_to8 (p e : Nat) (hp : p + 6 ≤ L) (hL : L ≤ 3073) (σ : mmS) (r : mmR) (h : ((xs p) &&& (15 : Int32)) = 8) (hk : Ev N L xs (132, 584, [(0, .ref 1000), (1, .ref 0), (2, .ref 42), (3, .ref 65), (4, .int (Int32.ofNat p))], [], e, σ) r) : Ev N L xs (132, 33, [(0, .ref 1000), (1, .ref 0), (2, .ref 42), (3, .ref 65), (4, .int (Int32.ofNat p))], [], e, σ) (r) := by
  refine ev_iload d_132_33 rfl ?_
  refine ev_aload_n d_132_35 rfl ?_
  refine ev_slen d_132_36 ?_
  refine ev_bipush d_132_37 cb_6 ?_
  refine ev_isub (v := ((Int32.ofNat L) - (6 : Int32))) d_132_39 rfl ?_
  refine ev_icmpF (tgt := 1073) d_132_40 rfl (fun z => absurd ((li_hd (by omega) hL).mp z) (by omega)) ?_
  refine ev_aload_n d_132_43 rfl ?_
  refine ev_iload d_132_44 rfl ?_
  refine ev_sald (i := p) d_132_46 (li_in (c := 0) hp hL (by decide)) (li_nat (c := 0) hp hL (by decide)) ?_
  refine ev_bipush d_132_47 cb_15 ?_
  refine ev_iand (v := ((xs p) &&& (15 : Int32))) d_132_49 rfl ?_
  refine ev_tabIn (off := 534) (tgt := 584) d_132_50 (by rw [h]; decide) (by rw [h]; decide) (by rw [h]; decide) rfl ?_
  exact hk
theorem law_to9 (p e : Nat) (hp : p + 6 ≤ L) (hL : L ≤ 3073) (σ : mmS) (r : mmR) (h : ((xs p) &&& (15 : Int32)) = 9) (hk : Ev N L xs (132, 652, [(0, .ref 1000), (1, .ref 0), (2, .ref 42), (3, .ref 65), (4, .int (Int32.ofNat p))], [], e, σ) r) : Ev N L xs (132, 33, [(0, .ref 1000), (1, .ref 0), (2, .ref 42), (3, .ref 65), (4, .int (Int32.ofNat p))], [], e, σ) (r) := by
  refine ev_iload d_132_33 rfl ?_
  refine ev_aload_n d_132_35 rfl ?_
  refine ev_slen d_132_36 ?_
  refine ev_bipush d_132_37 cb_6 ?_
  refine ev_isub (v := ((Int32.ofNat L) - (6 : Int32))) d_132_39 rfl ?_
  refine ev_icmpF (tgt := 1073) d_132_40 rfl (fun z => absurd ((li_hd (by omega) hL).mp z) (by omega)) ?_
  refine ev_aload_n d_132_43 rfl ?_
  refine ev_iload d_132_44 rfl ?_
  refine ev_sald (i := p) d_132_46 (li_in (c := 0) hp hL (by decide)) (li_nat (c := 0) hp hL (by decide)) ?_
  refine ev_bipush d_132_47 cb_15 ?_
  refine ev_iand (v := ((xs p) &&& (15 : Int32))) d_132_49 rfl ?_
  refine ev_tabIn (off := 602) (tgt := 652) d_132_50 (by rw [h]; decide) (by rw [h]; decide) (by rw [h]; decide) rfl ?_
  exact hk
theorem law_to10 (p e : Nat) (hp : p + 6 ≤ L) (hL : L ≤ 3073) (σ : mmS) (r : mmR) (h : ((xs p) &&& (15 : Int32)) = 10) (hk : Ev N L xs (132, 748, [(0, .ref 1000), (1, .ref 0), (2, .ref 42), (3, .ref 65), (4, .int (Int32.ofNat p))], [], e, σ) r) : Ev N L xs (132, 33, [(0, .ref 1000), (1, .ref 0), (2, .ref 42), (3, .ref 65), (4, .int (Int32.ofNat p))], [], e, σ) (r) := by
  refine ev_iload d_132_33 rfl ?_
  refine ev_aload_n d_132_35 rfl ?_
  refine ev_slen d_132_36 ?_
  refine ev_bipush d_132_37 cb_6 ?_
  refine ev_isub (v := ((Int32.ofNat L) - (6 : Int32))) d_132_39 rfl ?_
  refine ev_icmpF (tgt := 1073) d_132_40 rfl (fun z => absurd ((li_hd (by omega) hL).mp z) (by omega)) ?_
  refine ev_aload_n d_132_43 rfl ?_
  refine ev_iload d_132_44 rfl ?_
  refine ev_sald (i := p) d_132_46 (li_in (c := 0) hp hL (by decide)) (li_nat (c := 0) hp hL (by decide)) ?_
  refine ev_bipush d_132_47 cb_15 ?_
  refine ev_iand (v := ((xs p) &&& (15 : Int32))) d_132_49 rfl ?_
  refine ev_tabIn (off := 698) (tgt := 748) d_132_50 (by rw [h]; decide) (by rw [h]; decide) (by rw [h]; decide) rfl ?_
  exact hk
theorem law_to11 (p e : Nat) (hp : p + 6 ≤ L) (hL : L ≤ 3073) (σ : mmS) (r : mmR) (h : ((xs p) &&& (15 : Int32)) = 11) (hk : Ev N L xs (132, 816, [(0, .ref 1000), (1, .ref 0), (2, .ref 42), (3, .ref 65), (4, .int (Int32.ofNat p))], [], e, σ) r) : Ev N L xs (132, 33, [(0, .ref 1000), (1, .ref 0), (2, .ref 42), (3, .ref 65), (4, .int (Int32.ofNat p))], [], e, σ) (r) := by
  refine ev_iload d_132_33 rfl ?_
  refine ev_aload_n d_132_35 rfl ?_
  refine ev_slen d_132_36 ?_
  refine ev_bipush d_132_37 cb_6 ?_
  refine ev_isub (v := ((Int32.ofNat L) - (6 : Int32))) d_132_39 rfl ?_
  refine ev_icmpF (tgt := 1073) d_132_40 rfl (fun z => absurd ((li_hd (by omega) hL).mp z) (by omega)) ?_
  refine ev_aload_n d_132_43 rfl ?_
  refine ev_iload d_132_44 rfl ?_
  refine ev_sald (i := p) d_132_46 (li_in (c := 0) hp hL (by decide)) (li_nat (c := 0) hp hL (by decide)) ?_
  refine ev_bipush d_132_47 cb_15 ?_
  refine ev_iand (v := ((xs p) &&& (15 : Int32))) d_132_49 rfl ?_
  refine ev_tabIn (off := 766) (tgt := 816) d_132_50 (by rw [h]; decide) (by rw [h]; decide) (by rw [h]; decide) rfl ?_
  exact hk
theorem law_to12 (p e : Nat) (hp : p + 6 ≤ L) (hL : L ≤ 3073) (σ : mmS) (r : mmR) (h : ((xs p) &&& (15 : Int32)) = 12) (hk : Ev N L xs (132, 829, [(0, .ref 1000), (1, .ref 0), (2, .ref 42), (3, .ref 65), (4, .int (Int32.ofNat p))], [], e, σ) r) : Ev N L xs (132, 33, [(0, .ref 1000), (1, .ref 0), (2, .ref 42), (3, .ref 65), (4, .int (Int32.ofNat p))], [], e, σ) (r) := by
  refine ev_iload d_132_33 rfl ?_
  refine ev_aload_n d_132_35 rfl ?_
  refine ev_slen d_132_36 ?_
  refine ev_bipush d_132_37 cb_6 ?_
  refine ev_isub (v := ((Int32.ofNat L) - (6 : Int32))) d_132_39 rfl ?_
  refine ev_icmpF (tgt := 1073) d_132_40 rfl (fun z => absurd ((li_hd (by omega) hL).mp z) (by omega)) ?_
  refine ev_aload_n d_132_43 rfl ?_
  refine ev_iload d_132_44 rfl ?_
  refine ev_sald (i := p) d_132_46 (li_in (c := 0) hp hL (by decide)) (li_nat (c := 0) hp hL (by decide)) ?_
  refine ev_bipush d_132_47 cb_15 ?_
  refine ev_iand (v := ((xs p) &&& (15 : Int32))) d_132_49 rfl ?_
  refine ev_tabIn (off := 779) (tgt := 829) d_132_50 (by rw [h]; decide) (by rw [h]; decide) (by rw [h]; decide) rfl ?_
  exact hk
theorem law_to13 (p e : Nat) (hp : p + 6 ≤ L) (hL : L ≤ 3073) (σ : mmS) (r : mmR) (h : ((xs p) &&& (15 : Int32)) = 13) (hk : Ev N L xs (132, 872, [(0, .ref 1000), (1, .ref 0), (2, .ref 42), (3, .ref 65), (4, .int (Int32.ofNat p))], [], e, σ) r) : Ev N L xs (132, 33, [(0, .ref 1000), (1, .ref 0), (2, .ref 42), (3, .ref 65), (4, .int (Int32.ofNat p))], [], e, σ) (r) := by
  refine ev_iload d_132_33 rfl ?_
  refine ev_aload_n d_132_35 rfl ?_
  refine ev_slen d_132_36 ?_
  refine ev_bipush d_132_37 cb_6 ?_
  refine ev_isub (v := ((Int32.ofNat L) - (6 : Int32))) d_132_39 rfl ?_
  refine ev_icmpF (tgt := 1073) d_132_40 rfl (fun z => absurd ((li_hd (by omega) hL).mp z) (by omega)) ?_
  refine ev_aload_n d_132_43 rfl ?_
  refine ev_iload d_132_44 rfl ?_
  refine ev_sald (i := p) d_132_46 (li_in (c := 0) hp hL (by decide)) (li_nat (c := 0) hp hL (by decide)) ?_
  refine ev_bipush d_132_47 cb_15 ?_
  refine ev_iand (v := ((xs p) &&& (15 : Int32))) d_132_49 rfl ?_
  refine ev_tabIn (off := 822) (tgt := 872) d_132_50 (by rw [h]; decide) (by rw [h]; decide) (by rw [h]; decide) rfl ?_
  exact hk
theorem law_to14 (p e : Nat) (hp : p + 6 ≤ L) (hL : L ≤ 3073) (σ : mmS) (r : mmR) (h : ((xs p) &&& (15 : Int32)) = 14) (hk : Ev N L xs (132, 979, [(0, .ref 1000), (1, .ref 0), (2, .ref 42), (3, .ref 65), (4, .int (Int32.ofNat p))], [], e, σ) r) : Ev N L xs (132, 33, [(0, .ref 1000), (1, .ref 0), (2, .ref 42), (3, .ref 65), (4, .int (Int32.ofNat p))], [], e, σ) (r) := by
  refine ev_iload d_132_33 rfl ?_
  refine ev_aload_n d_132_35 rfl ?_
  refine ev_slen d_132_36 ?_
  refine ev_bipush d_132_37 cb_6 ?_
  refine ev_isub (v := ((Int32.ofNat L) - (6 : Int32))) d_132_39 rfl ?_
  refine ev_icmpF (tgt := 1073) d_132_40 rfl (fun z => absurd ((li_hd (by omega) hL).mp z) (by omega)) ?_
  refine ev_aload_n d_132_43 rfl ?_
  refine ev_iload d_132_44 rfl ?_
  refine ev_sald (i := p) d_132_46 (li_in (c := 0) hp hL (by decide)) (li_nat (c := 0) hp hL (by decide)) ?_
  refine ev_bipush d_132_47 cb_15 ?_
  refine ev_iand (v := ((xs p) &&& (15 : Int32))) d_132_49 rfl ?_
  refine ev_tabIn (off := 929) (tgt := 979) d_132_50 (by rw [h]; decide) (by rw [h]; decide) (by rw [h]; decide) rfl ?_
  exact hk
theorem law_to15 (p e : Nat) (hp : p + 6 ≤ L) (hL : L ≤ 3073) (σ : mmS) (r : mmR) (h : ((xs p) &&& (15 : Int32)).toInt < 0 ∨ 14 < ((xs p) &&& (15 : Int32)).toInt) (hk : Ev N L xs (132, 1067, [(0, .ref 1000), (1, .ref 0), (2, .ref 42), (3, .ref 65), (4, .int (Int32.ofNat p))], [], e, σ) r) : Ev N L xs (132, 33, [(0, .ref 1000), (1, .ref 0), (2, .ref 42), (3, .ref 65), (4, .int (Int32.ofNat p))], [], e, σ) (r) := by
  refine ev_iload d_132_33 rfl ?_
  refine ev_aload_n d_132_35 rfl ?_
  refine ev_slen d_132_36 ?_
  refine ev_bipush d_132_37 cb_6 ?_
  refine ev_isub (v := ((Int32.ofNat L) - (6 : Int32))) d_132_39 rfl ?_
  refine ev_icmpF (tgt := 1073) d_132_40 rfl (fun z => absurd ((li_hd (by omega) hL).mp z) (by omega)) ?_
  refine ev_aload_n d_132_43 rfl ?_
  refine ev_iload d_132_44 rfl ?_
  refine ev_sald (i := p) d_132_46 (li_in (c := 0) hp hL (by decide)) (li_nat (c := 0) hp hL (by decide)) ?_
  refine ev_bipush d_132_47 cb_15 ?_
  refine ev_iand (v := ((xs p) &&& (15 : Int32))) d_132_49 rfl ?_
  refine ev_tabOut (tgt := 1067) d_132_50 h rfl ?_
  exact hk
theorem law_next (p e : Nat) (σ : mmS) (r : mmR) (hk : Ev N L xs (132, 33, [(0, .ref 1000), (1, .ref 0), (2, .ref 42), (3, .ref 65), (4, .int (Int32.ofNat (p + 6)))], [], e, σ) r) : Ev N L xs (132, 1067, [(0, .ref 1000), (1, .ref 0), (2, .ref 42), (3, .ref 65), (4, .int (Int32.ofNat p))], [], e, σ) (r) := by
  refine ev_iinc (lv' := [(4, .int (Int32.ofNat (p + 6))), (0, .ref 1000), (1, .ref 0), (2, .ref 42), (3, .ref 65)]) (v := (Int32.ofNat (p + 6))) d_132_1067 rfl (li_add p 6).symm (by decide) rfl ?_
  refine ev_goto (tgt := 33) d_132_1070 rfl ?_
  refine ev_sub (lv' := [(0, .ref 1000), (1, .ref 0), (2, .ref 42), (3, .ref 65), (4, .int (Int32.ofNat (p + 6)))]) (by simp) ?_
  exact hk
theorem law_in (σ : mmS) (r : mmR) (hk : Ev N L xs (132, 33, [(0, .ref 1000), (1, .ref 0), (2, .ref 42), (3, .ref 65), (4, .int (Int32.ofNat 1))], [], 0, σ) r) : Ev N L xs (132, 30, [(0, .ref 1000), (1, .ref 0), (2, .ref 42), (3, .ref 65)], [], 0, σ) (r) := by
  refine ev_iconst d_132_30 ci_1 ?_
  refine ev_istore (lv' := [(4, .int (1 : Int32)), (0, .ref 1000), (1, .ref 0), (2, .ref 42), (3, .ref 65)]) d_132_31 (by decide) rfl ?_
  refine ev_sub (lv' := [(0, .ref 1000), (1, .ref 0), (2, .ref 42), (3, .ref 65), (4, .int (1 : Int32))]) (by simp) ?_
  exact hk
end SP
