section SP
variable {N L : Nat} {xs : Nat → Int32}
theorem li_add (p c : Nat) : Int32.ofNat (p + c) = Int32.ofNat p + Int32.ofNat c := Int32.ofNat_add p c
theorem li_cl {q : Nat} (h : q < 4000) : q = (Int32.ofNat q).toNatClampNeg ∧ ¬ Int32.ofNat q < 0 := by
  have h1 : (Int32.ofNat q).toInt = q := Int32.toInt_ofNat_of_lt (by omega)
  refine ⟨?_, ?_⟩
  · show q = (Int32.ofNat q).toInt.toNat
    omega
  · rw [Int32.lt_iff_toInt_lt, h1]
    have e0 : (0 : Int32).toInt = 0 := by decide
    omega
theorem li_in {p c L : Nat} (hp : p + 6 ≤ L) (hL : L ≤ 3073) (hc : c < 6) : vp_in (Int32.ofNat (p + c)) L := by
  obtain ⟨h1, h2⟩ := li_cl (q := p + c) (by omega)
  unfold vp_in
  rintro (h | h)
  · exact h2 h
  · rw [← h1] at h; omega
theorem li_nat {p c L : Nat} (hp : p + 6 ≤ L) (hL : L ≤ 3073) (hc : c < 6) : p + c = (Int32.ofNat (p + c)).toNatClampNeg := (li_cl (by omega)).1
theorem li_hd {p L : Nat} (hp : p < 3080) (hL : L ≤ 3073) : Int32.ofNat L - 6 < Int32.ofNat p ↔ L < p + 6 := by
  have h1 : (Int32.ofNat p).toInt = p := Int32.toInt_ofNat_of_lt (by omega)
  have h2 : Int32.ofNat L - 6 = Int32.ofInt ((L : Int) - 6) := by
    rw [Int32.ofInt_sub]; rfl
  rw [Int32.lt_iff_toInt_lt, h1, h2, Int32.toInt_ofInt_of_le (by omega) (by omega)]
  omega
theorem le_e {e z y : Nat} (hz : Nat.ble (mE z) 10 = true) (hy : mE y = 20000) (he : e + 10 ≤ 20000) : e + mE z ≤ mE y := by
  have h := Nat.le_of_ble_eq_true hz
  rw [hy]
  omega
theorem law_0 (hN : 66 ≤ N) (p e : Nat) (hp : p + 6 ≤ L) (hL : L ≤ 3073) (he : e + 24 ≤ 20000) (σ σ1 : mmS) (k : Int32) (hw : Ev N L xs (3, 0, lv_args 0 [.ref 0, .int (xs (p + 1))], [], 0, σ) (mmSI (k, σ1))) (r : mmR) (hk : Ev N L xs (132, 756, [(0, .ref 1000), (1, .ref 0), (2, .ref 42), (3, .ref 65), (4, .int (Int32.ofNat p))], [], e + 2, (sp_m_power (xs (p + 1)) σ1)) r) : Ev N L xs (132, 124, [(0, .ref 1000), (1, .ref 0), (2, .ref 42), (3, .ref 65), (4, .int (Int32.ofNat p))], [], e, σ) (r) := by
  refine ev_aload_n d_132_124 rfl ?_
  refine ev_aload_n d_132_125 rfl ?_
  refine ev_iload d_132_126 rfl ?_
  refine ev_iconst d_132_128 ci_1 ?_
  refine ev_iadd (v := (Int32.ofNat (p + 1))) d_132_129 (li_add p 1) ?_
  refine ev_sald (i := (p + 1)) d_132_130 (li_in hp hL (by decide)) (li_nat hp hL (by decide)) ?_
  refine ev_csI (As := [.ref 0, .int (xs (p + 1))]) (t := []) (e' := (e + 2)) d_132_131 ml_9_78 rfl rfl rfl rfl rfl (le_e rfl rfl (by omega)) rfl rfl hw ?_
  refine ev_istore (lv' := [(5, .int k), (0, .ref 1000), (1, .ref 0), (2, .ref 42), (3, .ref 65), (4, .int (Int32.ofNat p))]) d_132_134 (by decide) rfl ?_
  refine ev_aload_n d_132_136 rfl ?_
  refine ev_aload_n d_132_137 rfl ?_
  refine ev_iload d_132_138 rfl ?_
  refine ev_iconst d_132_140 ci_1 ?_
  refine ev_iadd (v := (Int32.ofNat (p + 1))) d_132_141 (li_add p 1) ?_
  refine ev_sald (i := (p + 1)) d_132_142 (li_in hp hL (by decide)) (li_nat hp hL (by decide)) ?_
  refine ev_cvV (As := [.int (xs (p + 1))]) (t := []) (e' := (e + 2)) d_132_143 ml_9_81 rfl rfl rfl rfl rfl (le_e rfl rfl (by omega)) rfl (ltk6 (by decide) hN) rfl rfl rfl (ev_m_power (Nat.le_of_succ_le hN) (xs (p + 1)) σ1) ?_
  refine ev_goto (tgt := 756) d_132_146 rfl ?_
  refine ev_sub (lv' := [(0, .ref 1000), (1, .ref 0), (2, .ref 42), (3, .ref 65), (4, .int (Int32.ofNat p))]) (by simp) ?_
  exact hk
theorem law_1 (hN : 66 ≤ N) (p e : Nat) (hp : p + 6 ≤ L) (hL : L ≤ 3073) (he : e + 24 ≤ 20000) (σ σ1 : mmS) (k : Int32) (hw : Ev N L xs (12, 0, lv_args 0 [.ref 0, .int (xs (p + 1)), .ref 65], [], 0, σ) (mmSI (k, σ1))) (r : mmR) (hk : Ev N L xs (132, 756, [(0, .ref 1000), (1, .ref 0), (2, .ref 42), (3, .ref 65), (4, .int (Int32.ofNat p))], [], e + 1, (sp_m_off (xs (p + 1)) σ1).2) r) : Ev N L xs (132, 149, [(0, .ref 1000), (1, .ref 0), (2, .ref 42), (3, .ref 65), (4, .int (Int32.ofNat p))], [], e, σ) (r) := by
  refine ev_aload_n d_132_149 rfl ?_
  refine ev_aload_n d_132_150 rfl ?_
  refine ev_iload d_132_151 rfl ?_
  refine ev_iconst d_132_153 ci_1 ?_
  refine ev_iadd (v := (Int32.ofNat (p + 1))) d_132_154 (li_add p 1) ?_
  refine ev_sald (i := (p + 1)) d_132_155 (li_in hp hL (by decide)) (li_nat hp hL (by decide)) ?_
  refine ev_aload_n d_132_156 rfl ?_
  refine ev_csI (As := [.ref 0, .int (xs (p + 1)), .ref 65]) (t := []) (e' := (e + 1)) d_132_157 ml_9_82 rfl rfl rfl rfl rfl (le_e rfl rfl (by omega)) rfl rfl hw ?_
  refine ev_istore (lv' := [(5, .int k), (0, .ref 1000), (1, .ref 0), (2, .ref 42), (3, .ref 65), (4, .int (Int32.ofNat p))]) d_132_160 (by decide) rfl ?_
  refine ev_aload_n d_132_162 rfl ?_
  refine ev_aload_n d_132_163 rfl ?_
  refine ev_iload d_132_164 rfl ?_
  refine ev_iconst d_132_166 ci_1 ?_
  refine ev_iadd (v := (Int32.ofNat (p + 1))) d_132_167 (li_add p 1) ?_
  refine ev_sald (i := (p + 1)) d_132_168 (li_in hp hL (by decide)) (li_nat hp hL (by decide)) ?_
  refine ev_cvI (As := [.int (xs (p + 1))]) (t := []) (e' := (e + 1)) d_132_169 ml_9_85 rfl rfl rfl rfl rfl (le_e rfl rfl (by omega)) rfl (ltk6 (by decide) hN) rfl rfl rfl (ev_m_off (Nat.le_of_succ_le hN) (xs (p + 1)) σ1) ?_
  refine ev_istore (lv' := [(6, .int ((sp_m_off (xs (p + 1)) σ1).1)), (5, .int k), (0, .ref 1000), (1, .ref 0), (2, .ref 42), (3, .ref 65), (4, .int (Int32.ofNat p))]) d_132_172 (by decide) rfl ?_
  refine ev_goto (tgt := 756) d_132_174 rfl ?_
  refine ev_sub (lv' := [(0, .ref 1000), (1, .ref 0), (2, .ref 42), (3, .ref 65), (4, .int (Int32.ofNat p))]) (by simp) ?_
  exact hk
theorem law_2 (hN : 66 ≤ N) (p e : Nat) (hp : p + 6 ≤ L) (hL : L ≤ 3073) (he : e + 24 ≤ 20000) (σ σ1 : mmS) (k : Int32) (hw : Ev N L xs (14, 0, lv_args 0 [.ref 0, .int (xs (p + 1)), .ref 65], [], 0, σ) (mmSI (k, σ1))) (hJ : Jm σ1) (r : mmR) (hk : Ev N L xs (132, 756, [(0, .ref 1000), (1, .ref 0), (2, .ref 42), (3, .ref 65), (4, .int (Int32.ofNat p))], [], e + 1, (sp_m_run (xs (p + 1)) σ1).2) r) : Ev N L xs (132, 177, [(0, .ref 1000), (1, .ref 0), (2, .ref 42), (3, .ref 65), (4, .int (Int32.ofNat p))], [], e, σ) (r) := by
  refine ev_aload_n d_132_177 rfl ?_
  refine ev_aload_n d_132_178 rfl ?_
  refine ev_iload d_132_179 rfl ?_
  refine ev_iconst d_132_181 ci_1 ?_
  refine ev_iadd (v := (Int32.ofNat (p + 1))) d_132_182 (li_add p 1) ?_
  refine ev_sald (i := (p + 1)) d_132_183 (li_in hp hL (by decide)) (li_nat hp hL (by decide)) ?_
  refine ev_aload_n d_132_184 rfl ?_
  refine ev_csI (As := [.ref 0, .int (xs (p + 1)), .ref 65]) (t := []) (e' := (e + 1)) d_132_185 ml_9_86 rfl rfl rfl rfl rfl (le_e rfl rfl (by omega)) rfl rfl hw ?_
  refine ev_istore (lv' := [(5, .int k), (0, .ref 1000), (1, .ref 0), (2, .ref 42), (3, .ref 65), (4, .int (Int32.ofNat p))]) d_132_188 (by decide) rfl ?_
  refine ev_aload_n d_132_190 rfl ?_
  refine ev_aload_n d_132_191 rfl ?_
  refine ev_iload d_132_192 rfl ?_
  refine ev_iconst d_132_194 ci_1 ?_
  refine ev_iadd (v := (Int32.ofNat (p + 1))) d_132_195 (li_add p 1) ?_
  refine ev_sald (i := (p + 1)) d_132_196 (li_in hp hL (by decide)) (li_nat hp hL (by decide)) ?_
  refine ev_cvI (As := [.int (xs (p + 1))]) (t := []) (e' := (e + 1)) d_132_197 ml_9_88 rfl rfl rfl rfl rfl (le_e rfl rfl (by omega)) rfl (ltk6 (by decide) hN) rfl rfl rfl (ev_m_run (Nat.le_of_succ_le hN) (xs (p + 1)) σ1 hJ) ?_
  refine ev_istore (lv' := [(6, .int ((sp_m_run (xs (p + 1)) σ1).1)), (5, .int k), (0, .ref 1000), (1, .ref 0), (2, .ref 42), (3, .ref 65), (4, .int (Int32.ofNat p))]) d_132_200 (by decide) rfl ?_
  refine ev_goto (tgt := 756) d_132_202 rfl ?_
  refine ev_sub (lv' := [(0, .ref 1000), (1, .ref 0), (2, .ref 42), (3, .ref 65), (4, .int (Int32.ofNat p))]) (by simp) ?_
  exact hk
theorem law_3 (hN : 66 ≤ N) (p e : Nat) (hp : p + 6 ≤ L) (hL : L ≤ 3073) (he : e + 24 ≤ 20000) (σ σ1 : mmS) (k : Int32) (hw : Ev N L xs (66, 0, lv_args 0 [.ref 0, .int (xs (p + 1)), .int (xs (p + 2))], [], 0, σ) (mmSI (k, σ1))) (r : mmR) (hk : Ev N L xs (132, 756, [(0, .ref 1000), (1, .ref 0), (2, .ref 42), (3, .ref 65), (4, .int (Int32.ofNat p))], [], e + 3, (sp_m_value (xs (p + 1)) (xs (p + 2)) σ1)) r) : Ev N L xs (132, 205, [(0, .ref 1000), (1, .ref 0), (2, .ref 42), (3, .ref 65), (4, .int (Int32.ofNat p))], [], e, σ) (r) := by
  refine ev_aload_n d_132_205 rfl ?_
  refine ev_aload_n d_132_206 rfl ?_
  refine ev_iload d_132_207 rfl ?_
  refine ev_iconst d_132_209 ci_1 ?_
  refine ev_iadd (v := (Int32.ofNat (p + 1))) d_132_210 (li_add p 1) ?_
  refine ev_sald (i := (p + 1)) d_132_211 (li_in hp hL (by decide)) (li_nat hp hL (by decide)) ?_
  refine ev_aload_n d_132_212 rfl ?_
  refine ev_iload d_132_213 rfl ?_
  refine ev_iconst d_132_215 ci_2 ?_
  refine ev_iadd (v := (Int32.ofNat (p + 2))) d_132_216 (li_add p 2) ?_
  refine ev_sald (i := (p + 2)) d_132_217 (li_in hp hL (by decide)) (li_nat hp hL (by decide)) ?_
  refine ev_csI (As := [.ref 0, .int (xs (p + 1)), .int (xs (p + 2))]) (t := []) (e' := (e + 3)) d_132_218 ml_9_89 rfl rfl rfl rfl rfl (le_e rfl rfl (by omega)) rfl rfl hw ?_
  refine ev_istore (lv' := [(5, .int k), (0, .ref 1000), (1, .ref 0), (2, .ref 42), (3, .ref 65), (4, .int (Int32.ofNat p))]) d_132_221 (by decide) rfl ?_
  refine ev_aload_n d_132_223 rfl ?_
  refine ev_aload_n d_132_224 rfl ?_
  refine ev_iload d_132_225 rfl ?_
  refine ev_iconst d_132_227 ci_1 ?_
  refine ev_iadd (v := (Int32.ofNat (p + 1))) d_132_228 (li_add p 1) ?_
  refine ev_sald (i := (p + 1)) d_132_229 (li_in hp hL (by decide)) (li_nat hp hL (by decide)) ?_
  refine ev_aload_n d_132_230 rfl ?_
  refine ev_iload d_132_231 rfl ?_
  refine ev_iconst d_132_233 ci_2 ?_
  refine ev_iadd (v := (Int32.ofNat (p + 2))) d_132_234 (li_add p 2) ?_
  refine ev_sald (i := (p + 2)) d_132_235 (li_in hp hL (by decide)) (li_nat hp hL (by decide)) ?_
  refine ev_cvV (As := [.int (xs (p + 1)), .int (xs (p + 2))]) (t := []) (e' := (e + 3)) d_132_236 ml_9_92 rfl rfl rfl rfl rfl (le_e rfl rfl (by omega)) rfl (ltk6 (by decide) hN) rfl rfl rfl (ev_m_value (Nat.le_of_succ_le hN) (xs (p + 1)) (xs (p + 2)) σ1) ?_
  refine ev_goto (tgt := 756) d_132_239 rfl ?_
  refine ev_sub (lv' := [(0, .ref 1000), (1, .ref 0), (2, .ref 42), (3, .ref 65), (4, .int (Int32.ofNat p))]) (by simp) ?_
  exact hk
theorem law_4 (hN : 66 ≤ N) (p e : Nat) (hp : p + 6 ≤ L) (hL : L ≤ 3073) (he : e + 24 ≤ 20000) (σ σ1 : mmS) (k : Int32) (hw : Ev N L xs (69, 0, lv_args 0 [.ref 0, .int (xs (p + 1)), .int (xs (p + 2)), .int (xs (p + 3)), .int (xs (p + 4)), .int (xs (p + 5))], [], 0, σ) (mmSI (k, σ1))) (heq : (sp_m_thrown (sp_m_post (xs (p + 1)) (xs (p + 2)) (xs (p + 3)) (xs (p + 4)) (xs (p + 5)) σ1)) = k) (r : mmR) (hk : Ev N L xs (132, 756, [(0, .ref 1000), (1, .ref 0), (2, .ref 42), (3, .ref 65), (4, .int (Int32.ofNat p))], [], e + 7, (sp_m_post (xs (p + 1)) (xs (p + 2)) (xs (p + 3)) (xs (p + 4)) (xs (p + 5)) σ1)) r) : Ev N L xs (132, 242, [(0, .ref 1000), (1, .ref 0), (2, .ref 42), (3, .ref 65), (4, .int (Int32.ofNat p))], [], e, σ) (r) := by
  refine ev_aload_n d_132_242 rfl ?_
  refine ev_aload_n d_132_243 rfl ?_
  refine ev_iload d_132_244 rfl ?_
  refine ev_iconst d_132_246 ci_1 ?_
  refine ev_iadd (v := (Int32.ofNat (p + 1))) d_132_247 (li_add p 1) ?_
  refine ev_sald (i := (p + 1)) d_132_248 (li_in hp hL (by decide)) (li_nat hp hL (by decide)) ?_
  refine ev_aload_n d_132_249 rfl ?_
  refine ev_iload d_132_250 rfl ?_
  refine ev_iconst d_132_252 ci_2 ?_
  refine ev_iadd (v := (Int32.ofNat (p + 2))) d_132_253 (li_add p 2) ?_
  refine ev_sald (i := (p + 2)) d_132_254 (li_in hp hL (by decide)) (li_nat hp hL (by decide)) ?_
  refine ev_aload_n d_132_255 rfl ?_
  refine ev_iload d_132_256 rfl ?_
  refine ev_iconst d_132_258 ci_3 ?_
  refine ev_iadd (v := (Int32.ofNat (p + 3))) d_132_259 (li_add p 3) ?_
  refine ev_sald (i := (p + 3)) d_132_260 (li_in hp hL (by decide)) (li_nat hp hL (by decide)) ?_
  refine ev_aload_n d_132_261 rfl ?_
  refine ev_iload d_132_262 rfl ?_
  refine ev_iconst d_132_264 ci_4 ?_
  refine ev_iadd (v := (Int32.ofNat (p + 4))) d_132_265 (li_add p 4) ?_
  refine ev_sald (i := (p + 4)) d_132_266 (li_in hp hL (by decide)) (li_nat hp hL (by decide)) ?_
  refine ev_aload_n d_132_267 rfl ?_
  refine ev_iload d_132_268 rfl ?_
  refine ev_iconst d_132_270 ci_5 ?_
  refine ev_iadd (v := (Int32.ofNat (p + 5))) d_132_271 (li_add p 5) ?_
  refine ev_sald (i := (p + 5)) d_132_272 (li_in hp hL (by decide)) (li_nat hp hL (by decide)) ?_
  refine ev_csI (As := [.ref 0, .int (xs (p + 1)), .int (xs (p + 2)), .int (xs (p + 3)), .int (xs (p + 4)), .int (xs (p + 5))]) (t := []) (e' := (e + 7)) d_132_273 ml_9_93 rfl rfl rfl rfl rfl (le_e rfl rfl (by omega)) rfl rfl hw ?_
  refine ev_istore (lv' := [(5, .int k), (0, .ref 1000), (1, .ref 0), (2, .ref 42), (3, .ref 65), (4, .int (Int32.ofNat p))]) d_132_276 (by decide) rfl ?_
  refine ev_aload_n d_132_278 rfl ?_
  refine ev_aload_n d_132_279 rfl ?_
  refine ev_iload d_132_280 rfl ?_
  refine ev_iconst d_132_282 ci_1 ?_
  refine ev_iadd (v := (Int32.ofNat (p + 1))) d_132_283 (li_add p 1) ?_
  refine ev_sald (i := (p + 1)) d_132_284 (li_in hp hL (by decide)) (li_nat hp hL (by decide)) ?_
  refine ev_aload_n d_132_285 rfl ?_
  refine ev_iload d_132_286 rfl ?_
  refine ev_iconst d_132_288 ci_2 ?_
  refine ev_iadd (v := (Int32.ofNat (p + 2))) d_132_289 (li_add p 2) ?_
  refine ev_sald (i := (p + 2)) d_132_290 (li_in hp hL (by decide)) (li_nat hp hL (by decide)) ?_
  refine ev_aload_n d_132_291 rfl ?_
  refine ev_iload d_132_292 rfl ?_
  refine ev_iconst d_132_294 ci_3 ?_
  refine ev_iadd (v := (Int32.ofNat (p + 3))) d_132_295 (li_add p 3) ?_
  refine ev_sald (i := (p + 3)) d_132_296 (li_in hp hL (by decide)) (li_nat hp hL (by decide)) ?_
  refine ev_aload_n d_132_297 rfl ?_
  refine ev_iload d_132_298 rfl ?_
  refine ev_iconst d_132_300 ci_4 ?_
  refine ev_iadd (v := (Int32.ofNat (p + 4))) d_132_301 (li_add p 4) ?_
  refine ev_sald (i := (p + 4)) d_132_302 (li_in hp hL (by decide)) (li_nat hp hL (by decide)) ?_
  refine ev_aload_n d_132_303 rfl ?_
  refine ev_iload d_132_304 rfl ?_
  refine ev_iconst d_132_306 ci_5 ?_
  refine ev_iadd (v := (Int32.ofNat (p + 5))) d_132_307 (li_add p 5) ?_
  refine ev_sald (i := (p + 5)) d_132_308 (li_in hp hL (by decide)) (li_nat hp hL (by decide)) ?_
  refine ev_cvV (As := [.int (xs (p + 1)), .int (xs (p + 2)), .int (xs (p + 3)), .int (xs (p + 4)), .int (xs (p + 5))]) (t := []) (e' := (e + 7)) d_132_309 ml_9_96 rfl rfl rfl rfl rfl (le_e rfl rfl (by omega)) rfl (ltk6 (by decide) hN) rfl rfl rfl (ev_m_post (Nat.le_of_succ_le hN) (xs (p + 1)) (xs (p + 2)) (xs (p + 3)) (xs (p + 4)) (xs (p + 5)) σ1) ?_
  refine ev_aload_n d_132_312 rfl ?_
  refine ev_cvI (As := []) (t := []) (e' := (e + 7)) d_132_313 ml_9_97 rfl rfl rfl rfl rfl (le_e rfl rfl (by omega)) rfl (ltk6 (by decide) hN) rfl rfl rfl (ev_m_thrown (Nat.le_of_succ_le hN) (sp_m_post (xs (p + 1)) (xs (p + 2)) (xs (p + 3)) (xs (p + 4)) (xs (p + 5)) σ1)) ?_
  refine ev_iload d_132_316 rfl ?_
  refine ev_icmpT (tgt := 323) d_132_318 rfl heq ?_
  refine ev_goto (tgt := 756) d_132_323 rfl ?_
  refine ev_sub (lv' := [(0, .ref 1000), (1, .ref 0), (2, .ref 42), (3, .ref 65), (4, .int (Int32.ofNat p))]) (by simp) ?_
  exact hk
theorem law_5 (hN : 66 ≤ N) (p e : Nat) (hp : p + 6 ≤ L) (hL : L ≤ 3073) (he : e + 24 ≤ 20000) (σ σ1 : mmS) (k : Int32) (hw : Ev N L xs (72, 0, lv_args 0 [.ref 0, .long ((((xs (p + 1)).toInt64) <<< ((32 : Int32).toInt64 &&& 63)) ||| (((xs (p + 2)).toInt64) &&& (4294967295 : Int64)))], [], 0, σ) (mmSI (k, σ1))) (r : mmR) (hk : Ev N L xs (132, 756, [(0, .ref 1000), (1, .ref 0), (2, .ref 42), (3, .ref 65), (4, .int (Int32.ofNat p))], [], e + 1, (sp_m_disturb ((((xs (p + 1)).toInt64) <<< ((32 : Int32).toInt64 &&& 63)) ||| (((xs (p + 2)).toInt64) &&& (4294967295 : Int64))) σ1)) r) : Ev N L xs (132, 326, [(0, .ref 1000), (1, .ref 0), (2, .ref 42), (3, .ref 65), (4, .int (Int32.ofNat p))], [], e, σ) (r) := by
  refine ev_aload_n d_132_326 rfl ?_
  refine ev_aload_n d_132_327 rfl ?_
  refine ev_iload d_132_328 rfl ?_
  refine ev_iconst d_132_330 ci_1 ?_
  refine ev_iadd (v := (Int32.ofNat (p + 1))) d_132_331 (li_add p 1) ?_
  refine ev_sald (i := (p + 1)) d_132_332 (li_in hp hL (by decide)) (li_nat hp hL (by decide)) ?_
  refine ev_i2l (v := (xs (p + 1)).toInt64) d_132_333 rfl ?_
  refine ev_bipush d_132_334 cb_32 ?_
  refine ev_lshl (v := (((xs (p + 1)).toInt64) <<< ((32 : Int32).toInt64 &&& 63))) d_132_336 rfl ?_
  refine ev_aload_n d_132_337 rfl ?_
  refine ev_iload d_132_338 rfl ?_
  refine ev_iconst d_132_340 ci_2 ?_
  refine ev_iadd (v := (Int32.ofNat (p + 2))) d_132_341 (li_add p 2) ?_
  refine ev_sald (i := (p + 2)) d_132_342 (li_in hp hL (by decide)) (li_nat hp hL (by decide)) ?_
  refine ev_i2l (v := (xs (p + 2)).toInt64) d_132_343 rfl ?_
  refine ev_ldc2 d_132_344 kl_9_101 ?_
  refine ev_land (v := (((xs (p + 2)).toInt64) &&& (4294967295 : Int64))) d_132_347 rfl ?_
  refine ev_lor (v := ((((xs (p + 1)).toInt64) <<< ((32 : Int32).toInt64 &&& 63)) ||| (((xs (p + 2)).toInt64) &&& (4294967295 : Int64)))) d_132_348 rfl ?_
  refine ev_csI (As := [.ref 0, .long ((((xs (p + 1)).toInt64) <<< ((32 : Int32).toInt64 &&& 63)) ||| (((xs (p + 2)).toInt64) &&& (4294967295 : Int64)))]) (t := []) (e' := (e + 1)) d_132_349 ml_9_103 rfl rfl rfl rfl rfl (le_e rfl rfl (by omega)) rfl rfl hw ?_
  refine ev_istore (lv' := [(5, .int k), (0, .ref 1000), (1, .ref 0), (2, .ref 42), (3, .ref 65), (4, .int (Int32.ofNat p))]) d_132_352 (by decide) rfl ?_
  refine ev_aload_n d_132_354 rfl ?_
  refine ev_aload_n d_132_355 rfl ?_
  refine ev_iload d_132_356 rfl ?_
  refine ev_iconst d_132_358 ci_1 ?_
  refine ev_iadd (v := (Int32.ofNat (p + 1))) d_132_359 (li_add p 1) ?_
  refine ev_sald (i := (p + 1)) d_132_360 (li_in hp hL (by decide)) (li_nat hp hL (by decide)) ?_
  refine ev_i2l (v := (xs (p + 1)).toInt64) d_132_361 rfl ?_
  refine ev_bipush d_132_362 cb_32 ?_
  refine ev_lshl (v := (((xs (p + 1)).toInt64) <<< ((32 : Int32).toInt64 &&& 63))) d_132_364 rfl ?_
  refine ev_aload_n d_132_365 rfl ?_
  refine ev_iload d_132_366 rfl ?_
  refine ev_iconst d_132_368 ci_2 ?_
  refine ev_iadd (v := (Int32.ofNat (p + 2))) d_132_369 (li_add p 2) ?_
  refine ev_sald (i := (p + 2)) d_132_370 (li_in hp hL (by decide)) (li_nat hp hL (by decide)) ?_
  refine ev_i2l (v := (xs (p + 2)).toInt64) d_132_371 rfl ?_
  refine ev_ldc2 d_132_372 kl_9_101 ?_
  refine ev_land (v := (((xs (p + 2)).toInt64) &&& (4294967295 : Int64))) d_132_375 rfl ?_
  refine ev_lor (v := ((((xs (p + 1)).toInt64) <<< ((32 : Int32).toInt64 &&& 63)) ||| (((xs (p + 2)).toInt64) &&& (4294967295 : Int64)))) d_132_376 rfl ?_
  refine ev_cvV (As := [.long ((((xs (p + 1)).toInt64) <<< ((32 : Int32).toInt64 &&& 63)) ||| (((xs (p + 2)).toInt64) &&& (4294967295 : Int64)))]) (t := []) (e' := (e + 1)) d_132_377 ml_9_106 rfl rfl rfl rfl rfl (le_e rfl rfl (by omega)) rfl (ltk6 (by decide) hN) rfl rfl rfl (ev_m_disturb (Nat.le_of_succ_le hN) ((((xs (p + 1)).toInt64) <<< ((32 : Int32).toInt64 &&& 63)) ||| (((xs (p + 2)).toInt64) &&& (4294967295 : Int64))) σ1) ?_
  refine ev_goto (tgt := 756) d_132_380 rfl ?_
  refine ev_sub (lv' := [(0, .ref 1000), (1, .ref 0), (2, .ref 42), (3, .ref 65), (4, .int (Int32.ofNat p))]) (by simp) ?_
  exact hk
theorem law_6 (hN : 66 ≤ N) (p e : Nat) (hp : p + 6 ≤ L) (hL : L ≤ 3073) (he : e + 24 ≤ 20000) (σ σ1 : mmS) (k : Int32) (hw : Ev N L xs (75, 0, lv_args 0 [.ref 0, .int (xs (p + 1)), .ref 65], [], 0, σ) (mmSI (k, σ1))) (r : mmR) (hk : Ev N L xs (132, 756, [(0, .ref 1000), (1, .ref 0), (2, .ref 42), (3, .ref 65), (4, .int (Int32.ofNat p))], [], e + 1, (sp_m_lose (xs (p + 1)) σ1).2) r) : Ev N L xs (132, 383, [(0, .ref 1000), (1, .ref 0), (2, .ref 42), (3, .ref 65), (4, .int (Int32.ofNat p))], [], e, σ) (r) := by
  refine ev_aload_n d_132_383 rfl ?_
  refine ev_aload_n d_132_384 rfl ?_
  refine ev_iload d_132_385 rfl ?_
  refine ev_iconst d_132_387 ci_1 ?_
  refine ev_iadd (v := (Int32.ofNat (p + 1))) d_132_388 (li_add p 1) ?_
  refine ev_sald (i := (p + 1)) d_132_389 (li_in hp hL (by decide)) (li_nat hp hL (by decide)) ?_
  refine ev_aload_n d_132_390 rfl ?_
  refine ev_csI (As := [.ref 0, .int (xs (p + 1)), .ref 65]) (t := []) (e' := (e + 1)) d_132_391 ml_9_107 rfl rfl rfl rfl rfl (le_e rfl rfl (by omega)) rfl rfl hw ?_
  refine ev_istore (lv' := [(5, .int k), (0, .ref 1000), (1, .ref 0), (2, .ref 42), (3, .ref 65), (4, .int (Int32.ofNat p))]) d_132_394 (by decide) rfl ?_
  refine ev_aload_n d_132_396 rfl ?_
  refine ev_aload_n d_132_397 rfl ?_
  refine ev_iload d_132_398 rfl ?_
  refine ev_iconst d_132_400 ci_1 ?_
  refine ev_iadd (v := (Int32.ofNat (p + 1))) d_132_401 (li_add p 1) ?_
  refine ev_sald (i := (p + 1)) d_132_402 (li_in hp hL (by decide)) (li_nat hp hL (by decide)) ?_
  refine ev_cvI (As := [.int (xs (p + 1))]) (t := []) (e' := (e + 1)) d_132_403 ml_9_109 rfl rfl rfl rfl rfl (le_e rfl rfl (by omega)) rfl (ltk6 (by decide) hN) rfl rfl rfl (ev_m_lose (Nat.le_of_succ_le hN) (xs (p + 1)) σ1) ?_
  refine ev_istore (lv' := [(6, .int ((sp_m_lose (xs (p + 1)) σ1).1)), (5, .int k), (0, .ref 1000), (1, .ref 0), (2, .ref 42), (3, .ref 65), (4, .int (Int32.ofNat p))]) d_132_406 (by decide) rfl ?_
  refine ev_goto (tgt := 756) d_132_408 rfl ?_
  refine ev_sub (lv' := [(0, .ref 1000), (1, .ref 0), (2, .ref 42), (3, .ref 65), (4, .int (Int32.ofNat p))]) (by simp) ?_
  exact hk
theorem law_7 (hN : 66 ≤ N) (p e : Nat) (hp : p + 6 ≤ L) (hL : L ≤ 3073) (he : e + 24 ≤ 20000) (σ σ1 : mmS) (k : Int32) (hw : Ev N L xs (77, 0, lv_args 0 [.ref 0, .int (xs (p + 1)), .ref 65], [], 0, σ) (mmSI (k, σ1))) (r : mmR) (hk : Ev N L xs (132, 756, [(0, .ref 1000), (1, .ref 0), (2, .ref 42), (3, .ref 65), (4, .int (Int32.ofNat p))], [], e + 1, (sp_m_state (xs (p + 1)) σ1).2) r) : Ev N L xs (132, 411, [(0, .ref 1000), (1, .ref 0), (2, .ref 42), (3, .ref 65), (4, .int (Int32.ofNat p))], [], e, σ) (r) := by
  refine ev_aload_n d_132_411 rfl ?_
  refine ev_aload_n d_132_412 rfl ?_
  refine ev_iload d_132_413 rfl ?_
  refine ev_iconst d_132_415 ci_1 ?_
  refine ev_iadd (v := (Int32.ofNat (p + 1))) d_132_416 (li_add p 1) ?_
  refine ev_sald (i := (p + 1)) d_132_417 (li_in hp hL (by decide)) (li_nat hp hL (by decide)) ?_
  refine ev_aload_n d_132_418 rfl ?_
  refine ev_csI (As := [.ref 0, .int (xs (p + 1)), .ref 65]) (t := []) (e' := (e + 1)) d_132_419 ml_9_110 rfl rfl rfl rfl rfl (le_e rfl rfl (by omega)) rfl rfl hw ?_
  refine ev_istore (lv' := [(5, .int k), (0, .ref 1000), (1, .ref 0), (2, .ref 42), (3, .ref 65), (4, .int (Int32.ofNat p))]) d_132_422 (by decide) rfl ?_
  refine ev_aload_n d_132_424 rfl ?_
  refine ev_aload_n d_132_425 rfl ?_
  refine ev_iload d_132_426 rfl ?_
  refine ev_iconst d_132_428 ci_1 ?_
  refine ev_iadd (v := (Int32.ofNat (p + 1))) d_132_429 (li_add p 1) ?_
  refine ev_sald (i := (p + 1)) d_132_430 (li_in hp hL (by decide)) (li_nat hp hL (by decide)) ?_
  refine ev_cvI (As := [.int (xs (p + 1))]) (t := []) (e' := (e + 1)) d_132_431 ml_9_112 rfl rfl rfl rfl rfl (le_e rfl rfl (by omega)) rfl (ltk6 (by decide) hN) rfl rfl rfl (ev_m_state (Nat.le_of_succ_le hN) (xs (p + 1)) σ1) ?_
  refine ev_istore (lv' := [(6, .int ((sp_m_state (xs (p + 1)) σ1).1)), (5, .int k), (0, .ref 1000), (1, .ref 0), (2, .ref 42), (3, .ref 65), (4, .int (Int32.ofNat p))]) d_132_434 (by decide) rfl ?_
  refine ev_goto (tgt := 756) d_132_436 rfl ?_
  refine ev_sub (lv' := [(0, .ref 1000), (1, .ref 0), (2, .ref 42), (3, .ref 65), (4, .int (Int32.ofNat p))]) (by simp) ?_
  exact hk
theorem law_8 (hN : 66 ≤ N) (p e : Nat) (hp : p + 6 ≤ L) (hL : L ≤ 3073) (he : e + 24 ≤ 20000) (σ σ1 : mmS) (k : Int32) (hw : Ev N L xs (79, 0, lv_args 0 [.ref 0, .int (xs (p + 1)), .int (xs (p + 2)), .ref 65], [], 0, σ) (mmSI (k, σ1))) (r : mmR) (hk : Ev N L xs (132, 756, [(0, .ref 1000), (1, .ref 0), (2, .ref 42), (3, .ref 65), (4, .int (Int32.ofNat p))], [], e + 3, (sp_m_clock (xs (p + 1)) (xs (p + 2)) σ1).2) r) : Ev N L xs (132, 439, [(0, .ref 1000), (1, .ref 0), (2, .ref 42), (3, .ref 65), (4, .int (Int32.ofNat p))], [], e, σ) (r) := by
  refine ev_aload_n d_132_439 rfl ?_
  refine ev_aload_n d_132_440 rfl ?_
  refine ev_iload d_132_441 rfl ?_
  refine ev_iconst d_132_443 ci_1 ?_
  refine ev_iadd (v := (Int32.ofNat (p + 1))) d_132_444 (li_add p 1) ?_
  refine ev_sald (i := (p + 1)) d_132_445 (li_in hp hL (by decide)) (li_nat hp hL (by decide)) ?_
  refine ev_aload_n d_132_446 rfl ?_
  refine ev_iload d_132_447 rfl ?_
  refine ev_iconst d_132_449 ci_2 ?_
  refine ev_iadd (v := (Int32.ofNat (p + 2))) d_132_450 (li_add p 2) ?_
  refine ev_sald (i := (p + 2)) d_132_451 (li_in hp hL (by decide)) (li_nat hp hL (by decide)) ?_
  refine ev_aload_n d_132_452 rfl ?_
  refine ev_csI (As := [.ref 0, .int (xs (p + 1)), .int (xs (p + 2)), .ref 65]) (t := []) (e' := (e + 3)) d_132_453 ml_9_113 rfl rfl rfl rfl rfl (le_e rfl rfl (by omega)) rfl rfl hw ?_
  refine ev_istore (lv' := [(5, .int k), (0, .ref 1000), (1, .ref 0), (2, .ref 42), (3, .ref 65), (4, .int (Int32.ofNat p))]) d_132_456 (by decide) rfl ?_
  refine ev_aload_n d_132_458 rfl ?_
  refine ev_aload_n d_132_459 rfl ?_
  refine ev_iload d_132_460 rfl ?_
  refine ev_iconst d_132_462 ci_1 ?_
  refine ev_iadd (v := (Int32.ofNat (p + 1))) d_132_463 (li_add p 1) ?_
  refine ev_sald (i := (p + 1)) d_132_464 (li_in hp hL (by decide)) (li_nat hp hL (by decide)) ?_
  refine ev_aload_n d_132_465 rfl ?_
  refine ev_iload d_132_466 rfl ?_
  refine ev_iconst d_132_468 ci_2 ?_
  refine ev_iadd (v := (Int32.ofNat (p + 2))) d_132_469 (li_add p 2) ?_
  refine ev_sald (i := (p + 2)) d_132_470 (li_in hp hL (by decide)) (li_nat hp hL (by decide)) ?_
  refine ev_cvI (As := [.int (xs (p + 1)), .int (xs (p + 2))]) (t := []) (e' := (e + 3)) d_132_471 ml_9_116 rfl rfl rfl rfl rfl (le_e rfl rfl (by omega)) rfl (ltk6 (by decide) hN) rfl rfl rfl (ev_m_clock (Nat.le_of_succ_le hN) (xs (p + 1)) (xs (p + 2)) σ1) ?_
  refine ev_istore (lv' := [(6, .int ((sp_m_clock (xs (p + 1)) (xs (p + 2)) σ1).1)), (5, .int k), (0, .ref 1000), (1, .ref 0), (2, .ref 42), (3, .ref 65), (4, .int (Int32.ofNat p))]) d_132_474 (by decide) rfl ?_
  refine ev_goto (tgt := 756) d_132_476 rfl ?_
  refine ev_sub (lv' := [(0, .ref 1000), (1, .ref 0), (2, .ref 42), (3, .ref 65), (4, .int (Int32.ofNat p))]) (by simp) ?_
  exact hk
theorem law_9f (hN : 66 ≤ N) (p e : Nat) (hp : p + 6 ≤ L) (hL : L ≤ 3073) (he : e + 24 ≤ 20000) (σ σ1 : mmS) (k : Int32) (hb : (xs (p + 3)) = (0 : Int32)) (hw : Ev N L xs (82, 0, lv_args 0 [.ref 0, .int (xs (p + 1)), .int (xs (p + 2)), .int (0 : Int32), .ref 65], [], 0, σ) (mmSI (k, σ1))) (r : mmR) (hk : Ev N L xs (132, 756, [(0, .ref 1000), (1, .ref 0), (2, .ref 42), (3, .ref 65), (4, .int (Int32.ofNat p))], [], e + 3, (sp_m_deviation (xs (p + 1)) (xs (p + 2)) (0 : Int32) σ1).2) r) : Ev N L xs (132, 479, [(0, .ref 1000), (1, .ref 0), (2, .ref 42), (3, .ref 65), (4, .int (Int32.ofNat p))], [], e, σ) (r) := by
  refine ev_aload_n d_132_479 rfl ?_
  refine ev_aload_n d_132_480 rfl ?_
  refine ev_iload d_132_481 rfl ?_
  refine ev_iconst d_132_483 ci_1 ?_
  refine ev_iadd (v := (Int32.ofNat (p + 1))) d_132_484 (li_add p 1) ?_
  refine ev_sald (i := (p + 1)) d_132_485 (li_in hp hL (by decide)) (li_nat hp hL (by decide)) ?_
  refine ev_aload_n d_132_486 rfl ?_
  refine ev_iload d_132_487 rfl ?_
  refine ev_iconst d_132_489 ci_2 ?_
  refine ev_iadd (v := (Int32.ofNat (p + 2))) d_132_490 (li_add p 2) ?_
  refine ev_sald (i := (p + 2)) d_132_491 (li_in hp hL (by decide)) (li_nat hp hL (by decide)) ?_
  refine ev_aload_n d_132_492 rfl ?_
  refine ev_iload d_132_493 rfl ?_
  refine ev_iconst d_132_495 ci_3 ?_
  refine ev_iadd (v := (Int32.ofNat (p + 3))) d_132_496 (li_add p 3) ?_
  refine ev_sald (i := (p + 3)) d_132_497 (li_in hp hL (by decide)) (li_nat hp hL (by decide)) ?_
  refine ev_ifT (tgt := 505) d_132_498 rfl hb ?_
  refine ev_iconst d_132_505 ci_0 ?_
  refine ev_aload_n d_132_506 rfl ?_
  refine ev_csI (As := [.ref 0, .int (xs (p + 1)), .int (xs (p + 2)), .int (0 : Int32), .ref 65]) (t := []) (e' := (e + 3)) d_132_507 ml_9_117 rfl rfl rfl rfl rfl (le_e rfl rfl (by omega)) rfl rfl hw ?_
  refine ev_istore (lv' := [(5, .int k), (0, .ref 1000), (1, .ref 0), (2, .ref 42), (3, .ref 65), (4, .int (Int32.ofNat p))]) d_132_510 (by decide) rfl ?_
  refine ev_aload_n d_132_512 rfl ?_
  refine ev_aload_n d_132_513 rfl ?_
  refine ev_iload d_132_514 rfl ?_
  refine ev_iconst d_132_516 ci_1 ?_
  refine ev_iadd (v := (Int32.ofNat (p + 1))) d_132_517 (li_add p 1) ?_
  refine ev_sald (i := (p + 1)) d_132_518 (li_in hp hL (by decide)) (li_nat hp hL (by decide)) ?_
  refine ev_aload_n d_132_519 rfl ?_
  refine ev_iload d_132_520 rfl ?_
  refine ev_iconst d_132_522 ci_2 ?_
  refine ev_iadd (v := (Int32.ofNat (p + 2))) d_132_523 (li_add p 2) ?_
  refine ev_sald (i := (p + 2)) d_132_524 (li_in hp hL (by decide)) (li_nat hp hL (by decide)) ?_
  refine ev_aload_n d_132_525 rfl ?_
  refine ev_iload d_132_526 rfl ?_
  refine ev_iconst d_132_528 ci_3 ?_
  refine ev_iadd (v := (Int32.ofNat (p + 3))) d_132_529 (li_add p 3) ?_
  refine ev_sald (i := (p + 3)) d_132_530 (li_in hp hL (by decide)) (li_nat hp hL (by decide)) ?_
  refine ev_ifT (tgt := 538) d_132_531 rfl hb ?_
  refine ev_iconst d_132_538 ci_0 ?_
  refine ev_cvI (As := [.int (xs (p + 1)), .int (xs (p + 2)), .int (0 : Int32)]) (t := []) (e' := (e + 3)) d_132_539 ml_9_120 rfl rfl rfl rfl rfl (le_e rfl rfl (by omega)) rfl (ltk6 (by decide) hN) rfl rfl rfl (ev_m_deviation (Nat.le_of_succ_le hN) (xs (p + 1)) (xs (p + 2)) (0 : Int32) σ1) ?_
  refine ev_istore (lv' := [(6, .int ((sp_m_deviation (xs (p + 1)) (xs (p + 2)) (0 : Int32) σ1).1)), (5, .int k), (0, .ref 1000), (1, .ref 0), (2, .ref 42), (3, .ref 65), (4, .int (Int32.ofNat p))]) d_132_542 (by decide) rfl ?_
  refine ev_goto (tgt := 756) d_132_544 rfl ?_
  refine ev_sub (lv' := [(0, .ref 1000), (1, .ref 0), (2, .ref 42), (3, .ref 65), (4, .int (Int32.ofNat p))]) (by simp) ?_
  exact hk
theorem law_9t (hN : 66 ≤ N) (p e : Nat) (hp : p + 6 ≤ L) (hL : L ≤ 3073) (he : e + 24 ≤ 20000) (σ σ1 : mmS) (k : Int32) (hb : ¬ ((xs (p + 3)) = (0 : Int32))) (hw : Ev N L xs (82, 0, lv_args 0 [.ref 0, .int (xs (p + 1)), .int (xs (p + 2)), .int (1 : Int32), .ref 65], [], 0, σ) (mmSI (k, σ1))) (r : mmR) (hk : Ev N L xs (132, 756, [(0, .ref 1000), (1, .ref 0), (2, .ref 42), (3, .ref 65), (4, .int (Int32.ofNat p))], [], e + 3, (sp_m_deviation (xs (p + 1)) (xs (p + 2)) (1 : Int32) σ1).2) r) : Ev N L xs (132, 479, [(0, .ref 1000), (1, .ref 0), (2, .ref 42), (3, .ref 65), (4, .int (Int32.ofNat p))], [], e, σ) (r) := by
  refine ev_aload_n d_132_479 rfl ?_
  refine ev_aload_n d_132_480 rfl ?_
  refine ev_iload d_132_481 rfl ?_
  refine ev_iconst d_132_483 ci_1 ?_
  refine ev_iadd (v := (Int32.ofNat (p + 1))) d_132_484 (li_add p 1) ?_
  refine ev_sald (i := (p + 1)) d_132_485 (li_in hp hL (by decide)) (li_nat hp hL (by decide)) ?_
  refine ev_aload_n d_132_486 rfl ?_
  refine ev_iload d_132_487 rfl ?_
  refine ev_iconst d_132_489 ci_2 ?_
  refine ev_iadd (v := (Int32.ofNat (p + 2))) d_132_490 (li_add p 2) ?_
  refine ev_sald (i := (p + 2)) d_132_491 (li_in hp hL (by decide)) (li_nat hp hL (by decide)) ?_
  refine ev_aload_n d_132_492 rfl ?_
  refine ev_iload d_132_493 rfl ?_
  refine ev_iconst d_132_495 ci_3 ?_
  refine ev_iadd (v := (Int32.ofNat (p + 3))) d_132_496 (li_add p 3) ?_
  refine ev_sald (i := (p + 3)) d_132_497 (li_in hp hL (by decide)) (li_nat hp hL (by decide)) ?_
  refine ev_ifF (tgt := 505) d_132_498 rfl hb ?_
  refine ev_iconst d_132_501 ci_1 ?_
  refine ev_goto (tgt := 506) d_132_502 rfl ?_
  refine ev_aload_n d_132_506 rfl ?_
  refine ev_csI (As := [.ref 0, .int (xs (p + 1)), .int (xs (p + 2)), .int (1 : Int32), .ref 65]) (t := []) (e' := (e + 3)) d_132_507 ml_9_117 rfl rfl rfl rfl rfl (le_e rfl rfl (by omega)) rfl rfl hw ?_
  refine ev_istore (lv' := [(5, .int k), (0, .ref 1000), (1, .ref 0), (2, .ref 42), (3, .ref 65), (4, .int (Int32.ofNat p))]) d_132_510 (by decide) rfl ?_
  refine ev_aload_n d_132_512 rfl ?_
  refine ev_aload_n d_132_513 rfl ?_
  refine ev_iload d_132_514 rfl ?_
  refine ev_iconst d_132_516 ci_1 ?_
  refine ev_iadd (v := (Int32.ofNat (p + 1))) d_132_517 (li_add p 1) ?_
  refine ev_sald (i := (p + 1)) d_132_518 (li_in hp hL (by decide)) (li_nat hp hL (by decide)) ?_
  refine ev_aload_n d_132_519 rfl ?_
  refine ev_iload d_132_520 rfl ?_
  refine ev_iconst d_132_522 ci_2 ?_
  refine ev_iadd (v := (Int32.ofNat (p + 2))) d_132_523 (li_add p 2) ?_
  refine ev_sald (i := (p + 2)) d_132_524 (li_in hp hL (by decide)) (li_nat hp hL (by decide)) ?_
  refine ev_aload_n d_132_525 rfl ?_
  refine ev_iload d_132_526 rfl ?_
  refine ev_iconst d_132_528 ci_3 ?_
  refine ev_iadd (v := (Int32.ofNat (p + 3))) d_132_529 (li_add p 3) ?_
  refine ev_sald (i := (p + 3)) d_132_530 (li_in hp hL (by decide)) (li_nat hp hL (by decide)) ?_
  refine ev_ifF (tgt := 538) d_132_531 rfl hb ?_
  refine ev_iconst d_132_534 ci_1 ?_
  refine ev_goto (tgt := 539) d_132_535 rfl ?_
  refine ev_cvI (As := [.int (xs (p + 1)), .int (xs (p + 2)), .int (1 : Int32)]) (t := []) (e' := (e + 3)) d_132_539 ml_9_120 rfl rfl rfl rfl rfl (le_e rfl rfl (by omega)) rfl (ltk6 (by decide) hN) rfl rfl rfl (ev_m_deviation (Nat.le_of_succ_le hN) (xs (p + 1)) (xs (p + 2)) (1 : Int32) σ1) ?_
  refine ev_istore (lv' := [(6, .int ((sp_m_deviation (xs (p + 1)) (xs (p + 2)) (1 : Int32) σ1).1)), (5, .int k), (0, .ref 1000), (1, .ref 0), (2, .ref 42), (3, .ref 65), (4, .int (Int32.ofNat p))]) d_132_542 (by decide) rfl ?_
  refine ev_goto (tgt := 756) d_132_544 rfl ?_
  refine ev_sub (lv' := [(0, .ref 1000), (1, .ref 0), (2, .ref 42), (3, .ref 65), (4, .int (Int32.ofNat p))]) (by simp) ?_
  exact hk
theorem law_10 (hN : 66 ≤ N) (p e : Nat) (hp : p + 6 ≤ L) (hL : L ≤ 3073) (he : e + 24 ≤ 20000) (σ σ1 : mmS) (k : Int32) (hw : Ev N L xs (86, 0, lv_args 0 [.ref 0, .int (xs (p + 1)), .int (xs (p + 2)), .ref 65], [], 0, σ) (mmSI (k, σ1))) (r : mmR) (hk : Ev N L xs (132, 756, [(0, .ref 1000), (1, .ref 0), (2, .ref 42), (3, .ref 65), (4, .int (Int32.ofNat p))], [], e + 3, (sp_m_got (xs (p + 1)) (xs (p + 2)) σ1).2) r) : Ev N L xs (132, 547, [(0, .ref 1000), (1, .ref 0), (2, .ref 42), (3, .ref 65), (4, .int (Int32.ofNat p))], [], e, σ) (r) := by
  refine ev_aload_n d_132_547 rfl ?_
  refine ev_aload_n d_132_548 rfl ?_
  refine ev_iload d_132_549 rfl ?_
  refine ev_iconst d_132_551 ci_1 ?_
  refine ev_iadd (v := (Int32.ofNat (p + 1))) d_132_552 (li_add p 1) ?_
  refine ev_sald (i := (p + 1)) d_132_553 (li_in hp hL (by decide)) (li_nat hp hL (by decide)) ?_
  refine ev_aload_n d_132_554 rfl ?_
  refine ev_iload d_132_555 rfl ?_
  refine ev_iconst d_132_557 ci_2 ?_
  refine ev_iadd (v := (Int32.ofNat (p + 2))) d_132_558 (li_add p 2) ?_
  refine ev_sald (i := (p + 2)) d_132_559 (li_in hp hL (by decide)) (li_nat hp hL (by decide)) ?_
  refine ev_aload_n d_132_560 rfl ?_
  refine ev_csI (As := [.ref 0, .int (xs (p + 1)), .int (xs (p + 2)), .ref 65]) (t := []) (e' := (e + 3)) d_132_561 ml_9_121 rfl rfl rfl rfl rfl (le_e rfl rfl (by omega)) rfl rfl hw ?_
  refine ev_istore (lv' := [(5, .int k), (0, .ref 1000), (1, .ref 0), (2, .ref 42), (3, .ref 65), (4, .int (Int32.ofNat p))]) d_132_564 (by decide) rfl ?_
  refine ev_aload_n d_132_566 rfl ?_
  refine ev_aload_n d_132_567 rfl ?_
  refine ev_iload d_132_568 rfl ?_
  refine ev_iconst d_132_570 ci_1 ?_
  refine ev_iadd (v := (Int32.ofNat (p + 1))) d_132_571 (li_add p 1) ?_
  refine ev_sald (i := (p + 1)) d_132_572 (li_in hp hL (by decide)) (li_nat hp hL (by decide)) ?_
  refine ev_aload_n d_132_573 rfl ?_
  refine ev_iload d_132_574 rfl ?_
  refine ev_iconst d_132_576 ci_2 ?_
  refine ev_iadd (v := (Int32.ofNat (p + 2))) d_132_577 (li_add p 2) ?_
  refine ev_sald (i := (p + 2)) d_132_578 (li_in hp hL (by decide)) (li_nat hp hL (by decide)) ?_
  refine ev_cvI (As := [.int (xs (p + 1)), .int (xs (p + 2))]) (t := []) (e' := (e + 3)) d_132_579 ml_9_123 rfl rfl rfl rfl rfl (le_e rfl rfl (by omega)) rfl (ltk6 (by decide) hN) rfl rfl rfl (ev_m_got (Nat.le_of_succ_le hN) (xs (p + 1)) (xs (p + 2)) σ1) ?_
  refine ev_istore (lv' := [(6, .int ((sp_m_got (xs (p + 1)) (xs (p + 2)) σ1).1)), (5, .int k), (0, .ref 1000), (1, .ref 0), (2, .ref 42), (3, .ref 65), (4, .int (Int32.ofNat p))]) d_132_582 (by decide) rfl ?_
  refine ev_goto (tgt := 756) d_132_584 rfl ?_
  refine ev_sub (lv' := [(0, .ref 1000), (1, .ref 0), (2, .ref 42), (3, .ref 65), (4, .int (Int32.ofNat p))]) (by simp) ?_
  exact hk
theorem law_11 (hN : 66 ≤ N) (p e : Nat) (hp : p + 6 ≤ L) (hL : L ≤ 3073) (he : e + 24 ≤ 20000) (σ : mmS) (r : mmR) (hk : Ev N L xs (132, 756, [(0, .ref 1000), (1, .ref 0), (2, .ref 42), (3, .ref 65), (4, .int (Int32.ofNat p))], [], e, (sp_m_frames σ).2) r) : Ev N L xs (132, 587, [(0, .ref 1000), (1, .ref 0), (2, .ref 42), (3, .ref 65), (4, .int (Int32.ofNat p))], [], e, σ) (r) := by
  refine ev_aload_n d_132_587 rfl ?_
  refine ev_cvI (As := []) (t := []) (e' := e) d_132_588 ml_9_124 rfl rfl rfl rfl rfl (le_e rfl rfl (by omega)) rfl (ltk6 (by decide) hN) rfl rfl rfl (ev_b_frames (Nat.le_of_succ_le hN) σ) ?_
  refine ev_pop d_132_591 rfl ?_
  refine ev_aload_n d_132_592 rfl ?_
  refine ev_cvI (As := []) (t := []) (e' := e) d_132_593 ml_9_127 rfl rfl rfl rfl rfl (le_e rfl rfl (by omega)) rfl (ltk6 (by decide) hN) rfl rfl rfl (ev_m_frames (Nat.le_of_succ_le hN) σ) ?_
  refine ev_pop d_132_596 rfl ?_
  refine ev_goto (tgt := 756) d_132_597 rfl ?_
  exact hk
theorem law_12 (hN : 66 ≤ N) (p e : Nat) (hp : p + 6 ≤ L) (hL : L ≤ 3073) (he : e + 24 ≤ 20000) (σ σ1 : mmS) (k : Int32) (hw : Ev N L xs (88, 0, lv_args 0 [.ref 0, .ref 65], [], 0, σ) (mmSI (k, σ1))) (r : mmR) (hk : Ev N L xs (132, 756, [(0, .ref 1000), (1, .ref 0), (2, .ref 42), (3, .ref 65), (4, .int (Int32.ofNat p))], [], e + 1, (sp_m_last σ1).2) r) : Ev N L xs (132, 600, [(0, .ref 1000), (1, .ref 0), (2, .ref 42), (3, .ref 65), (4, .int (Int32.ofNat p))], [], e, σ) (r) := by
  refine ev_aload_n d_132_600 rfl ?_
  refine ev_aload_n d_132_601 rfl ?_
  refine ev_csI (As := [.ref 0, .ref 65]) (t := []) (e' := (e + 1)) d_132_602 ml_9_128 rfl rfl rfl rfl rfl (le_e rfl rfl (by omega)) rfl rfl hw ?_
  refine ev_istore (lv' := [(5, .int k), (0, .ref 1000), (1, .ref 0), (2, .ref 42), (3, .ref 65), (4, .int (Int32.ofNat p))]) d_132_605 (by decide) rfl ?_
  refine ev_aload_n d_132_607 rfl ?_
  refine ev_cvJ (As := []) (t := []) (e' := (e + 1)) d_132_608 ml_9_131 rfl rfl rfl rfl rfl (le_e rfl rfl (by omega)) rfl (ltk6 (by decide) hN) rfl rfl rfl (ev_m_last (Nat.le_of_succ_le hN) σ1) ?_
  refine ev_lstore (lv' := [(6, .long ((sp_m_last σ1).1)), (5, .int k), (0, .ref 1000), (1, .ref 0), (2, .ref 42), (3, .ref 65), (4, .int (Int32.ofNat p))]) d_132_611 (by decide) rfl ?_
  refine ev_goto (tgt := 756) d_132_613 rfl ?_
  refine ev_sub (lv' := [(0, .ref 1000), (1, .ref 0), (2, .ref 42), (3, .ref 65), (4, .int (Int32.ofNat p))]) (by simp) ?_
  exact hk
theorem law_13f (hN : 66 ≤ N) (p e : Nat) (hp : p + 6 ≤ L) (hL : L ≤ 3073) (he : e + 24 ≤ 20000) (σ σ1 : mmS) (k : Int32) (hb : (xs (p + 3)) = (0 : Int32)) (hw : Ev N L xs (90, 0, lv_args 0 [.ref 0, .int (xs (p + 1)), .int (xs (p + 2)), .int (0 : Int32), .int (xs (p + 4)), .ref 65], [], 0, σ) (mmSI (k, σ1))) (r : mmR) (hk : Ev N L xs (132, 756, [(0, .ref 1000), (1, .ref 0), (2, .ref 42), (3, .ref 65), (4, .int (Int32.ofNat p))], [], e + 3, (sp_m_encode (xs (p + 1)) (xs (p + 2)) (0 : Int32) (xs (p + 4)) σ1).2) r) : Ev N L xs (132, 616, [(0, .ref 1000), (1, .ref 0), (2, .ref 42), (3, .ref 65), (4, .int (Int32.ofNat p))], [], e, σ) (r) := by
  refine ev_aload_n d_132_616 rfl ?_
  refine ev_aload_n d_132_617 rfl ?_
  refine ev_iload d_132_618 rfl ?_
  refine ev_iconst d_132_620 ci_1 ?_
  refine ev_iadd (v := (Int32.ofNat (p + 1))) d_132_621 (li_add p 1) ?_
  refine ev_sald (i := (p + 1)) d_132_622 (li_in hp hL (by decide)) (li_nat hp hL (by decide)) ?_
  refine ev_aload_n d_132_623 rfl ?_
  refine ev_iload d_132_624 rfl ?_
  refine ev_iconst d_132_626 ci_2 ?_
  refine ev_iadd (v := (Int32.ofNat (p + 2))) d_132_627 (li_add p 2) ?_
  refine ev_sald (i := (p + 2)) d_132_628 (li_in hp hL (by decide)) (li_nat hp hL (by decide)) ?_
  refine ev_aload_n d_132_629 rfl ?_
  refine ev_iload d_132_630 rfl ?_
  refine ev_iconst d_132_632 ci_3 ?_
  refine ev_iadd (v := (Int32.ofNat (p + 3))) d_132_633 (li_add p 3) ?_
  refine ev_sald (i := (p + 3)) d_132_634 (li_in hp hL (by decide)) (li_nat hp hL (by decide)) ?_
  refine ev_ifT (tgt := 642) d_132_635 rfl hb ?_
  refine ev_iconst d_132_642 ci_0 ?_
  refine ev_aload_n d_132_643 rfl ?_
  refine ev_iload d_132_644 rfl ?_
  refine ev_iconst d_132_646 ci_4 ?_
  refine ev_iadd (v := (Int32.ofNat (p + 4))) d_132_647 (li_add p 4) ?_
  refine ev_sald (i := (p + 4)) d_132_648 (li_in hp hL (by decide)) (li_nat hp hL (by decide)) ?_
  refine ev_aload_n d_132_649 rfl ?_
  refine ev_csI (As := [.ref 0, .int (xs (p + 1)), .int (xs (p + 2)), .int (0 : Int32), .int (xs (p + 4)), .ref 65]) (t := []) (e' := (e + 3)) d_132_650 ml_9_132 rfl rfl rfl rfl rfl (le_e rfl rfl (by omega)) rfl rfl hw ?_
  refine ev_istore (lv' := [(5, .int k), (0, .ref 1000), (1, .ref 0), (2, .ref 42), (3, .ref 65), (4, .int (Int32.ofNat p))]) d_132_653 (by decide) rfl ?_
  refine ev_aload_n d_132_655 rfl ?_
  refine ev_aload_n d_132_656 rfl ?_
  refine ev_iload d_132_657 rfl ?_
  refine ev_iconst d_132_659 ci_1 ?_
  refine ev_iadd (v := (Int32.ofNat (p + 1))) d_132_660 (li_add p 1) ?_
  refine ev_sald (i := (p + 1)) d_132_661 (li_in hp hL (by decide)) (li_nat hp hL (by decide)) ?_
  refine ev_aload_n d_132_662 rfl ?_
  refine ev_iload d_132_663 rfl ?_
  refine ev_iconst d_132_665 ci_2 ?_
  refine ev_iadd (v := (Int32.ofNat (p + 2))) d_132_666 (li_add p 2) ?_
  refine ev_sald (i := (p + 2)) d_132_667 (li_in hp hL (by decide)) (li_nat hp hL (by decide)) ?_
  refine ev_aload_n d_132_668 rfl ?_
  refine ev_iload d_132_669 rfl ?_
  refine ev_iconst d_132_671 ci_3 ?_
  refine ev_iadd (v := (Int32.ofNat (p + 3))) d_132_672 (li_add p 3) ?_
  refine ev_sald (i := (p + 3)) d_132_673 (li_in hp hL (by decide)) (li_nat hp hL (by decide)) ?_
  refine ev_ifT (tgt := 681) d_132_674 rfl hb ?_
  refine ev_iconst d_132_681 ci_0 ?_
  refine ev_aload_n d_132_682 rfl ?_
  refine ev_iload d_132_683 rfl ?_
  refine ev_iconst d_132_685 ci_4 ?_
  refine ev_iadd (v := (Int32.ofNat (p + 4))) d_132_686 (li_add p 4) ?_
  refine ev_sald (i := (p + 4)) d_132_687 (li_in hp hL (by decide)) (li_nat hp hL (by decide)) ?_
  refine ev_cvJ (As := [.int (xs (p + 1)), .int (xs (p + 2)), .int (0 : Int32), .int (xs (p + 4))]) (t := []) (e' := (e + 3)) d_132_688 ml_9_135 rfl rfl rfl rfl rfl (le_e rfl rfl (by omega)) rfl (ltk6 (by decide) hN) rfl rfl rfl (ev_m_encode (Nat.le_of_succ_le hN) (xs (p + 1)) (xs (p + 2)) (0 : Int32) (xs (p + 4)) σ1) ?_
  refine ev_lstore (lv' := [(6, .long ((sp_m_encode (xs (p + 1)) (xs (p + 2)) (0 : Int32) (xs (p + 4)) σ1).1)), (5, .int k), (0, .ref 1000), (1, .ref 0), (2, .ref 42), (3, .ref 65), (4, .int (Int32.ofNat p))]) d_132_691 (by decide) rfl ?_
  refine ev_goto (tgt := 756) d_132_693 rfl ?_
  refine ev_sub (lv' := [(0, .ref 1000), (1, .ref 0), (2, .ref 42), (3, .ref 65), (4, .int (Int32.ofNat p))]) (by simp) ?_
  exact hk
theorem law_13t (hN : 66 ≤ N) (p e : Nat) (hp : p + 6 ≤ L) (hL : L ≤ 3073) (he : e + 24 ≤ 20000) (σ σ1 : mmS) (k : Int32) (hb : ¬ ((xs (p + 3)) = (0 : Int32))) (hw : Ev N L xs (90, 0, lv_args 0 [.ref 0, .int (xs (p + 1)), .int (xs (p + 2)), .int (1 : Int32), .int (xs (p + 4)), .ref 65], [], 0, σ) (mmSI (k, σ1))) (r : mmR) (hk : Ev N L xs (132, 756, [(0, .ref 1000), (1, .ref 0), (2, .ref 42), (3, .ref 65), (4, .int (Int32.ofNat p))], [], e + 3, (sp_m_encode (xs (p + 1)) (xs (p + 2)) (1 : Int32) (xs (p + 4)) σ1).2) r) : Ev N L xs (132, 616, [(0, .ref 1000), (1, .ref 0), (2, .ref 42), (3, .ref 65), (4, .int (Int32.ofNat p))], [], e, σ) (r) := by
  refine ev_aload_n d_132_616 rfl ?_
  refine ev_aload_n d_132_617 rfl ?_
  refine ev_iload d_132_618 rfl ?_
  refine ev_iconst d_132_620 ci_1 ?_
  refine ev_iadd (v := (Int32.ofNat (p + 1))) d_132_621 (li_add p 1) ?_
  refine ev_sald (i := (p + 1)) d_132_622 (li_in hp hL (by decide)) (li_nat hp hL (by decide)) ?_
  refine ev_aload_n d_132_623 rfl ?_
  refine ev_iload d_132_624 rfl ?_
  refine ev_iconst d_132_626 ci_2 ?_
  refine ev_iadd (v := (Int32.ofNat (p + 2))) d_132_627 (li_add p 2) ?_
  refine ev_sald (i := (p + 2)) d_132_628 (li_in hp hL (by decide)) (li_nat hp hL (by decide)) ?_
  refine ev_aload_n d_132_629 rfl ?_
  refine ev_iload d_132_630 rfl ?_
  refine ev_iconst d_132_632 ci_3 ?_
  refine ev_iadd (v := (Int32.ofNat (p + 3))) d_132_633 (li_add p 3) ?_
  refine ev_sald (i := (p + 3)) d_132_634 (li_in hp hL (by decide)) (li_nat hp hL (by decide)) ?_
  refine ev_ifF (tgt := 642) d_132_635 rfl hb ?_
  refine ev_iconst d_132_638 ci_1 ?_
  refine ev_goto (tgt := 643) d_132_639 rfl ?_
  refine ev_aload_n d_132_643 rfl ?_
  refine ev_iload d_132_644 rfl ?_
  refine ev_iconst d_132_646 ci_4 ?_
  refine ev_iadd (v := (Int32.ofNat (p + 4))) d_132_647 (li_add p 4) ?_
  refine ev_sald (i := (p + 4)) d_132_648 (li_in hp hL (by decide)) (li_nat hp hL (by decide)) ?_
  refine ev_aload_n d_132_649 rfl ?_
  refine ev_csI (As := [.ref 0, .int (xs (p + 1)), .int (xs (p + 2)), .int (1 : Int32), .int (xs (p + 4)), .ref 65]) (t := []) (e' := (e + 3)) d_132_650 ml_9_132 rfl rfl rfl rfl rfl (le_e rfl rfl (by omega)) rfl rfl hw ?_
  refine ev_istore (lv' := [(5, .int k), (0, .ref 1000), (1, .ref 0), (2, .ref 42), (3, .ref 65), (4, .int (Int32.ofNat p))]) d_132_653 (by decide) rfl ?_
  refine ev_aload_n d_132_655 rfl ?_
  refine ev_aload_n d_132_656 rfl ?_
  refine ev_iload d_132_657 rfl ?_
  refine ev_iconst d_132_659 ci_1 ?_
  refine ev_iadd (v := (Int32.ofNat (p + 1))) d_132_660 (li_add p 1) ?_
  refine ev_sald (i := (p + 1)) d_132_661 (li_in hp hL (by decide)) (li_nat hp hL (by decide)) ?_
  refine ev_aload_n d_132_662 rfl ?_
  refine ev_iload d_132_663 rfl ?_
  refine ev_iconst d_132_665 ci_2 ?_
  refine ev_iadd (v := (Int32.ofNat (p + 2))) d_132_666 (li_add p 2) ?_
  refine ev_sald (i := (p + 2)) d_132_667 (li_in hp hL (by decide)) (li_nat hp hL (by decide)) ?_
  refine ev_aload_n d_132_668 rfl ?_
  refine ev_iload d_132_669 rfl ?_
  refine ev_iconst d_132_671 ci_3 ?_
  refine ev_iadd (v := (Int32.ofNat (p + 3))) d_132_672 (li_add p 3) ?_
  refine ev_sald (i := (p + 3)) d_132_673 (li_in hp hL (by decide)) (li_nat hp hL (by decide)) ?_
  refine ev_ifF (tgt := 681) d_132_674 rfl hb ?_
  refine ev_iconst d_132_677 ci_1 ?_
  refine ev_goto (tgt := 682) d_132_678 rfl ?_
  refine ev_aload_n d_132_682 rfl ?_
  refine ev_iload d_132_683 rfl ?_
  refine ev_iconst d_132_685 ci_4 ?_
  refine ev_iadd (v := (Int32.ofNat (p + 4))) d_132_686 (li_add p 4) ?_
  refine ev_sald (i := (p + 4)) d_132_687 (li_in hp hL (by decide)) (li_nat hp hL (by decide)) ?_
  refine ev_cvJ (As := [.int (xs (p + 1)), .int (xs (p + 2)), .int (1 : Int32), .int (xs (p + 4))]) (t := []) (e' := (e + 3)) d_132_688 ml_9_135 rfl rfl rfl rfl rfl (le_e rfl rfl (by omega)) rfl (ltk6 (by decide) hN) rfl rfl rfl (ev_m_encode (Nat.le_of_succ_le hN) (xs (p + 1)) (xs (p + 2)) (1 : Int32) (xs (p + 4)) σ1) ?_
  refine ev_lstore (lv' := [(6, .long ((sp_m_encode (xs (p + 1)) (xs (p + 2)) (1 : Int32) (xs (p + 4)) σ1).1)), (5, .int k), (0, .ref 1000), (1, .ref 0), (2, .ref 42), (3, .ref 65), (4, .int (Int32.ofNat p))]) d_132_691 (by decide) rfl ?_
  refine ev_goto (tgt := 756) d_132_693 rfl ?_
  refine ev_sub (lv' := [(0, .ref 1000), (1, .ref 0), (2, .ref 42), (3, .ref 65), (4, .int (Int32.ofNat p))]) (by simp) ?_
  exact hk
theorem law_14 (hN : 66 ≤ N) (p e : Nat) (hp : p + 6 ≤ L) (hL : L ≤ 3073) (he : e + 24 ≤ 20000) (σ σ1 : mmS) (k : Int32) (hw : Ev N L xs (92, 0, lv_args 0 [.ref 0, .long ((((xs (p + 1)).toInt64) <<< ((32 : Int32).toInt64 &&& 63)) ||| (((xs (p + 2)).toInt64) &&& (4294967295 : Int64))), .ref 65], [], 0, σ) (mmSI (k, σ1))) (r : mmR) (hk : Ev N L xs (132, 756, [(0, .ref 1000), (1, .ref 0), (2, .ref 42), (3, .ref 65), (4, .int (Int32.ofNat p))], [], e + 2, (sp_m_decode ((((xs (p + 1)).toInt64) <<< ((32 : Int32).toInt64 &&& 63)) ||| (((xs (p + 2)).toInt64) &&& (4294967295 : Int64))) σ1).2) r) : Ev N L xs (132, 696, [(0, .ref 1000), (1, .ref 0), (2, .ref 42), (3, .ref 65), (4, .int (Int32.ofNat p))], [], e, σ) (r) := by
  refine ev_aload_n d_132_696 rfl ?_
  refine ev_aload_n d_132_697 rfl ?_
  refine ev_iload d_132_698 rfl ?_
  refine ev_iconst d_132_700 ci_1 ?_
  refine ev_iadd (v := (Int32.ofNat (p + 1))) d_132_701 (li_add p 1) ?_
  refine ev_sald (i := (p + 1)) d_132_702 (li_in hp hL (by decide)) (li_nat hp hL (by decide)) ?_
  refine ev_i2l (v := (xs (p + 1)).toInt64) d_132_703 rfl ?_
  refine ev_bipush d_132_704 cb_32 ?_
  refine ev_lshl (v := (((xs (p + 1)).toInt64) <<< ((32 : Int32).toInt64 &&& 63))) d_132_706 rfl ?_
  refine ev_aload_n d_132_707 rfl ?_
  refine ev_iload d_132_708 rfl ?_
  refine ev_iconst d_132_710 ci_2 ?_
  refine ev_iadd (v := (Int32.ofNat (p + 2))) d_132_711 (li_add p 2) ?_
  refine ev_sald (i := (p + 2)) d_132_712 (li_in hp hL (by decide)) (li_nat hp hL (by decide)) ?_
  refine ev_i2l (v := (xs (p + 2)).toInt64) d_132_713 rfl ?_
  refine ev_ldc2 d_132_714 kl_9_101 ?_
  refine ev_land (v := (((xs (p + 2)).toInt64) &&& (4294967295 : Int64))) d_132_717 rfl ?_
  refine ev_lor (v := ((((xs (p + 1)).toInt64) <<< ((32 : Int32).toInt64 &&& 63)) ||| (((xs (p + 2)).toInt64) &&& (4294967295 : Int64)))) d_132_718 rfl ?_
  refine ev_aload_n d_132_719 rfl ?_
  refine ev_csI (As := [.ref 0, .long ((((xs (p + 1)).toInt64) <<< ((32 : Int32).toInt64 &&& 63)) ||| (((xs (p + 2)).toInt64) &&& (4294967295 : Int64))), .ref 65]) (t := []) (e' := (e + 2)) d_132_720 ml_9_136 rfl rfl rfl rfl rfl (le_e rfl rfl (by omega)) rfl rfl hw ?_
  refine ev_istore (lv' := [(5, .int k), (0, .ref 1000), (1, .ref 0), (2, .ref 42), (3, .ref 65), (4, .int (Int32.ofNat p))]) d_132_723 (by decide) rfl ?_
  refine ev_aload_n d_132_725 rfl ?_
  refine ev_aload_n d_132_726 rfl ?_
  refine ev_iload d_132_727 rfl ?_
  refine ev_iconst d_132_729 ci_1 ?_
  refine ev_iadd (v := (Int32.ofNat (p + 1))) d_132_730 (li_add p 1) ?_
  refine ev_sald (i := (p + 1)) d_132_731 (li_in hp hL (by decide)) (li_nat hp hL (by decide)) ?_
  refine ev_i2l (v := (xs (p + 1)).toInt64) d_132_732 rfl ?_
  refine ev_bipush d_132_733 cb_32 ?_
  refine ev_lshl (v := (((xs (p + 1)).toInt64) <<< ((32 : Int32).toInt64 &&& 63))) d_132_735 rfl ?_
  refine ev_aload_n d_132_736 rfl ?_
  refine ev_iload d_132_737 rfl ?_
  refine ev_iconst d_132_739 ci_2 ?_
  refine ev_iadd (v := (Int32.ofNat (p + 2))) d_132_740 (li_add p 2) ?_
  refine ev_sald (i := (p + 2)) d_132_741 (li_in hp hL (by decide)) (li_nat hp hL (by decide)) ?_
  refine ev_i2l (v := (xs (p + 2)).toInt64) d_132_742 rfl ?_
  refine ev_ldc2 d_132_743 kl_9_101 ?_
  refine ev_land (v := (((xs (p + 2)).toInt64) &&& (4294967295 : Int64))) d_132_746 rfl ?_
  refine ev_lor (v := ((((xs (p + 1)).toInt64) <<< ((32 : Int32).toInt64 &&& 63)) ||| (((xs (p + 2)).toInt64) &&& (4294967295 : Int64)))) d_132_747 rfl ?_
  refine ev_cvI (As := [.long ((((xs (p + 1)).toInt64) <<< ((32 : Int32).toInt64 &&& 63)) ||| (((xs (p + 2)).toInt64) &&& (4294967295 : Int64)))]) (t := []) (e' := (e + 2)) d_132_748 ml_9_139 rfl rfl rfl rfl rfl (le_e rfl rfl (by omega)) rfl (ltk6 (by decide) hN) rfl rfl rfl (ev_m_decode (Nat.le_of_succ_le hN) ((((xs (p + 1)).toInt64) <<< ((32 : Int32).toInt64 &&& 63)) ||| (((xs (p + 2)).toInt64) &&& (4294967295 : Int64))) σ1) ?_
  refine ev_istore (lv' := [(6, .int ((sp_m_decode ((((xs (p + 1)).toInt64) <<< ((32 : Int32).toInt64 &&& 63)) ||| (((xs (p + 2)).toInt64) &&& (4294967295 : Int64))) σ1).1)), (5, .int k), (0, .ref 1000), (1, .ref 0), (2, .ref 42), (3, .ref 65), (4, .int (Int32.ofNat p))]) d_132_751 (by decide) rfl ?_
  refine ev_goto (tgt := 756) d_132_753 rfl ?_
  refine ev_sub (lv' := [(0, .ref 1000), (1, .ref 0), (2, .ref 42), (3, .ref 65), (4, .int (Int32.ofNat p))]) (by simp) ?_
  exact hk
theorem law_end (p e : Nat) (hp : p < 3080) (hL : L ≤ 3073) (hq : L < p + 6) (σ : mmS) : Ev N L xs (132, 33, [(0, .ref 1000), (1, .ref 0), (2, .ref 42), (3, .ref 65), (4, .int (Int32.ofNat p))], [], e, σ) (mmPI σ 1) := by
  refine ev_iload d_132_33 rfl ?_
  refine ev_aload_n d_132_35 rfl ?_
  refine ev_slen d_132_36 ?_
  refine ev_bipush d_132_37 cb_6 ?_
  refine ev_isub (v := ((Int32.ofNat L) - (6 : Int32))) d_132_39 rfl ?_
  refine ev_icmpT (tgt := 762) d_132_40 rfl ((li_hd hp hL).mpr hq) ?_
  refine ev_iconst d_132_762 ci_1 ?_
  exact ev_zret d_132_763 rfl (Or.inr rfl)
theorem law_to0 (p e : Nat) (hp : p + 6 ≤ L) (hL : L ≤ 3073) (σ : mmS) (r : mmR) (h : ((xs p) &&& (15 : Int32)) = 0) (hk : Ev N L xs (132, 124, [(0, .ref 1000), (1, .ref 0), (2, .ref 42), (3, .ref 65), (4, .int (Int32.ofNat p))], [], e, σ) r) : Ev N L xs (132, 33, [(0, .ref 1000), (1, .ref 0), (2, .ref 42), (3, .ref 65), (4, .int (Int32.ofNat p))], [], e, σ) (r) := by
  refine ev_iload d_132_33 rfl ?_
  refine ev_aload_n d_132_35 rfl ?_
  refine ev_slen d_132_36 ?_
  refine ev_bipush d_132_37 cb_6 ?_
  refine ev_isub (v := ((Int32.ofNat L) - (6 : Int32))) d_132_39 rfl ?_
  refine ev_icmpF (tgt := 762) d_132_40 rfl (fun z => absurd ((li_hd (by omega) hL).mp z) (by omega)) ?_
  refine ev_aload_n d_132_43 rfl ?_
  refine ev_iload d_132_44 rfl ?_
  refine ev_sald (i := p) d_132_46 (li_in (c := 0) hp hL (by decide)) (li_nat (c := 0) hp hL (by decide)) ?_
  refine ev_bipush d_132_47 cb_15 ?_
  refine ev_iand (v := ((xs p) &&& (15 : Int32))) d_132_49 rfl ?_
  refine ev_tabIn (off := 74) (tgt := 124) d_132_50 (by rw [h]; decide) (by rw [h]; decide) (by rw [h]; decide) rfl ?_
  exact hk
theorem law_to1 (p e : Nat) (hp : p + 6 ≤ L) (hL : L ≤ 3073) (σ : mmS) (r : mmR) (h : ((xs p) &&& (15 : Int32)) = 1) (hk : Ev N L xs (132, 149, [(0, .ref 1000), (1, .ref 0), (2, .ref 42), (3, .ref 65), (4, .int (Int32.ofNat p))], [], e, σ) r) : Ev N L xs (132, 33, [(0, .ref 1000), (1, .ref 0), (2, .ref 42), (3, .ref 65), (4, .int (Int32.ofNat p))], [], e, σ) (r) := by
  refine ev_iload d_132_33 rfl ?_
  refine ev_aload_n d_132_35 rfl ?_
  refine ev_slen d_132_36 ?_
  refine ev_bipush d_132_37 cb_6 ?_
  refine ev_isub (v := ((Int32.ofNat L) - (6 : Int32))) d_132_39 rfl ?_
  refine ev_icmpF (tgt := 762) d_132_40 rfl (fun z => absurd ((li_hd (by omega) hL).mp z) (by omega)) ?_
  refine ev_aload_n d_132_43 rfl ?_
  refine ev_iload d_132_44 rfl ?_
  refine ev_sald (i := p) d_132_46 (li_in (c := 0) hp hL (by decide)) (li_nat (c := 0) hp hL (by decide)) ?_
  refine ev_bipush d_132_47 cb_15 ?_
  refine ev_iand (v := ((xs p) &&& (15 : Int32))) d_132_49 rfl ?_
  refine ev_tabIn (off := 99) (tgt := 149) d_132_50 (by rw [h]; decide) (by rw [h]; decide) (by rw [h]; decide) rfl ?_
  exact hk
theorem law_to2 (p e : Nat) (hp : p + 6 ≤ L) (hL : L ≤ 3073) (σ : mmS) (r : mmR) (h : ((xs p) &&& (15 : Int32)) = 2) (hk : Ev N L xs (132, 177, [(0, .ref 1000), (1, .ref 0), (2, .ref 42), (3, .ref 65), (4, .int (Int32.ofNat p))], [], e, σ) r) : Ev N L xs (132, 33, [(0, .ref 1000), (1, .ref 0), (2, .ref 42), (3, .ref 65), (4, .int (Int32.ofNat p))], [], e, σ) (r) := by
  refine ev_iload d_132_33 rfl ?_
  refine ev_aload_n d_132_35 rfl ?_
  refine ev_slen d_132_36 ?_
  refine ev_bipush d_132_37 cb_6 ?_
  refine ev_isub (v := ((Int32.ofNat L) - (6 : Int32))) d_132_39 rfl ?_
  refine ev_icmpF (tgt := 762) d_132_40 rfl (fun z => absurd ((li_hd (by omega) hL).mp z) (by omega)) ?_
  refine ev_aload_n d_132_43 rfl ?_
  refine ev_iload d_132_44 rfl ?_
  refine ev_sald (i := p) d_132_46 (li_in (c := 0) hp hL (by decide)) (li_nat (c := 0) hp hL (by decide)) ?_
  refine ev_bipush d_132_47 cb_15 ?_
  refine ev_iand (v := ((xs p) &&& (15 : Int32))) d_132_49 rfl ?_
  refine ev_tabIn (off := 127) (tgt := 177) d_132_50 (by rw [h]; decide) (by rw [h]; decide) (by rw [h]; decide) rfl ?_
  exact hk
theorem law_to3 (p e : Nat) (hp : p + 6 ≤ L) (hL : L ≤ 3073) (σ : mmS) (r : mmR) (h : ((xs p) &&& (15 : Int32)) = 3) (hk : Ev N L xs (132, 205, [(0, .ref 1000), (1, .ref 0), (2, .ref 42), (3, .ref 65), (4, .int (Int32.ofNat p))], [], e, σ) r) : Ev N L xs (132, 33, [(0, .ref 1000), (1, .ref 0), (2, .ref 42), (3, .ref 65), (4, .int (Int32.ofNat p))], [], e, σ) (r) := by
  refine ev_iload d_132_33 rfl ?_
  refine ev_aload_n d_132_35 rfl ?_
  refine ev_slen d_132_36 ?_
  refine ev_bipush d_132_37 cb_6 ?_
  refine ev_isub (v := ((Int32.ofNat L) - (6 : Int32))) d_132_39 rfl ?_
  refine ev_icmpF (tgt := 762) d_132_40 rfl (fun z => absurd ((li_hd (by omega) hL).mp z) (by omega)) ?_
  refine ev_aload_n d_132_43 rfl ?_
  refine ev_iload d_132_44 rfl ?_
  refine ev_sald (i := p) d_132_46 (li_in (c := 0) hp hL (by decide)) (li_nat (c := 0) hp hL (by decide)) ?_
  refine ev_bipush d_132_47 cb_15 ?_
  refine ev_iand (v := ((xs p) &&& (15 : Int32))) d_132_49 rfl ?_
  refine ev_tabIn (off := 155) (tgt := 205) d_132_50 (by rw [h]; decide) (by rw [h]; decide) (by rw [h]; decide) rfl ?_
  exact hk
theorem law_to4 (p e : Nat) (hp : p + 6 ≤ L) (hL : L ≤ 3073) (σ : mmS) (r : mmR) (h : ((xs p) &&& (15 : Int32)) = 4) (hk : Ev N L xs (132, 242, [(0, .ref 1000), (1, .ref 0), (2, .ref 42), (3, .ref 65), (4, .int (Int32.ofNat p))], [], e, σ) r) : Ev N L xs (132, 33, [(0, .ref 1000), (1, .ref 0), (2, .ref 42), (3, .ref 65), (4, .int (Int32.ofNat p))], [], e, σ) (r) := by
  refine ev_iload d_132_33 rfl ?_
  refine ev_aload_n d_132_35 rfl ?_
  refine ev_slen d_132_36 ?_
  refine ev_bipush d_132_37 cb_6 ?_
  refine ev_isub (v := ((Int32.ofNat L) - (6 : Int32))) d_132_39 rfl ?_
  refine ev_icmpF (tgt := 762) d_132_40 rfl (fun z => absurd ((li_hd (by omega) hL).mp z) (by omega)) ?_
  refine ev_aload_n d_132_43 rfl ?_
  refine ev_iload d_132_44 rfl ?_
  refine ev_sald (i := p) d_132_46 (li_in (c := 0) hp hL (by decide)) (li_nat (c := 0) hp hL (by decide)) ?_
  refine ev_bipush d_132_47 cb_15 ?_
  refine ev_iand (v := ((xs p) &&& (15 : Int32))) d_132_49 rfl ?_
  refine ev_tabIn (off := 192) (tgt := 242) d_132_50 (by rw [h]; decide) (by rw [h]; decide) (by rw [h]; decide) rfl ?_
  exact hk
theorem law_to5 (p e : Nat) (hp : p + 6 ≤ L) (hL : L ≤ 3073) (σ : mmS) (r : mmR) (h : ((xs p) &&& (15 : Int32)) = 5) (hk : Ev N L xs (132, 326, [(0, .ref 1000), (1, .ref 0), (2, .ref 42), (3, .ref 65), (4, .int (Int32.ofNat p))], [], e, σ) r) : Ev N L xs (132, 33, [(0, .ref 1000), (1, .ref 0), (2, .ref 42), (3, .ref 65), (4, .int (Int32.ofNat p))], [], e, σ) (r) := by
  refine ev_iload d_132_33 rfl ?_
  refine ev_aload_n d_132_35 rfl ?_
  refine ev_slen d_132_36 ?_
  refine ev_bipush d_132_37 cb_6 ?_
  refine ev_isub (v := ((Int32.ofNat L) - (6 : Int32))) d_132_39 rfl ?_
  refine ev_icmpF (tgt := 762) d_132_40 rfl (fun z => absurd ((li_hd (by omega) hL).mp z) (by omega)) ?_
  refine ev_aload_n d_132_43 rfl ?_
  refine ev_iload d_132_44 rfl ?_
  refine ev_sald (i := p) d_132_46 (li_in (c := 0) hp hL (by decide)) (li_nat (c := 0) hp hL (by decide)) ?_
  refine ev_bipush d_132_47 cb_15 ?_
  refine ev_iand (v := ((xs p) &&& (15 : Int32))) d_132_49 rfl ?_
  refine ev_tabIn (off := 276) (tgt := 326) d_132_50 (by rw [h]; decide) (by rw [h]; decide) (by rw [h]; decide) rfl ?_
  exact hk
theorem law_to6 (p e : Nat) (hp : p + 6 ≤ L) (hL : L ≤ 3073) (σ : mmS) (r : mmR) (h : ((xs p) &&& (15 : Int32)) = 6) (hk : Ev N L xs (132, 383, [(0, .ref 1000), (1, .ref 0), (2, .ref 42), (3, .ref 65), (4, .int (Int32.ofNat p))], [], e, σ) r) : Ev N L xs (132, 33, [(0, .ref 1000), (1, .ref 0), (2, .ref 42), (3, .ref 65), (4, .int (Int32.ofNat p))], [], e, σ) (r) := by
  refine ev_iload d_132_33 rfl ?_
  refine ev_aload_n d_132_35 rfl ?_
  refine ev_slen d_132_36 ?_
  refine ev_bipush d_132_37 cb_6 ?_
  refine ev_isub (v := ((Int32.ofNat L) - (6 : Int32))) d_132_39 rfl ?_
  refine ev_icmpF (tgt := 762) d_132_40 rfl (fun z => absurd ((li_hd (by omega) hL).mp z) (by omega)) ?_
  refine ev_aload_n d_132_43 rfl ?_
  refine ev_iload d_132_44 rfl ?_
  refine ev_sald (i := p) d_132_46 (li_in (c := 0) hp hL (by decide)) (li_nat (c := 0) hp hL (by decide)) ?_
  refine ev_bipush d_132_47 cb_15 ?_
  refine ev_iand (v := ((xs p) &&& (15 : Int32))) d_132_49 rfl ?_
  refine ev_tabIn (off := 333) (tgt := 383) d_132_50 (by rw [h]; decide) (by rw [h]; decide) (by rw [h]; decide) rfl ?_
  exact hk
theorem law_to7 (p e : Nat) (hp : p + 6 ≤ L) (hL : L ≤ 3073) (σ : mmS) (r : mmR) (h : ((xs p) &&& (15 : Int32)) = 7) (hk : Ev N L xs (132, 411, [(0, .ref 1000), (1, .ref 0), (2, .ref 42), (3, .ref 65), (4, .int (Int32.ofNat p))], [], e, σ) r) : Ev N L xs (132, 33, [(0, .ref 1000), (1, .ref 0), (2, .ref 42), (3, .ref 65), (4, .int (Int32.ofNat p))], [], e, σ) (r) := by
  refine ev_iload d_132_33 rfl ?_
  refine ev_aload_n d_132_35 rfl ?_
  refine ev_slen d_132_36 ?_
  refine ev_bipush d_132_37 cb_6 ?_
  refine ev_isub (v := ((Int32.ofNat L) - (6 : Int32))) d_132_39 rfl ?_
  refine ev_icmpF (tgt := 762) d_132_40 rfl (fun z => absurd ((li_hd (by omega) hL).mp z) (by omega)) ?_
  refine ev_aload_n d_132_43 rfl ?_
  refine ev_iload d_132_44 rfl ?_
  refine ev_sald (i := p) d_132_46 (li_in (c := 0) hp hL (by decide)) (li_nat (c := 0) hp hL (by decide)) ?_
  refine ev_bipush d_132_47 cb_15 ?_
  refine ev_iand (v := ((xs p) &&& (15 : Int32))) d_132_49 rfl ?_
  refine ev_tabIn (off := 361) (tgt := 411) d_132_50 (by rw [h]; decide) (by rw [h]; decide) (by rw [h]; decide) rfl ?_
  exact hk
theorem law_to8 (p e : Nat) (hp : p + 6 ≤ L) (hL : L ≤ 3073) (σ : mmS) (r : mmR) (h : ((xs p) &&& (15 : Int32)) = 8) (hk : Ev N L xs (132, 439, [(0, .ref 1000), (1, .ref 0), (2, .ref 42), (3, .ref 65), (4, .int (Int32.ofNat p))], [], e, σ) r) : Ev N L xs (132, 33, [(0, .ref 1000), (1, .ref 0), (2, .ref 42), (3, .ref 65), (4, .int (Int32.ofNat p))], [], e, σ) (r) := by
  refine ev_iload d_132_33 rfl ?_
  refine ev_aload_n d_132_35 rfl ?_
  refine ev_slen d_132_36 ?_
  refine ev_bipush d_132_37 cb_6 ?_
  refine ev_isub (v := ((Int32.ofNat L) - (6 : Int32))) d_132_39 rfl ?_
  refine ev_icmpF (tgt := 762) d_132_40 rfl (fun z => absurd ((li_hd (by omega) hL).mp z) (by omega)) ?_
  refine ev_aload_n d_132_43 rfl ?_
  refine ev_iload d_132_44 rfl ?_
  refine ev_sald (i := p) d_132_46 (li_in (c := 0) hp hL (by decide)) (li_nat (c := 0) hp hL (by decide)) ?_
  refine ev_bipush d_132_47 cb_15 ?_
  refine ev_iand (v := ((xs p) &&& (15 : Int32))) d_132_49 rfl ?_
  refine ev_tabIn (off := 389) (tgt := 439) d_132_50 (by rw [h]; decide) (by rw [h]; decide) (by rw [h]; decide) rfl ?_
  exact hk
theorem law_to9 (p e : Nat) (hp : p + 6 ≤ L) (hL : L ≤ 3073) (σ : mmS) (r : mmR) (h : ((xs p) &&& (15 : Int32)) = 9) (hk : Ev N L xs (132, 479, [(0, .ref 1000), (1, .ref 0), (2, .ref 42), (3, .ref 65), (4, .int (Int32.ofNat p))], [], e, σ) r) : Ev N L xs (132, 33, [(0, .ref 1000), (1, .ref 0), (2, .ref 42), (3, .ref 65), (4, .int (Int32.ofNat p))], [], e, σ) (r) := by
  refine ev_iload d_132_33 rfl ?_
  refine ev_aload_n d_132_35 rfl ?_
  refine ev_slen d_132_36 ?_
  refine ev_bipush d_132_37 cb_6 ?_
  refine ev_isub (v := ((Int32.ofNat L) - (6 : Int32))) d_132_39 rfl ?_
  refine ev_icmpF (tgt := 762) d_132_40 rfl (fun z => absurd ((li_hd (by omega) hL).mp z) (by omega)) ?_
  refine ev_aload_n d_132_43 rfl ?_
  refine ev_iload d_132_44 rfl ?_
  refine ev_sald (i := p) d_132_46 (li_in (c := 0) hp hL (by decide)) (li_nat (c := 0) hp hL (by decide)) ?_
  refine ev_bipush d_132_47 cb_15 ?_
  refine ev_iand (v := ((xs p) &&& (15 : Int32))) d_132_49 rfl ?_
  refine ev_tabIn (off := 429) (tgt := 479) d_132_50 (by rw [h]; decide) (by rw [h]; decide) (by rw [h]; decide) rfl ?_
  exact hk
theorem law_to10 (p e : Nat) (hp : p + 6 ≤ L) (hL : L ≤ 3073) (σ : mmS) (r : mmR) (h : ((xs p) &&& (15 : Int32)) = 10) (hk : Ev N L xs (132, 547, [(0, .ref 1000), (1, .ref 0), (2, .ref 42), (3, .ref 65), (4, .int (Int32.ofNat p))], [], e, σ) r) : Ev N L xs (132, 33, [(0, .ref 1000), (1, .ref 0), (2, .ref 42), (3, .ref 65), (4, .int (Int32.ofNat p))], [], e, σ) (r) := by
  refine ev_iload d_132_33 rfl ?_
  refine ev_aload_n d_132_35 rfl ?_
  refine ev_slen d_132_36 ?_
  refine ev_bipush d_132_37 cb_6 ?_
  refine ev_isub (v := ((Int32.ofNat L) - (6 : Int32))) d_132_39 rfl ?_
  refine ev_icmpF (tgt := 762) d_132_40 rfl (fun z => absurd ((li_hd (by omega) hL).mp z) (by omega)) ?_
  refine ev_aload_n d_132_43 rfl ?_
  refine ev_iload d_132_44 rfl ?_
  refine ev_sald (i := p) d_132_46 (li_in (c := 0) hp hL (by decide)) (li_nat (c := 0) hp hL (by decide)) ?_
  refine ev_bipush d_132_47 cb_15 ?_
  refine ev_iand (v := ((xs p) &&& (15 : Int32))) d_132_49 rfl ?_
  refine ev_tabIn (off := 497) (tgt := 547) d_132_50 (by rw [h]; decide) (by rw [h]; decide) (by rw [h]; decide) rfl ?_
  exact hk
theorem law_to11 (p e : Nat) (hp : p + 6 ≤ L) (hL : L ≤ 3073) (σ : mmS) (r : mmR) (h : ((xs p) &&& (15 : Int32)) = 11) (hk : Ev N L xs (132, 587, [(0, .ref 1000), (1, .ref 0), (2, .ref 42), (3, .ref 65), (4, .int (Int32.ofNat p))], [], e, σ) r) : Ev N L xs (132, 33, [(0, .ref 1000), (1, .ref 0), (2, .ref 42), (3, .ref 65), (4, .int (Int32.ofNat p))], [], e, σ) (r) := by
  refine ev_iload d_132_33 rfl ?_
  refine ev_aload_n d_132_35 rfl ?_
  refine ev_slen d_132_36 ?_
  refine ev_bipush d_132_37 cb_6 ?_
  refine ev_isub (v := ((Int32.ofNat L) - (6 : Int32))) d_132_39 rfl ?_
  refine ev_icmpF (tgt := 762) d_132_40 rfl (fun z => absurd ((li_hd (by omega) hL).mp z) (by omega)) ?_
  refine ev_aload_n d_132_43 rfl ?_
  refine ev_iload d_132_44 rfl ?_
  refine ev_sald (i := p) d_132_46 (li_in (c := 0) hp hL (by decide)) (li_nat (c := 0) hp hL (by decide)) ?_
  refine ev_bipush d_132_47 cb_15 ?_
  refine ev_iand (v := ((xs p) &&& (15 : Int32))) d_132_49 rfl ?_
  refine ev_tabIn (off := 537) (tgt := 587) d_132_50 (by rw [h]; decide) (by rw [h]; decide) (by rw [h]; decide) rfl ?_
  exact hk
theorem law_to12 (p e : Nat) (hp : p + 6 ≤ L) (hL : L ≤ 3073) (σ : mmS) (r : mmR) (h : ((xs p) &&& (15 : Int32)) = 12) (hk : Ev N L xs (132, 600, [(0, .ref 1000), (1, .ref 0), (2, .ref 42), (3, .ref 65), (4, .int (Int32.ofNat p))], [], e, σ) r) : Ev N L xs (132, 33, [(0, .ref 1000), (1, .ref 0), (2, .ref 42), (3, .ref 65), (4, .int (Int32.ofNat p))], [], e, σ) (r) := by
  refine ev_iload d_132_33 rfl ?_
  refine ev_aload_n d_132_35 rfl ?_
  refine ev_slen d_132_36 ?_
  refine ev_bipush d_132_37 cb_6 ?_
  refine ev_isub (v := ((Int32.ofNat L) - (6 : Int32))) d_132_39 rfl ?_
  refine ev_icmpF (tgt := 762) d_132_40 rfl (fun z => absurd ((li_hd (by omega) hL).mp z) (by omega)) ?_
  refine ev_aload_n d_132_43 rfl ?_
  refine ev_iload d_132_44 rfl ?_
  refine ev_sald (i := p) d_132_46 (li_in (c := 0) hp hL (by decide)) (li_nat (c := 0) hp hL (by decide)) ?_
  refine ev_bipush d_132_47 cb_15 ?_
  refine ev_iand (v := ((xs p) &&& (15 : Int32))) d_132_49 rfl ?_
  refine ev_tabIn (off := 550) (tgt := 600) d_132_50 (by rw [h]; decide) (by rw [h]; decide) (by rw [h]; decide) rfl ?_
  exact hk
theorem law_to13 (p e : Nat) (hp : p + 6 ≤ L) (hL : L ≤ 3073) (σ : mmS) (r : mmR) (h : ((xs p) &&& (15 : Int32)) = 13) (hk : Ev N L xs (132, 616, [(0, .ref 1000), (1, .ref 0), (2, .ref 42), (3, .ref 65), (4, .int (Int32.ofNat p))], [], e, σ) r) : Ev N L xs (132, 33, [(0, .ref 1000), (1, .ref 0), (2, .ref 42), (3, .ref 65), (4, .int (Int32.ofNat p))], [], e, σ) (r) := by
  refine ev_iload d_132_33 rfl ?_
  refine ev_aload_n d_132_35 rfl ?_
  refine ev_slen d_132_36 ?_
  refine ev_bipush d_132_37 cb_6 ?_
  refine ev_isub (v := ((Int32.ofNat L) - (6 : Int32))) d_132_39 rfl ?_
  refine ev_icmpF (tgt := 762) d_132_40 rfl (fun z => absurd ((li_hd (by omega) hL).mp z) (by omega)) ?_
  refine ev_aload_n d_132_43 rfl ?_
  refine ev_iload d_132_44 rfl ?_
  refine ev_sald (i := p) d_132_46 (li_in (c := 0) hp hL (by decide)) (li_nat (c := 0) hp hL (by decide)) ?_
  refine ev_bipush d_132_47 cb_15 ?_
  refine ev_iand (v := ((xs p) &&& (15 : Int32))) d_132_49 rfl ?_
  refine ev_tabIn (off := 566) (tgt := 616) d_132_50 (by rw [h]; decide) (by rw [h]; decide) (by rw [h]; decide) rfl ?_
  exact hk
theorem law_to14 (p e : Nat) (hp : p + 6 ≤ L) (hL : L ≤ 3073) (σ : mmS) (r : mmR) (h : ((xs p) &&& (15 : Int32)) = 14) (hk : Ev N L xs (132, 696, [(0, .ref 1000), (1, .ref 0), (2, .ref 42), (3, .ref 65), (4, .int (Int32.ofNat p))], [], e, σ) r) : Ev N L xs (132, 33, [(0, .ref 1000), (1, .ref 0), (2, .ref 42), (3, .ref 65), (4, .int (Int32.ofNat p))], [], e, σ) (r) := by
  refine ev_iload d_132_33 rfl ?_
  refine ev_aload_n d_132_35 rfl ?_
  refine ev_slen d_132_36 ?_
  refine ev_bipush d_132_37 cb_6 ?_
  refine ev_isub (v := ((Int32.ofNat L) - (6 : Int32))) d_132_39 rfl ?_
  refine ev_icmpF (tgt := 762) d_132_40 rfl (fun z => absurd ((li_hd (by omega) hL).mp z) (by omega)) ?_
  refine ev_aload_n d_132_43 rfl ?_
  refine ev_iload d_132_44 rfl ?_
  refine ev_sald (i := p) d_132_46 (li_in (c := 0) hp hL (by decide)) (li_nat (c := 0) hp hL (by decide)) ?_
  refine ev_bipush d_132_47 cb_15 ?_
  refine ev_iand (v := ((xs p) &&& (15 : Int32))) d_132_49 rfl ?_
  refine ev_tabIn (off := 646) (tgt := 696) d_132_50 (by rw [h]; decide) (by rw [h]; decide) (by rw [h]; decide) rfl ?_
  exact hk
theorem law_to15 (p e : Nat) (hp : p + 6 ≤ L) (hL : L ≤ 3073) (σ : mmS) (r : mmR) (h : ((xs p) &&& (15 : Int32)).toInt < 0 ∨ 14 < ((xs p) &&& (15 : Int32)).toInt) (hk : Ev N L xs (132, 756, [(0, .ref 1000), (1, .ref 0), (2, .ref 42), (3, .ref 65), (4, .int (Int32.ofNat p))], [], e, σ) r) : Ev N L xs (132, 33, [(0, .ref 1000), (1, .ref 0), (2, .ref 42), (3, .ref 65), (4, .int (Int32.ofNat p))], [], e, σ) (r) := by
  refine ev_iload d_132_33 rfl ?_
  refine ev_aload_n d_132_35 rfl ?_
  refine ev_slen d_132_36 ?_
  refine ev_bipush d_132_37 cb_6 ?_
  refine ev_isub (v := ((Int32.ofNat L) - (6 : Int32))) d_132_39 rfl ?_
  refine ev_icmpF (tgt := 762) d_132_40 rfl (fun z => absurd ((li_hd (by omega) hL).mp z) (by omega)) ?_
  refine ev_aload_n d_132_43 rfl ?_
  refine ev_iload d_132_44 rfl ?_
  refine ev_sald (i := p) d_132_46 (li_in (c := 0) hp hL (by decide)) (li_nat (c := 0) hp hL (by decide)) ?_
  refine ev_bipush d_132_47 cb_15 ?_
  refine ev_iand (v := ((xs p) &&& (15 : Int32))) d_132_49 rfl ?_
  refine ev_tabOut (tgt := 756) d_132_50 h rfl ?_
  exact hk
theorem law_next (p e : Nat) (σ : mmS) (r : mmR) (hk : Ev N L xs (132, 33, [(0, .ref 1000), (1, .ref 0), (2, .ref 42), (3, .ref 65), (4, .int (Int32.ofNat (p + 6)))], [], e, σ) r) : Ev N L xs (132, 756, [(0, .ref 1000), (1, .ref 0), (2, .ref 42), (3, .ref 65), (4, .int (Int32.ofNat p))], [], e, σ) (r) := by
  refine ev_iinc (lv' := [(4, .int (Int32.ofNat (p + 6))), (0, .ref 1000), (1, .ref 0), (2, .ref 42), (3, .ref 65)]) (v := (Int32.ofNat (p + 6))) d_132_756 rfl (li_add p 6).symm (by decide) rfl ?_
  refine ev_goto (tgt := 33) d_132_759 rfl ?_
  refine ev_sub (lv' := [(0, .ref 1000), (1, .ref 0), (2, .ref 42), (3, .ref 65), (4, .int (Int32.ofNat (p + 6)))]) (by simp) ?_
  exact hk
theorem law_in (σ : mmS) (r : mmR) (hk : Ev N L xs (132, 33, [(0, .ref 1000), (1, .ref 0), (2, .ref 42), (3, .ref 65), (4, .int (Int32.ofNat 1))], [], 0, σ) r) : Ev N L xs (132, 30, [(0, .ref 1000), (1, .ref 0), (2, .ref 42), (3, .ref 65)], [], 0, σ) (r) := by
  refine ev_iconst d_132_30 ci_1 ?_
  refine ev_istore (lv' := [(4, .int (1 : Int32)), (0, .ref 1000), (1, .ref 0), (2, .ref 42), (3, .ref 65)]) d_132_31 (by decide) rfl ?_
  refine ev_sub (lv' := [(0, .ref 1000), (1, .ref 0), (2, .ref 42), (3, .ref 65), (4, .int (1 : Int32))]) (by simp) ?_
  exact hk
end SP
