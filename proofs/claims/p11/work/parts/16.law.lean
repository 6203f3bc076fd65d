section SP
variable {N L : Nat} {xs : Nat → Int32}
theorem li_add (p c : Nat) : Int32.ofNat (p + c) = Int32.ofNat p + Int32.ofNat c := Int32.ofNat_add p c
theorem li_cl {q : Nat} (h : q < 4000) : q = (Int32.ofNat q).toNatClampNeg ∧ ¬ Int32.ofNat q < 0 := by
  have h1 : (Int32.ofNat q).toInt = q := Int32.toInt_ofNat_of_lt (by omega)
  refine ⟨?_, ?_⟩
  · show q = (Int32.ofNat q).toInt.toNat
    omega
  · rw [Int32.lt_iff_toInt_lt, h1]
    have e0 : (0 : Int32).toInt = 0 := by decide
    omega
theorem li_in {p c L : Nat} (hp : p + 6 ≤ L) (hL : L ≤ 3073) (hc : c < 6) : vp_in (Int32.ofNat (p + c)) L := by
  obtain ⟨h1, h2⟩ := li_cl (q := p + c) (by omega)
  unfold vp_in
  rintro (h | h)
  · exact h2 h
  · rw [← h1] at h; omega
theorem li_nat {p c L : Nat} (hp : p + 6 ≤ L) (hL : L ≤ 3073) (hc : c < 6) : p + c = (Int32.ofNat (p + c)).toNatClampNeg := (li_cl (by omega)).1
theorem li_hd {p L : Nat} (hp : p < 3080) (hL : L ≤ 3073) : Int32.ofNat L - 6 < Int32.ofNat p ↔ L < p + 6 := by
  have h1 : (Int32.ofNat p).toInt = p := Int32.toInt_ofNat_of_lt (by omega)
  have h2 : Int32.ofNat L - 6 = Int32.ofInt ((L : Int) - 6) := by
    rw [Int32.ofInt_sub]; rfl
  rw [Int32.lt_iff_toInt_lt, h1, h2, Int32.toInt_ofInt_of_le (by omega) (by omega)]
  omega
theorem le_e {e z y : Nat} (hz : Nat.ble (mE z) 10 = true) (hy : mE y = 20000) (he : e + 10 ≤ 20000) : e + mE z ≤ mE y := by
  have h := Nat.le_of_ble_eq_true hz
  rw [hy]
  omega
theorem law_0 (hN : 66 ≤ N) (p e : Nat) (hp : p + 6 ≤ L) (hL : L ≤ 3073) (he : e + 24 ≤ 20000) (σ σ1 : mmS) (k : Int32) (hw : Ev N L xs (3, 0, lv_args 0 [.ref 0, .int (xs (p + 1))], [], 0, σ) (mmSI (k, σ1))) (r : mmR) (hk : Ev N L xs (132, 773, [(0, .ref 1000), (1, .ref 0), (2, .ref 42), (3, .ref 65), (4, .int (Int32.ofNat p))], [], e + 2, (sp_m_power (xs (p + 1)) σ1)) r) : Ev N L xs (132, 124, [(0, .ref 1000), (1, .ref 0), (2, .ref 42), (3, .ref 65), (4, .int (Int32.ofNat p))], [], e, σ) (r) := by
  refine ev_aload_n d_132_124 rfl ?_
  refine ev_aload_n d_132_125 rfl ?_
  refine ev_iload d_132_126 rfl ?_
  refine ev_iconst d_132_128 ci_1 ?_
  refine ev_iadd (v := (Int32.ofNat (p + 1))) d_132_129 (li_add p 1) ?_
  refine ev_sald (i := (p + 1)) d_132_130 (li_in hp hL (by decide)) (li_nat hp hL (by decide)) ?_
  refine ev_csI (As := [.ref 0, .int (xs (p + 1))]) (t := []) (e' := (e + 2)) d_132_131 ml_9_78 rfl rfl rfl rfl rfl (le_e rfl rfl (by omega)) rfl rfl hw ?_
  refine ev_istore (lv' := [(5, .int k), (0, .ref 1000), (1, .ref 0), (2, .ref 42), (3, .ref 65), (4, .int (Int32.ofNat p))]) d_132_134 (by decide) rfl ?_
  refine ev_aload_n d_132_136 rfl ?_
  refine ev_aload_n d_132_137 rfl ?_
  refine ev_iload d_132_138 rfl ?_
  refine ev_iconst d_132_140 ci_1 ?_
  refine ev_iadd (v := (Int32.ofNat (p + 1))) d_132_141 (li_add p 1) ?_
  refine ev_sald (i := (p + 1)) d_132_142 (li_in hp hL (by decide)) (li_nat hp hL (by decide)) ?_
  refine ev_cvV (As := [.int (xs (p + 1))]) (t := []) (e' := (e + 2)) d_132_143 ml_9_81 rfl rfl rfl rfl rfl (le_e rfl rfl (by omega)) rfl (ltk6 (by decide) hN) rfl rfl rfl (ev_m_power (Nat.le_of_succ_le hN) (xs (p + 1)) σ1) ?_
  refine ev_goto (tgt := 773) d_132_146 rfl ?_
  refine ev_sub (lv' := [(0, .ref 1000), (1, .ref 0), (2, .ref 42), (3, .ref 65), (4, .int (Int32.ofNat p))]) (by simp) ?_
  exact hk
theorem law_1 (hN : 66 ≤ N) (p e : Nat) (hp : p + 6 ≤ L) (hL : L ≤ 3073) (he : e + 24 ≤ 20000) (σ σ1 : mmS) (k : Int32) (hw : Ev N L xs (12, 0, lv_args 0 [.ref 0, .int (xs (p + 1)), .ref 65], [], 0, σ) (mmSI (k, σ1))) (r : mmR) (hk : Ev N L xs (132, 773, [(0, .ref 1000), (1, .ref 0), (2, .ref 42), (3, .ref 65), (4, .int (Int32.ofNat p))], [], e + 1, (sp_m_off (xs (p + 1)) σ1).2) r) : Ev N L xs (132, 149, [(0, .ref 1000), (1, .ref 0), (2, .ref 42), (3, .ref 65), (4, .int (Int32.ofNat p))], [], e, σ) (r) := by
  refine ev_aload_n d_132_149 rfl ?_
  refine ev_aload_n d_132_150 rfl ?_
  refine ev_iload d_132_151 rfl ?_
  refine ev_iconst d_132_153 ci_1 ?_
  refine ev_iadd (v := (Int32.ofNat (p + 1))) d_132_154 (li_add p 1) ?_
  refine ev_sald (i := (p + 1)) d_132_155 (li_in hp hL (by decide)) (li_nat hp hL (by decide)) ?_
  refine ev_aload_n d_132_156 rfl ?_
  refine ev_csI (As := [.ref 0, .int (xs (p + 1)), .ref 65]) (t := []) (e' := (e + 1)) d_132_157 ml_9_82 rfl rfl rfl rfl rfl (le_e rfl rfl (by omega)) rfl rfl hw ?_
  refine ev_istore (lv' := [(5, .int k), (0, .ref 1000), (1, .ref 0), (2, .ref 42), (3, .ref 65), (4, .int (Int32.ofNat p))]) d_132_160 (by decide) rfl ?_
  refine ev_aload_n d_132_162 rfl ?_
  refine ev_aload_n d_132_163 rfl ?_
  refine ev_iload d_132_164 rfl ?_
  refine ev_iconst d_132_166 ci_1 ?_
  refine ev_iadd (v := (Int32.ofNat (p + 1))) d_132_167 (li_add p 1) ?_
  refine ev_sald (i := (p + 1)) d_132_168 (li_in hp hL (by decide)) (li_nat hp hL (by decide)) ?_
  refine ev_cvI (As := [.int (xs (p + 1))]) (t := []) (e' := (e + 1)) d_132_169 ml_9_85 rfl rfl rfl rfl rfl (le_e rfl rfl (by omega)) rfl (ltk6 (by decide) hN) rfl rfl rfl (ev_m_off (Nat.le_of_succ_le hN) (xs (p + 1)) σ1) ?_
  refine ev_istore (lv' := [(6, .int ((sp_m_off (xs (p + 1)) σ1).1)), (5, .int k), (0, .ref 1000), (1, .ref 0), (2, .ref 42), (3, .ref 65), (4, .int (Int32.ofNat p))]) d_132_172 (by decide) rfl ?_
  refine ev_goto (tgt := 773) d_132_174 rfl ?_
  refine ev_sub (lv' := [(0, .ref 1000), (1, .ref 0), (2, .ref 42), (3, .ref 65), (4, .int (Int32.ofNat p))]) (by simp) ?_
  exact hk
theorem law_2 (hN : 66 ≤ N) (p e : Nat) (hp : p + 6 ≤ L) (hL : L ≤ 3073) (he : e + 24 ≤ 20000) (σ σ1 : mmS) (k : Int32) (hw : Ev N L xs (14, 0, lv_args 0 [.ref 0, .int (xs (p + 1)), .ref 65], [], 0, σ) (mmSI (k, σ1))) (hJ : Jm σ1) (r : mmR) (hk : Ev N L xs (132, 773, [(0, .ref 1000), (1, .ref 0), (2, .ref 42), (3, .ref 65), (4, .int (Int32.ofNat p))], [], e + 1, (sp_m_run (xs (p + 1)) σ1).2) r) : Ev N L xs (132, 177, [(0, .ref 1000), (1, .ref 0), (2, .ref 42), (3, .ref 65), (4, .int (Int32.ofNat p))], [], e, σ) (r) := by
  refine ev_aload_n d_132_177 rfl ?_
  refine ev_aload_n d_132_178 rfl ?_
  refine ev_iload d_132_179 rfl ?_
  refine ev_iconst d_132_181 ci_1 ?_
  refine ev_iadd (v := (Int32.ofNat (p + 1))) d_132_182 (li_add p 1) ?_
  refine ev_sald (i := (p + 1)) d_132_183 (li_in hp hL (by decide)) (li_nat hp hL (by decide)) ?_
  refine ev_aload_n d_132_184 rfl ?_
  refine ev_csI (As := [.ref 0, .int (xs (p + 1)), .ref 65]) (t := []) (e' := (e + 1)) d_132_185 ml_9_86 rfl rfl rfl rfl rfl (le_e rfl rfl (by omega)) rfl rfl hw ?_
  refine ev_istore (lv' := [(5, .int k), (0, .ref 1000), (1, .ref 0), (2, .ref 42), (3, .ref 65), (4, .int (Int32.ofNat p))]) d_132_188 (by decide) rfl ?_
  refine ev_aload_n d_132_190 rfl ?_
  refine ev_aload_n d_132_191 rfl ?_
  refine ev_iload d_132_192 rfl ?_
  refine ev_iconst d_132_194 ci_1 ?_
  refine ev_iadd (v := (Int32.ofNat (p + 1))) d_132_195 (li_add p 1) ?_
  refine ev_sald (i := (p + 1)) d_132_196 (li_in hp hL (by decide)) (li_nat hp hL (by decide)) ?_
  refine ev_cvI (As := [.int (xs (p + 1))]) (t := []) (e' := (e + 1)) d_132_197 ml_9_88 rfl rfl rfl rfl rfl (le_e rfl rfl (by omega)) rfl (ltk6 (by decide) hN) rfl rfl rfl (ev_m_run (Nat.le_of_succ_le hN) (xs (p + 1)) σ1 hJ) ?_
  refine ev_istore (lv' := [(6, .int ((sp_m_run (xs (p + 1)) σ1).1)), (5, .int k), (0, .ref 1000), (1, .ref 0), (2, .ref 42), (3, .ref 65), (4, .int (Int32.ofNat p))]) d_132_200 (by decide) rfl ?_
  refine ev_goto (tgt := 773) d_132_202 rfl ?_
  refine ev_sub (lv' := [(0, .ref 1000), (1, .ref 0), (2, .ref 42), (3, .ref 65), (4, .int (Int32.ofNat p))]) (by simp) ?_
  exact hk
theorem law_3 (hN : 66 ≤ N) (p e : Nat) (hp : p + 6 ≤ L) (hL : L ≤ 3073) (he : e + 24 ≤ 20000) (σ σ1 : mmS) (k : Int32) (hw : Ev N L xs (66, 0, lv_args 0 [.ref 0, .int (xs (p + 1)), .int (xs (p + 2))], [], 0, σ) (mmSI (k, σ1))) (r : mmR) (hk : Ev N L xs (132, 773, [(0, .ref 1000), (1, .ref 0), (2, .ref 42), (3, .ref 65), (4, .int (Int32.ofNat p))], [], e + 3, (sp_m_value (xs (p + 1)) (xs (p + 2)) σ1)) r) : Ev N L xs (132, 205, [(0, .ref 1000), (1, .ref 0), (2, .ref 42), (3, .ref 65), (4, .int (Int32.ofNat p))], [], e, σ) (r) := by
  refine ev_aload_n d_132_205 rfl ?_
  refine ev_aload_n d_132_206 rfl ?_
  refine ev_iload d_132_207 rfl ?_
  refine ev_iconst d_132_209 ci_1 ?_
  refine ev_iadd (v := (Int32.ofNat (p + 1))) d_132_210 (li_add p 1) ?_
  refine ev_sald (i := (p + 1)) d_132_211 (li_in hp hL (by decide)) (li_nat hp hL (by decide)) ?_
  refine ev_aload_n d_132_212 rfl ?_
  refine ev_iload d_132_213 rfl ?_
  refine ev_iconst d_132_215 ci_2 ?_
  refine ev_iadd (v := (Int32.ofNat (p + 2))) d_132_216 (li_add p 2) ?_
  refine ev_sald (i := (p + 2)) d_132_217 (li_in hp hL (by decide)) (li_nat hp hL (by decide)) ?_
  refine ev_csI (As := [.ref 0, .int (xs (p + 1)), .int (xs (p + 2))]) (t := []) (e' := (e + 3)) d_132_218 ml_9_89 rfl rfl rfl rfl rfl (le_e rfl rfl (by omega)) rfl rfl hw ?_
  refine ev_istore (lv' := [(5, .int k), (0, .ref 1000), (1, .ref 0), (2, .ref 42), (3, .ref 65), (4, .int (Int32.ofNat p))]) d_132_221 (by decide) rfl ?_
  refine ev_aload_n d_132_223 rfl ?_
  refine ev_aload_n d_132_224 rfl ?_
  refine ev_iload d_132_225 rfl ?_
  refine ev_iconst d_132_227 ci_1 ?_
  refine ev_iadd (v := (Int32.ofNat (p + 1))) d_132_228 (li_add p 1) ?_
  refine ev_sald (i := (p + 1)) d_132_229 (li_in hp hL (by decide)) (li_nat hp hL (by decide)) ?_
  refine ev_aload_n d_132_230 rfl ?_
  refine ev_iload d_132_231 rfl ?_
  refine ev_iconst d_132_233 ci_2 ?_
  refine ev_iadd (v := (Int32.ofNat (p + 2))) d_132_234 (li_add p 2) ?_
  refine ev_sald (i := (p + 2)) d_132_235 (li_in hp hL (by decide)) (li_nat hp hL (by decide)) ?_
  refine ev_cvV (As := [.int (xs (p + 1)), .int (xs (p + 2))]) (t := []) (e' := (e + 3)) d_132_236 ml_9_92 rfl rfl rfl rfl rfl (le_e rfl rfl (by omega)) rfl (ltk6 (by decide) hN) rfl rfl rfl (ev_m_value (Nat.le_of_succ_le hN) (xs (p + 1)) (xs (p + 2)) σ1) ?_
  refine ev_goto (tgt := 773) d_132_239 rfl ?_
  refine ev_sub (lv' := [(0, .ref 1000), (1, .ref 0), (2, .ref 42), (3, .ref 65), (4, .int (Int32.ofNat p))]) (by simp) ?_
  exact hk
theorem law_4 (hN : 66 ≤ N) (p e : Nat) (hp : p + 6 ≤ L) (hL : L ≤ 3073) (he : e + 24 ≤ 20000) (σ σ1 : mmS) (k : Int32) (hw : Ev N L xs (69, 0, lv_args 0 [.ref 0, .int (xs (p + 1)), .int (xs (p + 2)), .int (xs (p + 3)), .int (xs (p + 4)), .int (xs (p + 5))], [], 0, σ) (mmSI (k, σ1))) (r : mmR) (hk : Ev N L xs (132, 773, [(0, .ref 1000), (1, .ref 0), (2, .ref 42), (3, .ref 65), (4, .int (Int32.ofNat p))], [], e + 7, (sp_m_post (xs (p + 1)) (xs (p + 2)) (xs (p + 3)) (xs (p + 4)) (xs (p + 5)) σ1)) r) : Ev N L xs (132, 242, [(0, .ref 1000), (1, .ref 0), (2, .ref 42), (3, .ref 65), (4, .int (Int32.ofNat p))], [], e, σ) (r) := by
  refine ev_aload_n d_132_242 rfl ?_
  refine ev_aload_n d_132_243 rfl ?_
  refine ev_iload d_132_244 rfl ?_
  refine ev_iconst d_132_246 ci_1 ?_
  refine ev_iadd (v := (Int32.ofNat (p + 1))) d_132_247 (li_add p 1) ?_
  refine ev_sald (i := (p + 1)) d_132_248 (li_in hp hL (by decide)) (li_nat hp hL (by decide)) ?_
  refine ev_aload_n d_132_249 rfl ?_
  refine ev_iload d_132_250 rfl ?_
  refine ev_iconst d_132_252 ci_2 ?_
  refine ev_iadd (v := (Int32.ofNat (p + 2))) d_132_253 (li_add p 2) ?_
  refine ev_sald (i := (p + 2)) d_132_254 (li_in hp hL (by decide)) (li_nat hp hL (by decide)) ?_
  refine ev_aload_n d_132_255 rfl ?_
  refine ev_iload d_132_256 rfl ?_
  refine ev_iconst d_132_258 ci_3 ?_
  refine ev_iadd (v := (Int32.ofNat (p + 3))) d_132_259 (li_add p 3) ?_
  refine ev_sald (i := (p + 3)) d_132_260 (li_in hp hL (by decide)) (li_nat hp hL (by decide)) ?_
  refine ev_aload_n d_132_261 rfl ?_
  refine ev_iload d_132_262 rfl ?_
  refine ev_iconst d_132_264 ci_4 ?_
  refine ev_iadd (v := (Int32.ofNat (p + 4))) d_132_265 (li_add p 4) ?_
  refine ev_sald (i := (p + 4)) d_132_266 (li_in hp hL (by decide)) (li_nat hp hL (by decide)) ?_
  refine ev_aload_n d_132_267 rfl ?_
  refine ev_iload d_132_268 rfl ?_
  refine ev_iconst d_132_270 ci_5 ?_
  refine ev_iadd (v := (Int32.ofNat (p + 5))) d_132_271 (li_add p 5) ?_
  refine ev_sald (i := (p + 5)) d_132_272 (li_in hp hL (by decide)) (li_nat hp hL (by decide)) ?_
  refine ev_csI (As := [.ref 0, .int (xs (p + 1)), .int (xs (p + 2)), .int (xs (p + 3)), .int (xs (p + 4)), .int (xs (p + 5))]) (t := []) (e' := (e + 7)) d_132_273 ml_9_93 rfl rfl rfl rfl rfl (le_e rfl rfl (by omega)) rfl rfl hw ?_
  refine ev_istore (lv' := [(5, .int k), (0, .ref 1000), (1, .ref 0), (2, .ref 42), (3, .ref 65), (4, .int (Int32.ofNat p))]) d_132_276 (by decide) rfl ?_
  refine ev_aload_n d_132_278 rfl ?_
  refine ev_aload_n d_132_279 rfl ?_
  refine ev_iload d_132_280 rfl ?_
  refine ev_iconst d_132_282 ci_1 ?_
  refine ev_iadd (v := (Int32.ofNat (p + 1))) d_132_283 (li_add p 1) ?_
  refine ev_sald (i := (p + 1)) d_132_284 (li_in hp hL (by decide)) (li_nat hp hL (by decide)) ?_
  refine ev_aload_n d_132_285 rfl ?_
  refine ev_iload d_132_286 rfl ?_
  refine ev_iconst d_132_288 ci_2 ?_
  refine ev_iadd (v := (Int32.ofNat (p + 2))) d_132_289 (li_add p 2) ?_
  refine ev_sald (i := (p + 2)) d_132_290 (li_in hp hL (by decide)) (li_nat hp hL (by decide)) ?_
  refine ev_aload_n d_132_291 rfl ?_
  refine ev_iload d_132_292 rfl ?_
  refine ev_iconst d_132_294 ci_3 ?_
  refine ev_iadd (v := (Int32.ofNat (p + 3))) d_132_295 (li_add p 3) ?_
  refine ev_sald (i := (p + 3)) d_132_296 (li_in hp hL (by decide)) (li_nat hp hL (by decide)) ?_
  refine ev_aload_n d_132_297 rfl ?_
  refine ev_iload d_132_298 rfl ?_
  refine ev_iconst d_132_300 ci_4 ?_
  refine ev_iadd (v := (Int32.ofNat (p + 4))) d_132_301 (li_add p 4) ?_
  refine ev_sald (i := (p + 4)) d_132_302 (li_in hp hL (by decide)) (li_nat hp hL (by decide)) ?_
  refine ev_aload_n d_132_303 rfl ?_
  refine ev_iload d_132_304 rfl ?_
  refine ev_iconst d_132_306 ci_5 ?_
  refine ev_iadd (v := (Int32.ofNat (p + 5))) d_132_307 (li_add p 5) ?_
  refine ev_sald (i := (p + 5)) d_132_308 (li_in hp hL (by decide)) (li_nat hp hL (by decide)) ?_
  refine ev_cvV (As := [.int (xs (p + 1)), .int (xs (p + 2)), .int (xs (p + 3)), .int (xs (p + 4)), .int (xs (p + 5))]) (t := []) (e' := (e + 7)) d_132_309 ml_9_96 rfl rfl rfl rfl rfl (le_e rfl rfl (by omega)) rfl (ltk6 (by decide) hN) rfl rfl rfl (ev_m_post (Nat.le_of_succ_le hN) (xs (p + 1)) (xs (p + 2)) (xs (p + 3)) (xs (p + 4)) (xs (p + 5)) σ1) ?_
  refine ev_goto (tgt := 773) d_132_312 rfl ?_
  refine ev_sub (lv' := [(0, .ref 1000), (1, .ref 0), (2, .ref 42), (3, .ref 65), (4, .int (Int32.ofNat p))]) (by simp) ?_
  exact hk
theorem law_5 (hN : 66 ≤ N) (p e : Nat) (hp : p + 6 ≤ L) (hL : L ≤ 3073) (he : e + 24 ≤ 20000) (σ σ1 : mmS) (k : Int32) (hw : Ev N L xs (72, 0, lv_args 0 [.ref 0, .long ((((xs (p + 1)).toInt64) <<< ((32 : Int32).toInt64 &&& 63)) ||| (((xs (p + 2)).toInt64) &&& (4294967295 : Int64)))], [], 0, σ) (mmSI (k, σ1))) (r : mmR) (hk : Ev N L xs (132, 773, [(0, .ref 1000), (1, .ref 0), (2, .ref 42), (3, .ref 65), (4, .int (Int32.ofNat p))], [], e + 1, (sp_m_disturb ((((xs (p + 1)).toInt64) <<< ((32 : Int32).toInt64 &&& 63)) ||| (((xs (p + 2)).toInt64) &&& (4294967295 : Int64))) σ1)) r) : Ev N L xs (132, 315, [(0, .ref 1000), (1, .ref 0), (2, .ref 42), (3, .ref 65), (4, .int (Int32.ofNat p))], [], e, σ) (r) := by
  refine ev_aload_n d_132_315 rfl ?_
  refine ev_aload_n d_132_316 rfl ?_
  refine ev_iload d_132_317 rfl ?_
  refine ev_iconst d_132_319 ci_1 ?_
  refine ev_iadd (v := (Int32.ofNat (p + 1))) d_132_320 (li_add p 1) ?_
  refine ev_sald (i := (p + 1)) d_132_321 (li_in hp hL (by decide)) (li_nat hp hL (by decide)) ?_
  refine ev_i2l (v := (xs (p + 1)).toInt64) d_132_322 rfl ?_
  refine ev_bipush d_132_323 cb_32 ?_
  refine ev_lshl (v := (((xs (p + 1)).toInt64) <<< ((32 : Int32).toInt64 &&& 63))) d_132_325 rfl ?_
  refine ev_aload_n d_132_326 rfl ?_
  refine ev_iload d_132_327 rfl ?_
  refine ev_iconst d_132_329 ci_2 ?_
  refine ev_iadd (v := (Int32.ofNat (p + 2))) d_132_330 (li_add p 2) ?_
  refine ev_sald (i := (p + 2)) d_132_331 (li_in hp hL (by decide)) (li_nat hp hL (by decide)) ?_
  refine ev_i2l (v := (xs (p + 2)).toInt64) d_132_332 rfl ?_
  refine ev_ldc2 d_132_333 kl_9_97 ?_
  refine ev_land (v := (((xs (p + 2)).toInt64) &&& (4294967295 : Int64))) d_132_336 rfl ?_
  refine ev_lor (v := ((((xs (p + 1)).toInt64) <<< ((32 : Int32).toInt64 &&& 63)) ||| (((xs (p + 2)).toInt64) &&& (4294967295 : Int64)))) d_132_337 rfl ?_
  refine ev_csI (As := [.ref 0, .long ((((xs (p + 1)).toInt64) <<< ((32 : Int32).toInt64 &&& 63)) ||| (((xs (p + 2)).toInt64) &&& (4294967295 : Int64)))]) (t := []) (e' := (e + 1)) d_132_338 ml_9_99 rfl rfl rfl rfl rfl (le_e rfl rfl (by omega)) rfl rfl hw ?_
  refine ev_istore (lv' := [(5, .int k), (0, .ref 1000), (1, .ref 0), (2, .ref 42), (3, .ref 65), (4, .int (Int32.ofNat p))]) d_132_341 (by decide) rfl ?_
  refine ev_aload_n d_132_343 rfl ?_
  refine ev_aload_n d_132_344 rfl ?_
  refine ev_iload d_132_345 rfl ?_
  refine ev_iconst d_132_347 ci_1 ?_
  refine ev_iadd (v := (Int32.ofNat (p + 1))) d_132_348 (li_add p 1) ?_
  refine ev_sald (i := (p + 1)) d_132_349 (li_in hp hL (by decide)) (li_nat hp hL (by decide)) ?_
  refine ev_i2l (v := (xs (p + 1)).toInt64) d_132_350 rfl ?_
  refine ev_bipush d_132_351 cb_32 ?_
  refine ev_lshl (v := (((xs (p + 1)).toInt64) <<< ((32 : Int32).toInt64 &&& 63))) d_132_353 rfl ?_
  refine ev_aload_n d_132_354 rfl ?_
  refine ev_iload d_132_355 rfl ?_
  refine ev_iconst d_132_357 ci_2 ?_
  refine ev_iadd (v := (Int32.ofNat (p + 2))) d_132_358 (li_add p 2) ?_
  refine ev_sald (i := (p + 2)) d_132_359 (li_in hp hL (by decide)) (li_nat hp hL (by decide)) ?_
  refine ev_i2l (v := (xs (p + 2)).toInt64) d_132_360 rfl ?_
  refine ev_ldc2 d_132_361 kl_9_97 ?_
  refine ev_land (v := (((xs (p + 2)).toInt64) &&& (4294967295 : Int64))) d_132_364 rfl ?_
  refine ev_lor (v := ((((xs (p + 1)).toInt64) <<< ((32 : Int32).toInt64 &&& 63)) ||| (((xs (p + 2)).toInt64) &&& (4294967295 : Int64)))) d_132_365 rfl ?_
  refine ev_cvV (As := [.long ((((xs (p + 1)).toInt64) <<< ((32 : Int32).toInt64 &&& 63)) ||| (((xs (p + 2)).toInt64) &&& (4294967295 : Int64)))]) (t := []) (e' := (e + 1)) d_132_366 ml_9_102 rfl rfl rfl rfl rfl (le_e rfl rfl (by omega)) rfl (ltk6 (by decide) hN) rfl rfl rfl (ev_m_disturb (Nat.le_of_succ_le hN) ((((xs (p + 1)).toInt64) <<< ((32 : Int32).toInt64 &&& 63)) ||| (((xs (p + 2)).toInt64) &&& (4294967295 : Int64))) σ1) ?_
  refine ev_goto (tgt := 773) d_132_369 rfl ?_
  refine ev_sub (lv' := [(0, .ref 1000), (1, .ref 0), (2, .ref 42), (3, .ref 65), (4, .int (Int32.ofNat p))]) (by simp) ?_
  exact hk
theorem law_6 (hN : 66 ≤ N) (p e : Nat) (hp : p + 6 ≤ L) (hL : L ≤ 3073) (he : e + 24 ≤ 20000) (σ σ1 : mmS) (k : Int32) (hw : Ev N L xs (75, 0, lv_args 0 [.ref 0, .int (xs (p + 1)), .ref 65], [], 0, σ) (mmSI (k, σ1))) (r : mmR) (hk : Ev N L xs (132, 773, [(0, .ref 1000), (1, .ref 0), (2, .ref 42), (3, .ref 65), (4, .int (Int32.ofNat p))], [], e + 1, (sp_m_lose (xs (p + 1)) σ1).2) r) : Ev N L xs (132, 372, [(0, .ref 1000), (1, .ref 0), (2, .ref 42), (3, .ref 65), (4, .int (Int32.ofNat p))], [], e, σ) (r) := by
  refine ev_aload_n d_132_372 rfl ?_
  refine ev_aload_n d_132_373 rfl ?_
  refine ev_iload d_132_374 rfl ?_
  refine ev_iconst d_132_376 ci_1 ?_
  refine ev_iadd (v := (Int32.ofNat (p + 1))) d_132_377 (li_add p 1) ?_
  refine ev_sald (i := (p + 1)) d_132_378 (li_in hp hL (by decide)) (li_nat hp hL (by decide)) ?_
  refine ev_aload_n d_132_379 rfl ?_
  refine ev_csI (As := [.ref 0, .int (xs (p + 1)), .ref 65]) (t := []) (e' := (e + 1)) d_132_380 ml_9_103 rfl rfl rfl rfl rfl (le_e rfl rfl (by omega)) rfl rfl hw ?_
  refine ev_istore (lv' := [(5, .int k), (0, .ref 1000), (1, .ref 0), (2, .ref 42), (3, .ref 65), (4, .int (Int32.ofNat p))]) d_132_383 (by decide) rfl ?_
  refine ev_aload_n d_132_385 rfl ?_
  refine ev_aload_n d_132_386 rfl ?_
  refine ev_iload d_132_387 rfl ?_
  refine ev_iconst d_132_389 ci_1 ?_
  refine ev_iadd (v := (Int32.ofNat (p + 1))) d_132_390 (li_add p 1) ?_
  refine ev_sald (i := (p + 1)) d_132_391 (li_in hp hL (by decide)) (li_nat hp hL (by decide)) ?_
  refine ev_cvI (As := [.int (xs (p + 1))]) (t := []) (e' := (e + 1)) d_132_392 ml_9_105 rfl rfl rfl rfl rfl (le_e rfl rfl (by omega)) rfl (ltk6 (by decide) hN) rfl rfl rfl (ev_m_lose (Nat.le_of_succ_le hN) (xs (p + 1)) σ1) ?_
  refine ev_istore (lv' := [(6, .int ((sp_m_lose (xs (p + 1)) σ1).1)), (5, .int k), (0, .ref 1000), (1, .ref 0), (2, .ref 42), (3, .ref 65), (4, .int (Int32.ofNat p))]) d_132_395 (by decide) rfl ?_
  refine ev_goto (tgt := 773) d_132_397 rfl ?_
  refine ev_sub (lv' := [(0, .ref 1000), (1, .ref 0), (2, .ref 42), (3, .ref 65), (4, .int (Int32.ofNat p))]) (by simp) ?_
  exact hk
theorem law_7 (hN : 66 ≤ N) (p e : Nat) (hp : p + 6 ≤ L) (hL : L ≤ 3073) (he : e + 24 ≤ 20000) (σ σ1 : mmS) (k : Int32) (hw : Ev N L xs (77, 0, lv_args 0 [.ref 0, .int (xs (p + 1)), .ref 65], [], 0, σ) (mmSI (k, σ1))) (r : mmR) (hk : Ev N L xs (132, 773, [(0, .ref 1000), (1, .ref 0), (2, .ref 42), (3, .ref 65), (4, .int (Int32.ofNat p))], [], e + 1, (sp_m_state (xs (p + 1)) σ1).2) r) : Ev N L xs (132, 400, [(0, .ref 1000), (1, .ref 0), (2, .ref 42), (3, .ref 65), (4, .int (Int32.ofNat p))], [], e, σ) (r) := by
  refine ev_aload_n d_132_400 rfl ?_
  refine ev_aload_n d_132_401 rfl ?_
  refine ev_iload d_132_402 rfl ?_
  refine ev_iconst d_132_404 ci_1 ?_
  refine ev_iadd (v := (Int32.ofNat (p + 1))) d_132_405 (li_add p 1) ?_
  refine ev_sald (i := (p + 1)) d_132_406 (li_in hp hL (by decide)) (li_nat hp hL (by decide)) ?_
  refine ev_aload_n d_132_407 rfl ?_
  refine ev_csI (As := [.ref 0, .int (xs (p + 1)), .ref 65]) (t := []) (e' := (e + 1)) d_132_408 ml_9_106 rfl rfl rfl rfl rfl (le_e rfl rfl (by omega)) rfl rfl hw ?_
  refine ev_istore (lv' := [(5, .int k), (0, .ref 1000), (1, .ref 0), (2, .ref 42), (3, .ref 65), (4, .int (Int32.ofNat p))]) d_132_411 (by decide) rfl ?_
  refine ev_aload_n d_132_413 rfl ?_
  refine ev_aload_n d_132_414 rfl ?_
  refine ev_iload d_132_415 rfl ?_
  refine ev_iconst d_132_417 ci_1 ?_
  refine ev_iadd (v := (Int32.ofNat (p + 1))) d_132_418 (li_add p 1) ?_
  refine ev_sald (i := (p + 1)) d_132_419 (li_in hp hL (by decide)) (li_nat hp hL (by decide)) ?_
  refine ev_cvI (As := [.int (xs (p + 1))]) (t := []) (e' := (e + 1)) d_132_420 ml_9_108 rfl rfl rfl rfl rfl (le_e rfl rfl (by omega)) rfl (ltk6 (by decide) hN) rfl rfl rfl (ev_m_state (Nat.le_of_succ_le hN) (xs (p + 1)) σ1) ?_
  refine ev_istore (lv' := [(6, .int ((sp_m_state (xs (p + 1)) σ1).1)), (5, .int k), (0, .ref 1000), (1, .ref 0), (2, .ref 42), (3, .ref 65), (4, .int (Int32.ofNat p))]) d_132_423 (by decide) rfl ?_
  refine ev_goto (tgt := 773) d_132_425 rfl ?_
  refine ev_sub (lv' := [(0, .ref 1000), (1, .ref 0), (2, .ref 42), (3, .ref 65), (4, .int (Int32.ofNat p))]) (by simp) ?_
  exact hk
theorem law_8 (hN : 66 ≤ N) (p e : Nat) (hp : p + 6 ≤ L) (hL : L ≤ 3073) (he : e + 24 ≤ 20000) (σ σ1 : mmS) (k : Int32) (hw : Ev N L xs (79, 0, lv_args 0 [.ref 0, .int (xs (p + 1)), .int (xs (p + 2)), .ref 65], [], 0, σ) (mmSI (k, σ1))) (r : mmR) (hk : Ev N L xs (132, 773, [(0, .ref 1000), (1, .ref 0), (2, .ref 42), (3, .ref 65), (4, .int (Int32.ofNat p))], [], e + 3, (sp_m_clock (xs (p + 1)) (xs (p + 2)) σ1).2) r) : Ev N L xs (132, 428, [(0, .ref 1000), (1, .ref 0), (2, .ref 42), (3, .ref 65), (4, .int (Int32.ofNat p))], [], e, σ) (r) := by
  refine ev_aload_n d_132_428 rfl ?_
  refine ev_aload_n d_132_429 rfl ?_
  refine ev_iload d_132_430 rfl ?_
  refine ev_iconst d_132_432 ci_1 ?_
  refine ev_iadd (v := (Int32.ofNat (p + 1))) d_132_433 (li_add p 1) ?_
  refine ev_sald (i := (p + 1)) d_132_434 (li_in hp hL (by decide)) (li_nat hp hL (by decide)) ?_
  refine ev_aload_n d_132_435 rfl ?_
  refine ev_iload d_132_436 rfl ?_
  refine ev_iconst d_132_438 ci_2 ?_
  refine ev_iadd (v := (Int32.ofNat (p + 2))) d_132_439 (li_add p 2) ?_
  refine ev_sald (i := (p + 2)) d_132_440 (li_in hp hL (by decide)) (li_nat hp hL (by decide)) ?_
  refine ev_aload_n d_132_441 rfl ?_
  refine ev_csI (As := [.ref 0, .int (xs (p + 1)), .int (xs (p + 2)), .ref 65]) (t := []) (e' := (e + 3)) d_132_442 ml_9_109 rfl rfl rfl rfl rfl (le_e rfl rfl (by omega)) rfl rfl hw ?_
  refine ev_istore (lv' := [(5, .int k), (0, .ref 1000), (1, .ref 0), (2, .ref 42), (3, .ref 65), (4, .int (Int32.ofNat p))]) d_132_445 (by decide) rfl ?_
  refine ev_aload_n d_132_447 rfl ?_
  refine ev_aload_n d_132_448 rfl ?_
  refine ev_iload d_132_449 rfl ?_
  refine ev_iconst d_132_451 ci_1 ?_
  refine ev_iadd (v := (Int32.ofNat (p + 1))) d_132_452 (li_add p 1) ?_
  refine ev_sald (i := (p + 1)) d_132_453 (li_in hp hL (by decide)) (li_nat hp hL (by decide)) ?_
  refine ev_aload_n d_132_454 rfl ?_
  refine ev_iload d_132_455 rfl ?_
  refine ev_iconst d_132_457 ci_2 ?_
  refine ev_iadd (v := (Int32.ofNat (p + 2))) d_132_458 (li_add p 2) ?_
  refine ev_sald (i := (p + 2)) d_132_459 (li_in hp hL (by decide)) (li_nat hp hL (by decide)) ?_
  refine ev_cvI (As := [.int (xs (p + 1)), .int (xs (p + 2))]) (t := []) (e' := (e + 3)) d_132_460 ml_9_112 rfl rfl rfl rfl rfl (le_e rfl rfl (by omega)) rfl (ltk6 (by decide) hN) rfl rfl rfl (ev_m_clock (Nat.le_of_succ_le hN) (xs (p + 1)) (xs (p + 2)) σ1) ?_
  refine ev_istore (lv' := [(6, .int ((sp_m_clock (xs (p + 1)) (xs (p + 2)) σ1).1)), (5, .int k), (0, .ref 1000), (1, .ref 0), (2, .ref 42), (3, .ref 65), (4, .int (Int32.ofNat p))]) d_132_463 (by decide) rfl ?_
  refine ev_goto (tgt := 773) d_132_465 rfl ?_
  refine ev_sub (lv' := [(0, .ref 1000), (1, .ref 0), (2, .ref 42), (3, .ref 65), (4, .int (Int32.ofNat p))]) (by simp) ?_
  exact hk
theorem law_9f (hN : 66 ≤ N) (p e : Nat) (hp : p + 6 ≤ L) (hL : L ≤ 3073) (he : e + 24 ≤ 20000) (σ σ1 : mmS) (k : Int32) (hb : (xs (p + 3)) = (0 : Int32)) (hw : Ev N L xs (82, 0, lv_args 0 [.ref 0, .int (xs (p + 1)), .int (xs (p + 2)), .int (0 : Int32), .ref 65], [], 0, σ) (mmSI (k, σ1))) (heq : (sp_m_thrown ((sp_m_deviation (xs (p + 1)) (xs (p + 2)) (0 : Int32) σ1).2)) = k) (hout : k = 0 → (lg_cmp (((sp_m_deviation (xs (p + 1)) (xs (p + 2)) (0 : Int32) σ1).2).2 65 0) (((sp_m_deviation (xs (p + 1)) (xs (p + 2)) (0 : Int32) σ1).1).toInt64)) = (0 : Int32)) (r : mmR) (hk : Ev N L xs (132, 773, [(0, .ref 1000), (1, .ref 0), (2, .ref 42), (3, .ref 65), (4, .int (Int32.ofNat p))], [], e + 3, (sp_m_deviation (xs (p + 1)) (xs (p + 2)) (0 : Int32) σ1).2) r) : Ev N L xs (132, 468, [(0, .ref 1000), (1, .ref 0), (2, .ref 42), (3, .ref 65), (4, .int (Int32.ofNat p))], [], e, σ) (r) := by
  refine ev_aload_n d_132_468 rfl ?_
  refine ev_aload_n d_132_469 rfl ?_
  refine ev_iload d_132_470 rfl ?_
  refine ev_iconst d_132_472 ci_1 ?_
  refine ev_iadd (v := (Int32.ofNat (p + 1))) d_132_473 (li_add p 1) ?_
  refine ev_sald (i := (p + 1)) d_132_474 (li_in hp hL (by decide)) (li_nat hp hL (by decide)) ?_
  refine ev_aload_n d_132_475 rfl ?_
  refine ev_iload d_132_476 rfl ?_
  refine ev_iconst d_132_478 ci_2 ?_
  refine ev_iadd (v := (Int32.ofNat (p + 2))) d_132_479 (li_add p 2) ?_
  refine ev_sald (i := (p + 2)) d_132_480 (li_in hp hL (by decide)) (li_nat hp hL (by decide)) ?_
  refine ev_aload_n d_132_481 rfl ?_
  refine ev_iload d_132_482 rfl ?_
  refine ev_iconst d_132_484 ci_3 ?_
  refine ev_iadd (v := (Int32.ofNat (p + 3))) d_132_485 (li_add p 3) ?_
  refine ev_sald (i := (p + 3)) d_132_486 (li_in hp hL (by decide)) (li_nat hp hL (by decide)) ?_
  refine ev_ifT (tgt := 494) d_132_487 rfl hb ?_
  refine ev_iconst d_132_494 ci_0 ?_
  refine ev_aload_n d_132_495 rfl ?_
  refine ev_csI (As := [.ref 0, .int (xs (p + 1)), .int (xs (p + 2)), .int (0 : Int32), .ref 65]) (t := []) (e' := (e + 3)) d_132_496 ml_9_113 rfl rfl rfl rfl rfl (le_e rfl rfl (by omega)) rfl rfl hw ?_
  refine ev_istore (lv' := [(5, .int k), (0, .ref 1000), (1, .ref 0), (2, .ref 42), (3, .ref 65), (4, .int (Int32.ofNat p))]) d_132_499 (by decide) rfl ?_
  refine ev_aload_n d_132_501 rfl ?_
  refine ev_aload_n d_132_502 rfl ?_
  refine ev_iload d_132_503 rfl ?_
  refine ev_iconst d_132_505 ci_1 ?_
  refine ev_iadd (v := (Int32.ofNat (p + 1))) d_132_506 (li_add p 1) ?_
  refine ev_sald (i := (p + 1)) d_132_507 (li_in hp hL (by decide)) (li_nat hp hL (by decide)) ?_
  refine ev_aload_n d_132_508 rfl ?_
  refine ev_iload d_132_509 rfl ?_
  refine ev_iconst d_132_511 ci_2 ?_
  refine ev_iadd (v := (Int32.ofNat (p + 2))) d_132_512 (li_add p 2) ?_
  refine ev_sald (i := (p + 2)) d_132_513 (li_in hp hL (by decide)) (li_nat hp hL (by decide)) ?_
  refine ev_aload_n d_132_514 rfl ?_
  refine ev_iload d_132_515 rfl ?_
  refine ev_iconst d_132_517 ci_3 ?_
  refine ev_iadd (v := (Int32.ofNat (p + 3))) d_132_518 (li_add p 3) ?_
  refine ev_sald (i := (p + 3)) d_132_519 (li_in hp hL (by decide)) (li_nat hp hL (by decide)) ?_
  refine ev_ifT (tgt := 527) d_132_520 rfl hb ?_
  refine ev_iconst d_132_527 ci_0 ?_
  refine ev_cvI (As := [.int (xs (p + 1)), .int (xs (p + 2)), .int (0 : Int32)]) (t := []) (e' := (e + 3)) d_132_528 ml_9_116 rfl rfl rfl rfl rfl (le_e rfl rfl (by omega)) rfl (ltk6 (by decide) hN) rfl rfl rfl (ev_m_deviation (Nat.le_of_succ_le hN) (xs (p + 1)) (xs (p + 2)) (0 : Int32) σ1) ?_
  refine ev_istore (lv' := [(6, .int ((sp_m_deviation (xs (p + 1)) (xs (p + 2)) (0 : Int32) σ1).1)), (5, .int k), (0, .ref 1000), (1, .ref 0), (2, .ref 42), (3, .ref 65), (4, .int (Int32.ofNat p))]) d_132_531 (by decide) rfl ?_
  refine ev_aload_n d_132_533 rfl ?_
  refine ev_cvI (As := []) (t := []) (e' := (e + 3)) d_132_534 ml_9_117 rfl rfl rfl rfl rfl (le_e rfl rfl (by omega)) rfl (ltk6 (by decide) hN) rfl rfl rfl (ev_m_thrown (Nat.le_of_succ_le hN) ((sp_m_deviation (xs (p + 1)) (xs (p + 2)) (0 : Int32) σ1).2)) ?_
  refine ev_iload d_132_537 rfl ?_
  refine ev_icmpT (tgt := 544) d_132_539 rfl heq ?_
  refine ev_iload d_132_544 rfl ?_
  refine ev_if (tgt := 561) d_132_546 rfl (fun _h546 => ?_) (fun _h546 => ?_)
  · refine ev_goto (tgt := 773) d_132_561 rfl ?_
    refine ev_sub (lv' := [(0, .ref 1000), (1, .ref 0), (2, .ref 42), (3, .ref 65), (4, .int (Int32.ofNat p))]) (by simp) ?_
    exact hk
  · refine ev_aload_n d_132_549 rfl ?_
    refine ev_iconst d_132_550 ci_0 ?_
    refine ev_laload (i := 0) d_132_551 (ltk6 (by decide) hN) rfl (vpi (by decide)) (by decide) ?_
    refine ev_iload d_132_552 rfl ?_
    refine ev_i2l (v := ((sp_m_deviation (xs (p + 1)) (xs (p + 2)) (0 : Int32) σ1).1).toInt64) d_132_554 rfl ?_
    refine ev_lcmp d_132_555 ?_
    refine ev_ifT (tgt := 561) d_132_556 rfl (hout (Classical.not_not.mp _h546)) ?_
    refine ev_goto (tgt := 773) d_132_561 rfl ?_
    refine ev_sub (lv' := [(0, .ref 1000), (1, .ref 0), (2, .ref 42), (3, .ref 65), (4, .int (Int32.ofNat p))]) (by simp) ?_
    exact hk
theorem law_9t (hN : 66 ≤ N) (p e : Nat) (hp : p + 6 ≤ L) (hL : L ≤ 3073) (he : e + 24 ≤ 20000) (σ σ1 : mmS) (k : Int32) (hb : ¬ ((xs (p + 3)) = (0 : Int32))) (hw : Ev N L xs (82, 0, lv_args 0 [.ref 0, .int (xs (p + 1)), .int (xs (p + 2)), .int (1 : Int32), .ref 65], [], 0, σ) (mmSI (k, σ1))) (heq : (sp_m_thrown ((sp_m_deviation (xs (p + 1)) (xs (p + 2)) (1 : Int32) σ1).2)) = k) (hout : k = 0 → (lg_cmp (((sp_m_deviation (xs (p + 1)) (xs (p + 2)) (1 : Int32) σ1).2).2 65 0) (((sp_m_deviation (xs (p + 1)) (xs (p + 2)) (1 : Int32) σ1).1).toInt64)) = (0 : Int32)) (r : mmR) (hk : Ev N L xs (132, 773, [(0, .ref 1000), (1, .ref 0), (2, .ref 42), (3, .ref 65), (4, .int (Int32.ofNat p))], [], e + 3, (sp_m_deviation (xs (p + 1)) (xs (p + 2)) (1 : Int32) σ1).2) r) : Ev N L xs (132, 468, [(0, .ref 1000), (1, .ref 0), (2, .ref 42), (3, .ref 65), (4, .int (Int32.ofNat p))], [], e, σ) (r) := by
  refine ev_aload_n d_132_468 rfl ?_
  refine ev_aload_n d_132_469 rfl ?_
  refine ev_iload d_132_470 rfl ?_
  refine ev_iconst d_132_472 ci_1 ?_
  refine ev_iadd (v := (Int32.ofNat (p + 1))) d_132_473 (li_add p 1) ?_
  refine ev_sald (i := (p + 1)) d_132_474 (li_in hp hL (by decide)) (li_nat hp hL (by decide)) ?_
  refine ev_aload_n d_132_475 rfl ?_
  refine ev_iload d_132_476 rfl ?_
  refine ev_iconst d_132_478 ci_2 ?_
  refine ev_iadd (v := (Int32.ofNat (p + 2))) d_132_479 (li_add p 2) ?_
  refine ev_sald (i := (p + 2)) d_132_480 (li_in hp hL (by decide)) (li_nat hp hL (by decide)) ?_
  refine ev_aload_n d_132_481 rfl ?_
  refine ev_iload d_132_482 rfl ?_
  refine ev_iconst d_132_484 ci_3 ?_
  refine ev_iadd (v := (Int32.ofNat (p + 3))) d_132_485 (li_add p 3) ?_
  refine ev_sald (i := (p + 3)) d_132_486 (li_in hp hL (by decide)) (li_nat hp hL (by decide)) ?_
  refine ev_ifF (tgt := 494) d_132_487 rfl hb ?_
  refine ev_iconst d_132_490 ci_1 ?_
  refine ev_goto (tgt := 495) d_132_491 rfl ?_
  refine ev_aload_n d_132_495 rfl ?_
  refine ev_csI (As := [.ref 0, .int (xs (p + 1)), .int (xs (p + 2)), .int (1 : Int32), .ref 65]) (t := []) (e' := (e + 3)) d_132_496 ml_9_113 rfl rfl rfl rfl rfl (le_e rfl rfl (by omega)) rfl rfl hw ?_
  refine ev_istore (lv' := [(5, .int k), (0, .ref 1000), (1, .ref 0), (2, .ref 42), (3, .ref 65), (4, .int (Int32.ofNat p))]) d_132_499 (by decide) rfl ?_
  refine ev_aload_n d_132_501 rfl ?_
  refine ev_aload_n d_132_502 rfl ?_
  refine ev_iload d_132_503 rfl ?_
  refine ev_iconst d_132_505 ci_1 ?_
  refine ev_iadd (v := (Int32.ofNat (p + 1))) d_132_506 (li_add p 1) ?_
  refine ev_sald (i := (p + 1)) d_132_507 (li_in hp hL (by decide)) (li_nat hp hL (by decide)) ?_
  refine ev_aload_n d_132_508 rfl ?_
  refine ev_iload d_132_509 rfl ?_
  refine ev_iconst d_132_511 ci_2 ?_
  refine ev_iadd (v := (Int32.ofNat (p + 2))) d_132_512 (li_add p 2) ?_
  refine ev_sald (i := (p + 2)) d_132_513 (li_in hp hL (by decide)) (li_nat hp hL (by decide)) ?_
  refine ev_aload_n d_132_514 rfl ?_
  refine ev_iload d_132_515 rfl ?_
  refine ev_iconst d_132_517 ci_3 ?_
  refine ev_iadd (v := (Int32.ofNat (p + 3))) d_132_518 (li_add p 3) ?_
  refine ev_sald (i := (p + 3)) d_132_519 (li_in hp hL (by decide)) (li_nat hp hL (by decide)) ?_
  refine ev_ifF (tgt := 527) d_132_520 rfl hb ?_
  refine ev_iconst d_132_523 ci_1 ?_
  refine ev_goto (tgt := 528) d_132_524 rfl ?_
  refine ev_cvI (As := [.int (xs (p + 1)), .int (xs (p + 2)), .int (1 : Int32)]) (t := []) (e' := (e + 3)) d_132_528 ml_9_116 rfl rfl rfl rfl rfl (le_e rfl rfl (by omega)) rfl (ltk6 (by decide) hN) rfl rfl rfl (ev_m_deviation (Nat.le_of_succ_le hN) (xs (p + 1)) (xs (p + 2)) (1 : Int32) σ1) ?_
  refine ev_istore (lv' := [(6, .int ((sp_m_deviation (xs (p + 1)) (xs (p + 2)) (1 : Int32) σ1).1)), (5, .int k), (0, .ref 1000), (1, .ref 0), (2, .ref 42), (3, .ref 65), (4, .int (Int32.ofNat p))]) d_132_531 (by decide) rfl ?_
  refine ev_aload_n d_132_533 rfl ?_
  refine ev_cvI (As := []) (t := []) (e' := (e + 3)) d_132_534 ml_9_117 rfl rfl rfl rfl rfl (le_e rfl rfl (by omega)) rfl (ltk6 (by decide) hN) rfl rfl rfl (ev_m_thrown (Nat.le_of_succ_le hN) ((sp_m_deviation (xs (p + 1)) (xs (p + 2)) (1 : Int32) σ1).2)) ?_
  refine ev_iload d_132_537 rfl ?_
  refine ev_icmpT (tgt := 544) d_132_539 rfl heq ?_
  refine ev_iload d_132_544 rfl ?_
  refine ev_if (tgt := 561) d_132_546 rfl (fun _h546 => ?_) (fun _h546 => ?_)
  · refine ev_goto (tgt := 773) d_132_561 rfl ?_
    refine ev_sub (lv' := [(0, .ref 1000), (1, .ref 0), (2, .ref 42), (3, .ref 65), (4, .int (Int32.ofNat p))]) (by simp) ?_
    exact hk
  · refine ev_aload_n d_132_549 rfl ?_
    refine ev_iconst d_132_550 ci_0 ?_
    refine ev_laload (i := 0) d_132_551 (ltk6 (by decide) hN) rfl (vpi (by decide)) (by decide) ?_
    refine ev_iload d_132_552 rfl ?_
    refine ev_i2l (v := ((sp_m_deviation (xs (p + 1)) (xs (p + 2)) (1 : Int32) σ1).1).toInt64) d_132_554 rfl ?_
    refine ev_lcmp d_132_555 ?_
    refine ev_ifT (tgt := 561) d_132_556 rfl (hout (Classical.not_not.mp _h546)) ?_
    refine ev_goto (tgt := 773) d_132_561 rfl ?_
    refine ev_sub (lv' := [(0, .ref 1000), (1, .ref 0), (2, .ref 42), (3, .ref 65), (4, .int (Int32.ofNat p))]) (by simp) ?_
    exact hk
theorem law_10 (hN : 66 ≤ N) (p e : Nat) (hp : p + 6 ≤ L) (hL : L ≤ 3073) (he : e + 24 ≤ 20000) (σ σ1 : mmS) (k : Int32) (hw : Ev N L xs (86, 0, lv_args 0 [.ref 0, .int (xs (p + 1)), .int (xs (p + 2)), .ref 65], [], 0, σ) (mmSI (k, σ1))) (r : mmR) (hk : Ev N L xs (132, 773, [(0, .ref 1000), (1, .ref 0), (2, .ref 42), (3, .ref 65), (4, .int (Int32.ofNat p))], [], e + 3, (sp_m_got (xs (p + 1)) (xs (p + 2)) σ1).2) r) : Ev N L xs (132, 564, [(0, .ref 1000), (1, .ref 0), (2, .ref 42), (3, .ref 65), (4, .int (Int32.ofNat p))], [], e, σ) (r) := by
  refine ev_aload_n d_132_564 rfl ?_
  refine ev_aload_n d_132_565 rfl ?_
  refine ev_iload d_132_566 rfl ?_
  refine ev_iconst d_132_568 ci_1 ?_
  refine ev_iadd (v := (Int32.ofNat (p + 1))) d_132_569 (li_add p 1) ?_
  refine ev_sald (i := (p + 1)) d_132_570 (li_in hp hL (by decide)) (li_nat hp hL (by decide)) ?_
  refine ev_aload_n d_132_571 rfl ?_
  refine ev_iload d_132_572 rfl ?_
  refine ev_iconst d_132_574 ci_2 ?_
  refine ev_iadd (v := (Int32.ofNat (p + 2))) d_132_575 (li_add p 2) ?_
  refine ev_sald (i := (p + 2)) d_132_576 (li_in hp hL (by decide)) (li_nat hp hL (by decide)) ?_
  refine ev_aload_n d_132_577 rfl ?_
  refine ev_csI (As := [.ref 0, .int (xs (p + 1)), .int (xs (p + 2)), .ref 65]) (t := []) (e' := (e + 3)) d_132_578 ml_9_121 rfl rfl rfl rfl rfl (le_e rfl rfl (by omega)) rfl rfl hw ?_
  refine ev_istore (lv' := [(5, .int k), (0, .ref 1000), (1, .ref 0), (2, .ref 42), (3, .ref 65), (4, .int (Int32.ofNat p))]) d_132_581 (by decide) rfl ?_
  refine ev_aload_n d_132_583 rfl ?_
  refine ev_aload_n d_132_584 rfl ?_
  refine ev_iload d_132_585 rfl ?_
  refine ev_iconst d_132_587 ci_1 ?_
  refine ev_iadd (v := (Int32.ofNat (p + 1))) d_132_588 (li_add p 1) ?_
  refine ev_sald (i := (p + 1)) d_132_589 (li_in hp hL (by decide)) (li_nat hp hL (by decide)) ?_
  refine ev_aload_n d_132_590 rfl ?_
  refine ev_iload d_132_591 rfl ?_
  refine ev_iconst d_132_593 ci_2 ?_
  refine ev_iadd (v := (Int32.ofNat (p + 2))) d_132_594 (li_add p 2) ?_
  refine ev_sald (i := (p + 2)) d_132_595 (li_in hp hL (by decide)) (li_nat hp hL (by decide)) ?_
  refine ev_cvI (As := [.int (xs (p + 1)), .int (xs (p + 2))]) (t := []) (e' := (e + 3)) d_132_596 ml_9_123 rfl rfl rfl rfl rfl (le_e rfl rfl (by omega)) rfl (ltk6 (by decide) hN) rfl rfl rfl (ev_m_got (Nat.le_of_succ_le hN) (xs (p + 1)) (xs (p + 2)) σ1) ?_
  refine ev_istore (lv' := [(6, .int ((sp_m_got (xs (p + 1)) (xs (p + 2)) σ1).1)), (5, .int k), (0, .ref 1000), (1, .ref 0), (2, .ref 42), (3, .ref 65), (4, .int (Int32.ofNat p))]) d_132_599 (by decide) rfl ?_
  refine ev_goto (tgt := 773) d_132_601 rfl ?_
  refine ev_sub (lv' := [(0, .ref 1000), (1, .ref 0), (2, .ref 42), (3, .ref 65), (4, .int (Int32.ofNat p))]) (by simp) ?_
  exact hk
theorem law_11 (hN : 66 ≤ N) (p e : Nat) (hp : p + 6 ≤ L) (hL : L ≤ 3073) (he : e + 24 ≤ 20000) (σ : mmS) (r : mmR) (hk : Ev N L xs (132, 773, [(0, .ref 1000), (1, .ref 0), (2, .ref 42), (3, .ref 65), (4, .int (Int32.ofNat p))], [], e, (sp_m_frames σ).2) r) : Ev N L xs (132, 604, [(0, .ref 1000), (1, .ref 0), (2, .ref 42), (3, .ref 65), (4, .int (Int32.ofNat p))], [], e, σ) (r) := by
  refine ev_aload_n d_132_604 rfl ?_
  refine ev_cvI (As := []) (t := []) (e' := e) d_132_605 ml_9_124 rfl rfl rfl rfl rfl (le_e rfl rfl (by omega)) rfl (ltk6 (by decide) hN) rfl rfl rfl (ev_b_frames (Nat.le_of_succ_le hN) σ) ?_
  refine ev_pop d_132_608 rfl ?_
  refine ev_aload_n d_132_609 rfl ?_
  refine ev_cvI (As := []) (t := []) (e' := e) d_132_610 ml_9_127 rfl rfl rfl rfl rfl (le_e rfl rfl (by omega)) rfl (ltk6 (by decide) hN) rfl rfl rfl (ev_m_frames (Nat.le_of_succ_le hN) σ) ?_
  refine ev_pop d_132_613 rfl ?_
  refine ev_goto (tgt := 773) d_132_614 rfl ?_
  exact hk
theorem law_12 (hN : 66 ≤ N) (p e : Nat) (hp : p + 6 ≤ L) (hL : L ≤ 3073) (he : e + 24 ≤ 20000) (σ σ1 : mmS) (k : Int32) (hw : Ev N L xs (88, 0, lv_args 0 [.ref 0, .ref 65], [], 0, σ) (mmSI (k, σ1))) (r : mmR) (hk : Ev N L xs (132, 773, [(0, .ref 1000), (1, .ref 0), (2, .ref 42), (3, .ref 65), (4, .int (Int32.ofNat p))], [], e + 1, (sp_m_last σ1).2) r) : Ev N L xs (132, 617, [(0, .ref 1000), (1, .ref 0), (2, .ref 42), (3, .ref 65), (4, .int (Int32.ofNat p))], [], e, σ) (r) := by
  refine ev_aload_n d_132_617 rfl ?_
  refine ev_aload_n d_132_618 rfl ?_
  refine ev_csI (As := [.ref 0, .ref 65]) (t := []) (e' := (e + 1)) d_132_619 ml_9_128 rfl rfl rfl rfl rfl (le_e rfl rfl (by omega)) rfl rfl hw ?_
  refine ev_istore (lv' := [(5, .int k), (0, .ref 1000), (1, .ref 0), (2, .ref 42), (3, .ref 65), (4, .int (Int32.ofNat p))]) d_132_622 (by decide) rfl ?_
  refine ev_aload_n d_132_624 rfl ?_
  refine ev_cvJ (As := []) (t := []) (e' := (e + 1)) d_132_625 ml_9_131 rfl rfl rfl rfl rfl (le_e rfl rfl (by omega)) rfl (ltk6 (by decide) hN) rfl rfl rfl (ev_m_last (Nat.le_of_succ_le hN) σ1) ?_
  refine ev_lstore (lv' := [(6, .long ((sp_m_last σ1).1)), (5, .int k), (0, .ref 1000), (1, .ref 0), (2, .ref 42), (3, .ref 65), (4, .int (Int32.ofNat p))]) d_132_628 (by decide) rfl ?_
  refine ev_goto (tgt := 773) d_132_630 rfl ?_
  refine ev_sub (lv' := [(0, .ref 1000), (1, .ref 0), (2, .ref 42), (3, .ref 65), (4, .int (Int32.ofNat p))]) (by simp) ?_
  exact hk
theorem law_13f (hN : 66 ≤ N) (p e : Nat) (hp : p + 6 ≤ L) (hL : L ≤ 3073) (he : e + 24 ≤ 20000) (σ σ1 : mmS) (k : Int32) (hb : (xs (p + 3)) = (0 : Int32)) (hw : Ev N L xs (90, 0, lv_args 0 [.ref 0, .int (xs (p + 1)), .int (xs (p + 2)), .int (0 : Int32), .int (xs (p + 4)), .ref 65], [], 0, σ) (mmSI (k, σ1))) (r : mmR) (hk : Ev N L xs (132, 773, [(0, .ref 1000), (1, .ref 0), (2, .ref 42), (3, .ref 65), (4, .int (Int32.ofNat p))], [], e + 3, (sp_m_encode (xs (p + 1)) (xs (p + 2)) (0 : Int32) (xs (p + 4)) σ1).2) r) : Ev N L xs (132, 633, [(0, .ref 1000), (1, .ref 0), (2, .ref 42), (3, .ref 65), (4, .int (Int32.ofNat p))], [], e, σ) (r) := by
  refine ev_aload_n d_132_633 rfl ?_
  refine ev_aload_n d_132_634 rfl ?_
  refine ev_iload d_132_635 rfl ?_
  refine ev_iconst d_132_637 ci_1 ?_
  refine ev_iadd (v := (Int32.ofNat (p + 1))) d_132_638 (li_add p 1) ?_
  refine ev_sald (i := (p + 1)) d_132_639 (li_in hp hL (by decide)) (li_nat hp hL (by decide)) ?_
  refine ev_aload_n d_132_640 rfl ?_
  refine ev_iload d_132_641 rfl ?_
  refine ev_iconst d_132_643 ci_2 ?_
  refine ev_iadd (v := (Int32.ofNat (p + 2))) d_132_644 (li_add p 2) ?_
  refine ev_sald (i := (p + 2)) d_132_645 (li_in hp hL (by decide)) (li_nat hp hL (by decide)) ?_
  refine ev_aload_n d_132_646 rfl ?_
  refine ev_iload d_132_647 rfl ?_
  refine ev_iconst d_132_649 ci_3 ?_
  refine ev_iadd (v := (Int32.ofNat (p + 3))) d_132_650 (li_add p 3) ?_
  refine ev_sald (i := (p + 3)) d_132_651 (li_in hp hL (by decide)) (li_nat hp hL (by decide)) ?_
  refine ev_ifT (tgt := 659) d_132_652 rfl hb ?_
  refine ev_iconst d_132_659 ci_0 ?_
  refine ev_aload_n d_132_660 rfl ?_
  refine ev_iload d_132_661 rfl ?_
  refine ev_iconst d_132_663 ci_4 ?_
  refine ev_iadd (v := (Int32.ofNat (p + 4))) d_132_664 (li_add p 4) ?_
  refine ev_sald (i := (p + 4)) d_132_665 (li_in hp hL (by decide)) (li_nat hp hL (by decide)) ?_
  refine ev_aload_n d_132_666 rfl ?_
  refine ev_csI (As := [.ref 0, .int (xs (p + 1)), .int (xs (p + 2)), .int (0 : Int32), .int (xs (p + 4)), .ref 65]) (t := []) (e' := (e + 3)) d_132_667 ml_9_132 rfl rfl rfl rfl rfl (le_e rfl rfl (by omega)) rfl rfl hw ?_
  refine ev_istore (lv' := [(5, .int k), (0, .ref 1000), (1, .ref 0), (2, .ref 42), (3, .ref 65), (4, .int (Int32.ofNat p))]) d_132_670 (by decide) rfl ?_
  refine ev_aload_n d_132_672 rfl ?_
  refine ev_aload_n d_132_673 rfl ?_
  refine ev_iload d_132_674 rfl ?_
  refine ev_iconst d_132_676 ci_1 ?_
  refine ev_iadd (v := (Int32.ofNat (p + 1))) d_132_677 (li_add p 1) ?_
  refine ev_sald (i := (p + 1)) d_132_678 (li_in hp hL (by decide)) (li_nat hp hL (by decide)) ?_
  refine ev_aload_n d_132_679 rfl ?_
  refine ev_iload d_132_680 rfl ?_
  refine ev_iconst d_132_682 ci_2 ?_
  refine ev_iadd (v := (Int32.ofNat (p + 2))) d_132_683 (li_add p 2) ?_
  refine ev_sald (i := (p + 2)) d_132_684 (li_in hp hL (by decide)) (li_nat hp hL (by decide)) ?_
  refine ev_aload_n d_132_685 rfl ?_
  refine ev_iload d_132_686 rfl ?_
  refine ev_iconst d_132_688 ci_3 ?_
  refine ev_iadd (v := (Int32.ofNat (p + 3))) d_132_689 (li_add p 3) ?_
  refine ev_sald (i := (p + 3)) d_132_690 (li_in hp hL (by decide)) (li_nat hp hL (by decide)) ?_
  refine ev_ifT (tgt := 698) d_132_691 rfl hb ?_
  refine ev_iconst d_132_698 ci_0 ?_
  refine ev_aload_n d_132_699 rfl ?_
  refine ev_iload d_132_700 rfl ?_
  refine ev_iconst d_132_702 ci_4 ?_
  refine ev_iadd (v := (Int32.ofNat (p + 4))) d_132_703 (li_add p 4) ?_
  refine ev_sald (i := (p + 4)) d_132_704 (li_in hp hL (by decide)) (li_nat hp hL (by decide)) ?_
  refine ev_cvJ (As := [.int (xs (p + 1)), .int (xs (p + 2)), .int (0 : Int32), .int (xs (p + 4))]) (t := []) (e' := (e + 3)) d_132_705 ml_9_135 rfl rfl rfl rfl rfl (le_e rfl rfl (by omega)) rfl (ltk6 (by decide) hN) rfl rfl rfl (ev_m_encode (Nat.le_of_succ_le hN) (xs (p + 1)) (xs (p + 2)) (0 : Int32) (xs (p + 4)) σ1) ?_
  refine ev_lstore (lv' := [(6, .long ((sp_m_encode (xs (p + 1)) (xs (p + 2)) (0 : Int32) (xs (p + 4)) σ1).1)), (5, .int k), (0, .ref 1000), (1, .ref 0), (2, .ref 42), (3, .ref 65), (4, .int (Int32.ofNat p))]) d_132_708 (by decide) rfl ?_
  refine ev_goto (tgt := 773) d_132_710 rfl ?_
  refine ev_sub (lv' := [(0, .ref 1000), (1, .ref 0), (2, .ref 42), (3, .ref 65), (4, .int (Int32.ofNat p))]) (by simp) ?_
  exact hk
theorem law_13t (hN : 66 ≤ N) (p e : Nat) (hp : p + 6 ≤ L) (hL : L ≤ 3073) (he : e + 24 ≤ 20000) (σ σ1 : mmS) (k : Int32) (hb : ¬ ((xs (p + 3)) = (0 : Int32))) (hw : Ev N L xs (90, 0, lv_args 0 [.ref 0, .int (xs (p + 1)), .int (xs (p + 2)), .int (1 : Int32), .int (xs (p + 4)), .ref 65], [], 0, σ) (mmSI (k, σ1))) (r : mmR) (hk : Ev N L xs (132, 773, [(0, .ref 1000), (1, .ref 0), (2, .ref 42), (3, .ref 65), (4, .int (Int32.ofNat p))], [], e + 3, (sp_m_encode (xs (p + 1)) (xs (p + 2)) (1 : Int32) (xs (p + 4)) σ1).2) r) : Ev N L xs (132, 633, [(0, .ref 1000), (1, .ref 0), (2, .ref 42), (3, .ref 65), (4, .int (Int32.ofNat p))], [], e, σ) (r) := by
  refine ev_aload_n d_132_633 rfl ?_
  refine ev_aload_n d_132_634 rfl ?_
  refine ev_iload d_132_635 rfl ?_
  refine ev_iconst d_132_637 ci_1 ?_
  refine ev_iadd (v := (Int32.ofNat (p + 1))) d_132_638 (li_add p 1) ?_
  refine ev_sald (i := (p + 1)) d_132_639 (li_in hp hL (by decide)) (li_nat hp hL (by decide)) ?_
  refine ev_aload_n d_132_640 rfl ?_
  refine ev_iload d_132_641 rfl ?_
  refine ev_iconst d_132_643 ci_2 ?_
  refine ev_iadd (v := (Int32.ofNat (p + 2))) d_132_644 (li_add p 2) ?_
  refine ev_sald (i := (p + 2)) d_132_645 (li_in hp hL (by decide)) (li_nat hp hL (by decide)) ?_
  refine ev_aload_n d_132_646 rfl ?_
  refine ev_iload d_132_647 rfl ?_
  refine ev_iconst d_132_649 ci_3 ?_
  refine ev_iadd (v := (Int32.ofNat (p + 3))) d_132_650 (li_add p 3) ?_
  refine ev_sald (i := (p + 3)) d_132_651 (li_in hp hL (by decide)) (li_nat hp hL (by decide)) ?_
  refine ev_ifF (tgt := 659) d_132_652 rfl hb ?_
  refine ev_iconst d_132_655 ci_1 ?_
  refine ev_goto (tgt := 660) d_132_656 rfl ?_
  refine ev_aload_n d_132_660 rfl ?_
  refine ev_iload d_132_661 rfl ?_
  refine ev_iconst d_132_663 ci_4 ?_
  refine ev_iadd (v := (Int32.ofNat (p + 4))) d_132_664 (li_add p 4) ?_
  refine ev_sald (i := (p + 4)) d_132_665 (li_in hp hL (by decide)) (li_nat hp hL (by decide)) ?_
  refine ev_aload_n d_132_666 rfl ?_
  refine ev_csI (As := [.ref 0, .int (xs (p + 1)), .int (xs (p + 2)), .int (1 : Int32), .int (xs (p + 4)), .ref 65]) (t := []) (e' := (e + 3)) d_132_667 ml_9_132 rfl rfl rfl rfl rfl (le_e rfl rfl (by omega)) rfl rfl hw ?_
  refine ev_istore (lv' := [(5, .int k), (0, .ref 1000), (1, .ref 0), (2, .ref 42), (3, .ref 65), (4, .int (Int32.ofNat p))]) d_132_670 (by decide) rfl ?_
  refine ev_aload_n d_132_672 rfl ?_
  refine ev_aload_n d_132_673 rfl ?_
  refine ev_iload d_132_674 rfl ?_
  refine ev_iconst d_132_676 ci_1 ?_
  refine ev_iadd (v := (Int32.ofNat (p + 1))) d_132_677 (li_add p 1) ?_
  refine ev_sald (i := (p + 1)) d_132_678 (li_in hp hL (by decide)) (li_nat hp hL (by decide)) ?_
  refine ev_aload_n d_132_679 rfl ?_
  refine ev_iload d_132_680 rfl ?_
  refine ev_iconst d_132_682 ci_2 ?_
  refine ev_iadd (v := (Int32.ofNat (p + 2))) d_132_683 (li_add p 2) ?_
  refine ev_sald (i := (p + 2)) d_132_684 (li_in hp hL (by decide)) (li_nat hp hL (by decide)) ?_
  refine ev_aload_n d_132_685 rfl ?_
  refine ev_iload d_132_686 rfl ?_
  refine ev_iconst d_132_688 ci_3 ?_
  refine ev_iadd (v := (Int32.ofNat (p + 3))) d_132_689 (li_add p 3) ?_
  refine ev_sald (i := (p + 3)) d_132_690 (li_in hp hL (by decide)) (li_nat hp hL (by decide)) ?_
  refine ev_ifF (tgt := 698) d_132_691 rfl hb ?_
  refine ev_iconst d_132_694 ci_1 ?_
  refine ev_goto (tgt := 699) d_132_695 rfl ?_
  refine ev_aload_n d_132_699 rfl ?_
  refine ev_iload d_132_700 rfl ?_
  refine ev_iconst d_132_702 ci_4 ?_
  refine ev_iadd (v := (Int32.ofNat (p + 4))) d_132_703 (li_add p 4) ?_
  refine ev_sald (i := (p + 4)) d_132_704 (li_in hp hL (by decide)) (li_nat hp hL (by decide)) ?_
  refine ev_cvJ (As := [.int (xs (p + 1)), .int (xs (p + 2)), .int (1 : Int32), .int (xs (p + 4))]) (t := []) (e' := (e + 3)) d_132_705 ml_9_135 rfl rfl rfl rfl rfl (le_e rfl rfl (by omega)) rfl (ltk6 (by decide) hN) rfl rfl rfl (ev_m_encode (Nat.le_of_succ_le hN) (xs (p + 1)) (xs (p + 2)) (1 : Int32) (xs (p + 4)) σ1) ?_
  refine ev_lstore (lv' := [(6, .long ((sp_m_encode (xs (p + 1)) (xs (p + 2)) (1 : Int32) (xs (p + 4)) σ1).1)), (5, .int k), (0, .ref 1000), (1, .ref 0), (2, .ref 42), (3, .ref 65), (4, .int (Int32.ofNat p))]) d_132_708 (by decide) rfl ?_
  refine ev_goto (tgt := 773) d_132_710 rfl ?_
  refine ev_sub (lv' := [(0, .ref 1000), (1, .ref 0), (2, .ref 42), (3, .ref 65), (4, .int (Int32.ofNat p))]) (by simp) ?_
  exact hk
theorem law_14 (hN : 66 ≤ N) (p e : Nat) (hp : p + 6 ≤ L) (hL : L ≤ 3073) (he : e + 24 ≤ 20000) (σ σ1 : mmS) (k : Int32) (hw : Ev N L xs (92, 0, lv_args 0 [.ref 0, .long ((((xs (p + 1)).toInt64) <<< ((32 : Int32).toInt64 &&& 63)) ||| (((xs (p + 2)).toInt64) &&& (4294967295 : Int64))), .ref 65], [], 0, σ) (mmSI (k, σ1))) (r : mmR) (hk : Ev N L xs (132, 773, [(0, .ref 1000), (1, .ref 0), (2, .ref 42), (3, .ref 65), (4, .int (Int32.ofNat p))], [], e + 2, (sp_m_decode ((((xs (p + 1)).toInt64) <<< ((32 : Int32).toInt64 &&& 63)) ||| (((xs (p + 2)).toInt64) &&& (4294967295 : Int64))) σ1).2) r) : Ev N L xs (132, 713, [(0, .ref 1000), (1, .ref 0), (2, .ref 42), (3, .ref 65), (4, .int (Int32.ofNat p))], [], e, σ) (r) := by
  refine ev_aload_n d_132_713 rfl ?_
  refine ev_aload_n d_132_714 rfl ?_
  refine ev_iload d_132_715 rfl ?_
  refine ev_iconst d_132_717 ci_1 ?_
  refine ev_iadd (v := (Int32.ofNat (p + 1))) d_132_718 (li_add p 1) ?_
  refine ev_sald (i := (p + 1)) d_132_719 (li_in hp hL (by decide)) (li_nat hp hL (by decide)) ?_
  refine ev_i2l (v := (xs (p + 1)).toInt64) d_132_720 rfl ?_
  refine ev_bipush d_132_721 cb_32 ?_
  refine ev_lshl (v := (((xs (p + 1)).toInt64) <<< ((32 : Int32).toInt64 &&& 63))) d_132_723 rfl ?_
  refine ev_aload_n d_132_724 rfl ?_
  refine ev_iload d_132_725 rfl ?_
  refine ev_iconst d_132_727 ci_2 ?_
  refine ev_iadd (v := (Int32.ofNat (p + 2))) d_132_728 (li_add p 2) ?_
  refine ev_sald (i := (p + 2)) d_132_729 (li_in hp hL (by decide)) (li_nat hp hL (by decide)) ?_
  refine ev_i2l (v := (xs (p + 2)).toInt64) d_132_730 rfl ?_
  refine ev_ldc2 d_132_731 kl_9_97 ?_
  refine ev_land (v := (((xs (p + 2)).toInt64) &&& (4294967295 : Int64))) d_132_734 rfl ?_
  refine ev_lor (v := ((((xs (p + 1)).toInt64) <<< ((32 : Int32).toInt64 &&& 63)) ||| (((xs (p + 2)).toInt64) &&& (4294967295 : Int64)))) d_132_735 rfl ?_
  refine ev_aload_n d_132_736 rfl ?_
  refine ev_csI (As := [.ref 0, .long ((((xs (p + 1)).toInt64) <<< ((32 : Int32).toInt64 &&& 63)) ||| (((xs (p + 2)).toInt64) &&& (4294967295 : Int64))), .ref 65]) (t := []) (e' := (e + 2)) d_132_737 ml_9_136 rfl rfl rfl rfl rfl (le_e rfl rfl (by omega)) rfl rfl hw ?_
  refine ev_istore (lv' := [(5, .int k), (0, .ref 1000), (1, .ref 0), (2, .ref 42), (3, .ref 65), (4, .int (Int32.ofNat p))]) d_132_740 (by decide) rfl ?_
  refine ev_aload_n d_132_742 rfl ?_
  refine ev_aload_n d_132_743 rfl ?_
  refine ev_iload d_132_744 rfl ?_
  refine ev_iconst d_132_746 ci_1 ?_
  refine ev_iadd (v := (Int32.ofNat (p + 1))) d_132_747 (li_add p 1) ?_
  refine ev_sald (i := (p + 1)) d_132_748 (li_in hp hL (by decide)) (li_nat hp hL (by decide)) ?_
  refine ev_i2l (v := (xs (p + 1)).toInt64) d_132_749 rfl ?_
  refine ev_bipush d_132_750 cb_32 ?_
  refine ev_lshl (v := (((xs (p + 1)).toInt64) <<< ((32 : Int32).toInt64 &&& 63))) d_132_752 rfl ?_
  refine ev_aload_n d_132_753 rfl ?_
  refine ev_iload d_132_754 rfl ?_
  refine ev_iconst d_132_756 ci_2 ?_
  refine ev_iadd (v := (Int32.ofNat (p + 2))) d_132_757 (li_add p 2) ?_
  refine ev_sald (i := (p + 2)) d_132_758 (li_in hp hL (by decide)) (li_nat hp hL (by decide)) ?_
  refine ev_i2l (v := (xs (p + 2)).toInt64) d_132_759 rfl ?_
  refine ev_ldc2 d_132_760 kl_9_97 ?_
  refine ev_land (v := (((xs (p + 2)).toInt64) &&& (4294967295 : Int64))) d_132_763 rfl ?_
  refine ev_lor (v := ((((xs (p + 1)).toInt64) <<< ((32 : Int32).toInt64 &&& 63)) ||| (((xs (p + 2)).toInt64) &&& (4294967295 : Int64)))) d_132_764 rfl ?_
  refine ev_cvI (As := [.long ((((xs (p + 1)).toInt64) <<< ((32 : Int32).toInt64 &&& 63)) ||| (((xs (p + 2)).toInt64) &&& (4294967295 : Int64)))]) (t := []) (e' := (e + 2)) d_132_765 ml_9_139 rfl rfl rfl rfl rfl (le_e rfl rfl (by omega)) rfl (ltk6 (by decide) hN) rfl rfl rfl (ev_m_decode (Nat.le_of_succ_le hN) ((((xs (p + 1)).toInt64) <<< ((32 : Int32).toInt64 &&& 63)) ||| (((xs (p + 2)).toInt64) &&& (4294967295 : Int64))) σ1) ?_
  refine ev_istore (lv' := [(6, .int ((sp_m_decode ((((xs (p + 1)).toInt64) <<< ((32 : Int32).toInt64 &&& 63)) ||| (((xs (p + 2)).toInt64) &&& (4294967295 : Int64))) σ1).1)), (5, .int k), (0, .ref 1000), (1, .ref 0), (2, .ref 42), (3, .ref 65), (4, .int (Int32.ofNat p))]) d_132_768 (by decide) rfl ?_
  refine ev_goto (tgt := 773) d_132_770 rfl ?_
  refine ev_sub (lv' := [(0, .ref 1000), (1, .ref 0), (2, .ref 42), (3, .ref 65), (4, .int (Int32.ofNat p))]) (by simp) ?_
  exact hk
theorem law_end (p e : Nat) (hp : p < 3080) (hL : L ≤ 3073) (hq : L < p + 6) (σ : mmS) : Ev N L xs (132, 33, [(0, .ref 1000), (1, .ref 0), (2, .ref 42), (3, .ref 65), (4, .int (Int32.ofNat p))], [], e, σ) (mmPI σ 1) := by
  refine ev_iload d_132_33 rfl ?_
  refine ev_aload_n d_132_35 rfl ?_
  refine ev_slen d_132_36 ?_
  refine ev_bipush d_132_37 cb_6 ?_
  refine ev_isub (v := ((Int32.ofNat L) - (6 : Int32))) d_132_39 rfl ?_
  refine ev_icmpT (tgt := 779) d_132_40 rfl ((li_hd hp hL).mpr hq) ?_
  refine ev_iconst d_132_779 ci_1 ?_
  exact ev_zret d_132_780 rfl (Or.inr rfl)
theorem law_to0 (p e : Nat) (hp : p + 6 ≤ L) (hL : L ≤ 3073) (σ : mmS) (r : mmR) (h : ((xs p) &&& (15 : Int32)) = 0) (hk : Ev N L xs (132, 124, [(0, .ref 1000), (1, .ref 0), (2, .ref 42), (3, .ref 65), (4, .int (Int32.ofNat p))], [], e, σ) r) : Ev N L xs (132, 33, [(0, .ref 1000), (1, .ref 0), (2, .ref 42), (3, .ref 65), (4, .int (Int32.ofNat p))], [], e, σ) (r) := by
  refine ev_iload d_132_33 rfl ?_
  refine ev_aload_n d_132_35 rfl ?_
  refine ev_slen d_132_36 ?_
  refine ev_bipush d_132_37 cb_6 ?_
  refine ev_isub (v := ((Int32.ofNat L) - (6 : Int32))) d_132_39 rfl ?_
  refine ev_icmpF (tgt := 779) d_132_40 rfl (fun z => absurd ((li_hd (by omega) hL).mp z) (by omega)) ?_
  refine ev_aload_n d_132_43 rfl ?_
  refine ev_iload d_132_44 rfl ?_
  refine ev_sald (i := p) d_132_46 (li_in (c := 0) hp hL (by decide)) (li_nat (c := 0) hp hL (by decide)) ?_
  refine ev_bipush d_132_47 cb_15 ?_
  refine ev_iand (v := ((xs p) &&& (15 : Int32))) d_132_49 rfl ?_
  refine ev_tabIn (off := 74) (tgt := 124) d_132_50 (by rw [h]; decide) (by rw [h]; decide) (by rw [h]; decide) rfl ?_
  exact hk
theorem law_to1 (p e : Nat) (hp : p + 6 ≤ L) (hL : L ≤ 3073) (σ : mmS) (r : mmR) (h : ((xs p) &&& (15 : Int32)) = 1) (hk : Ev N L xs (132, 149, [(0, .ref 1000), (1, .ref 0), (2, .ref 42), (3, .ref 65), (4, .int (Int32.ofNat p))], [], e, σ) r) : Ev N L xs (132, 33, [(0, .ref 1000), (1, .ref 0), (2, .ref 42), (3, .ref 65), (4, .int (Int32.ofNat p))], [], e, σ) (r) := by
  refine ev_iload d_132_33 rfl ?_
  refine ev_aload_n d_132_35 rfl ?_
  refine ev_slen d_132_36 ?_
  refine ev_bipush d_132_37 cb_6 ?_
  refine ev_isub (v := ((Int32.ofNat L) - (6 : Int32))) d_132_39 rfl ?_
  refine ev_icmpF (tgt := 779) d_132_40 rfl (fun z => absurd ((li_hd (by omega) hL).mp z) (by omega)) ?_
  refine ev_aload_n d_132_43 rfl ?_
  refine ev_iload d_132_44 rfl ?_
  refine ev_sald (i := p) d_132_46 (li_in (c := 0) hp hL (by decide)) (li_nat (c := 0) hp hL (by decide)) ?_
  refine ev_bipush d_132_47 cb_15 ?_
  refine ev_iand (v := ((xs p) &&& (15 : Int32))) d_132_49 rfl ?_
  refine ev_tabIn (off := 99) (tgt := 149) d_132_50 (by rw [h]; decide) (by rw [h]; decide) (by rw [h]; decide) rfl ?_
  exact hk
theorem law_to2 (p e : Nat) (hp : p + 6 ≤ L) (hL : L ≤ 3073) (σ : mmS) (r : mmR) (h : ((xs p) &&& (15 : Int32)) = 2) (hk : Ev N L xs (132, 177, [(0, .ref 1000), (1, .ref 0), (2, .ref 42), (3, .ref 65), (4, .int (Int32.ofNat p))], [], e, σ) r) : Ev N L xs (132, 33, [(0, .ref 1000), (1, .ref 0), (2, .ref 42), (3, .ref 65), (4, .int (Int32.ofNat p))], [], e, σ) (r) := by
  refine ev_iload d_132_33 rfl ?_
  refine ev_aload_n d_132_35 rfl ?_
  refine ev_slen d_132_36 ?_
  refine ev_bipush d_132_37 cb_6 ?_
  refine ev_isub (v := ((Int32.ofNat L) - (6 : Int32))) d_132_39 rfl ?_
  refine ev_icmpF (tgt := 779) d_132_40 rfl (fun z => absurd ((li_hd (by omega) hL).mp z) (by omega)) ?_
  refine ev_aload_n d_132_43 rfl ?_
  refine ev_iload d_132_44 rfl ?_
  refine ev_sald (i := p) d_132_46 (li_in (c := 0) hp hL (by decide)) (li_nat (c := 0) hp hL (by decide)) ?_
  refine ev_bipush d_132_47 cb_15 ?_
  refine ev_iand (v := ((xs p) &&& (15 : Int32))) d_132_49 rfl ?_
  refine ev_tabIn (off := 127) (tgt := 177) d_132_50 (by rw [h]; decide) (by rw [h]; decide) (by rw [h]; decide) rfl ?_
  exact hk
theorem law_to3 (p e : Nat) (hp : p + 6 ≤ L) (hL : L ≤ 3073) (σ : mmS) (r : mmR) (h : ((xs p) &&& (15 : Int32)) = 3) (hk : Ev N L xs (132, 205, [(0, .ref 1000), (1, .ref 0), (2, .ref 42), (3, .ref 65), (4, .int (Int32.ofNat p))], [], e, σ) r) : Ev N L xs (132, 33, [(0, .ref 1000), (1, .ref 0), (2, .ref 42), (3, .ref 65), (4, .int (Int32.ofNat p))], [], e, σ) (r) := by
  refine ev_iload d_132_33 rfl ?_
  refine ev_aload_n d_132_35 rfl ?_
  refine ev_slen d_132_36 ?_
  refine ev_bipush d_132_37 cb_6 ?_
  refine ev_isub (v := ((Int32.ofNat L) - (6 : Int32))) d_132_39 rfl ?_
  refine ev_icmpF (tgt := 779) d_132_40 rfl (fun z => absurd ((li_hd (by omega) hL).mp z) (by omega)) ?_
  refine ev_aload_n d_132_43 rfl ?_
  refine ev_iload d_132_44 rfl ?_
  refine ev_sald (i := p) d_132_46 (li_in (c := 0) hp hL (by decide)) (li_nat (c := 0) hp hL (by decide)) ?_
  refine ev_bipush d_132_47 cb_15 ?_
  refine ev_iand (v := ((xs p) &&& (15 : Int32))) d_132_49 rfl ?_
  refine ev_tabIn (off := 155) (tgt := 205) d_132_50 (by rw [h]; decide) (by rw [h]; decide) (by rw [h]; decide) rfl ?_
  exact hk
theorem law_to4 (p e : Nat) (hp : p + 6 ≤ L) (hL : L ≤ 3073) (σ : mmS) (r : mmR) (h : ((xs p) &&& (15 : Int32)) = 4) (hk : Ev N L xs (132, 242, [(0, .ref 1000), (1, .ref 0), (2, .ref 42), (3, .ref 65), (4, .int (Int32.ofNat p))], [], e, σ) r) : Ev N L xs (132, 33, [(0, .ref 1000), (1, .ref 0), (2, .ref 42), (3, .ref 65), (4, .int (Int32.ofNat p))], [], e, σ) (r) := by
  refine ev_iload d_132_33 rfl ?_
  refine ev_aload_n d_132_35 rfl ?_
  refine ev_slen d_132_36 ?_
  refine ev_bipush d_132_37 cb_6 ?_
  refine ev_isub (v := ((Int32.ofNat L) - (6 : Int32))) d_132_39 rfl ?_
  refine ev_icmpF (tgt := 779) d_132_40 rfl (fun z => absurd ((li_hd (by omega) hL).mp z) (by omega)) ?_
  refine ev_aload_n d_132_43 rfl ?_
  refine ev_iload d_132_44 rfl ?_
  refine ev_sald (i := p) d_132_46 (li_in (c := 0) hp hL (by decide)) (li_nat (c := 0) hp hL (by decide)) ?_
  refine ev_bipush d_132_47 cb_15 ?_
  refine ev_iand (v := ((xs p) &&& (15 : Int32))) d_132_49 rfl ?_
  refine ev_tabIn (off := 192) (tgt := 242) d_132_50 (by rw [h]; decide) (by rw [h]; decide) (by rw [h]; decide) rfl ?_
  exact hk
theorem law_to5 (p e : Nat) (hp : p + 6 ≤ L) (hL : L ≤ 3073) (σ : mmS) (r : mmR) (h : ((xs p) &&& (15 : Int32)) = 5) (hk : Ev N L xs (132, 315, [(0, .ref 1000), (1, .ref 0), (2, .ref 42), (3, .ref 65), (4, .int (Int32.ofNat p))], [], e, σ) r) : Ev N L xs (132, 33, [(0, .ref 1000), (1, .ref 0), (2, .ref 42), (3, .ref 65), (4, .int (Int32.ofNat p))], [], e, σ) (r) := by
  refine ev_iload d_132_33 rfl ?_
  refine ev_aload_n d_132_35 rfl ?_
  refine ev_slen d_132_36 ?_
  refine ev_bipush d_132_37 cb_6 ?_
  refine ev_isub (v := ((Int32.ofNat L) - (6 : Int32))) d_132_39 rfl ?_
  refine ev_icmpF (tgt := 779) d_132_40 rfl (fun z => absurd ((li_hd (by omega) hL).mp z) (by omega)) ?_
  refine ev_aload_n d_132_43 rfl ?_
  refine ev_iload d_132_44 rfl ?_
  refine ev_sald (i := p) d_132_46 (li_in (c := 0) hp hL (by decide)) (li_nat (c := 0) hp hL (by decide)) ?_
  refine ev_bipush d_132_47 cb_15 ?_
  refine ev_iand (v := ((xs p) &&& (15 : Int32))) d_132_49 rfl ?_
  refine ev_tabIn (off := 265) (tgt := 315) d_132_50 (by rw [h]; decide) (by rw [h]; decide) (by rw [h]; decide) rfl ?_
  exact hk
theorem law_to6 (p e : Nat) (hp : p + 6 ≤ L) (hL : L ≤ 3073) (σ : mmS) (r : mmR) (h : ((xs p) &&& (15 : Int32)) = 6) (hk : Ev N L xs (132, 372, [(0, .ref 1000), (1, .ref 0), (2, .ref 42), (3, .ref 65), (4, .int (Int32.ofNat p))], [], e, σ) r) : Ev N L xs (132, 33, [(0, .ref 1000), (1, .ref 0), (2, .ref 42), (3, .ref 65), (4, .int (Int32.ofNat p))], [], e, σ) (r) := by
  refine ev_iload d_132_33 rfl ?_
  refine ev_aload_n d_132_35 rfl ?_
  refine ev_slen d_132_36 ?_
  refine ev_bipush d_132_37 cb_6 ?_
  refine ev_isub (v := ((Int32.ofNat L) - (6 : Int32))) d_132_39 rfl ?_
  refine ev_icmpF (tgt := 779) d_132_40 rfl (fun z => absurd ((li_hd (by omega) hL).mp z) (by omega)) ?_
  refine ev_aload_n d_132_43 rfl ?_
  refine ev_iload d_132_44 rfl ?_
  refine ev_sald (i := p) d_132_46 (li_in (c := 0) hp hL (by decide)) (li_nat (c := 0) hp hL (by decide)) ?_
  refine ev_bipush d_132_47 cb_15 ?_
  refine ev_iand (v := ((xs p) &&& (15 : Int32))) d_132_49 rfl ?_
  refine ev_tabIn (off := 322) (tgt := 372) d_132_50 (by rw [h]; decide) (by rw [h]; decide) (by rw [h]; decide) rfl ?_
  exact hk
theorem law_to7 (p e : Nat) (hp : p + 6 ≤ L) (hL : L ≤ 3073) (σ : mmS) (r : mmR) (h : ((xs p) &&& (15 : Int32)) = 7) (hk : Ev N L xs (132, 400, [(0, .ref 1000), (1, .ref 0), (2, .ref 42), (3, .ref 65), (4, .int (Int32.ofNat p))], [], e, σ) r) : Ev N L xs (132, 33, [(0, .ref 1000), (1, .ref 0), (2, .ref 42), (3, .ref 65), (4, .int (Int32.ofNat p))], [], e, σ) (r) := by
  refine ev_iload d_132_33 rfl ?_
  refine ev_aload_n d_132_35 rfl ?_
  refine ev_slen d_132_36 ?_
  refine ev_bipush d_132_37 cb_6 ?_
  refine ev_isub (v := ((Int32.ofNat L) - (6 : Int32))) d_132_39 rfl ?_
  refine ev_icmpF (tgt := 779) d_132_40 rfl (fun z => absurd ((li_hd (by omega) hL).mp z) (by omega)) ?_
  refine ev_aload_n d_132_43 rfl ?_
  refine ev_iload d_132_44 rfl ?_
  refine ev_sald (i := p) d_132_46 (li_in (c := 0) hp hL (by decide)) (li_nat (c := 0) hp hL (by decide)) ?_
  refine ev_bipush d_132_47 cb_15 ?_
  refine ev_iand (v := ((xs p) &&& (15 : Int32))) d_132_49 rfl ?_
  refine ev_tabIn (off := 350) (tgt := 400) d_132_50 (by rw [h]; decide) (by rw [h]; decide) (by rw [h]; decide) rfl ?_
  exact hk
theorem law_to8 (p e : Nat) (hp : p + 6 ≤ L) (hL : L ≤ 3073) (σ : mmS) (r : mmR) (h : ((xs p) &&& (15 : Int32)) = 8) (hk : Ev N L xs (132, 428, [(0, .ref 1000), (1, .ref 0), (2, .ref 42), (3, .ref 65), (4, .int (Int32.ofNat p))], [], e, σ) r) : Ev N L xs (132, 33, [(0, .ref 1000), (1, .ref 0), (2, .ref 42), (3, .ref 65), (4, .int (Int32.ofNat p))], [], e, σ) (r) := by
  refine ev_iload d_132_33 rfl ?_
  refine ev_aload_n d_132_35 rfl ?_
  refine ev_slen d_132_36 ?_
  refine ev_bipush d_132_37 cb_6 ?_
  refine ev_isub (v := ((Int32.ofNat L) - (6 : Int32))) d_132_39 rfl ?_
  refine ev_icmpF (tgt := 779) d_132_40 rfl (fun z => absurd ((li_hd (by omega) hL).mp z) (by omega)) ?_
  refine ev_aload_n d_132_43 rfl ?_
  refine ev_iload d_132_44 rfl ?_
  refine ev_sald (i := p) d_132_46 (li_in (c := 0) hp hL (by decide)) (li_nat (c := 0) hp hL (by decide)) ?_
  refine ev_bipush d_132_47 cb_15 ?_
  refine ev_iand (v := ((xs p) &&& (15 : Int32))) d_132_49 rfl ?_
  refine ev_tabIn (off := 378) (tgt := 428) d_132_50 (by rw [h]; decide) (by rw [h]; decide) (by rw [h]; decide) rfl ?_
  exact hk
theorem law_to9 (p e : Nat) (hp : p + 6 ≤ L) (hL : L ≤ 3073) (σ : mmS) (r : mmR) (h : ((xs p) &&& (15 : Int32)) = 9) (hk : Ev N L xs (132, 468, [(0, .ref 1000), (1, .ref 0), (2, .ref 42), (3, .ref 65), (4, .int (Int32.ofNat p))], [], e, σ) r) : Ev N L xs (132, 33, [(0, .ref 1000), (1, .ref 0), (2, .ref 42), (3, .ref 65), (4, .int (Int32.ofNat p))], [], e, σ) (r) := by
  refine ev_iload d_132_33 rfl ?_
  refine ev_aload_n d_132_35 rfl ?_
  refine ev_slen d_132_36 ?_
  refine ev_bipush d_132_37 cb_6 ?_
  refine ev_isub (v := ((Int32.ofNat L) - (6 : Int32))) d_132_39 rfl ?_
  refine ev_icmpF (tgt := 779) d_132_40 rfl (fun z => absurd ((li_hd (by omega) hL).mp z) (by omega)) ?_
  refine ev_aload_n d_132_43 rfl ?_
  refine ev_iload d_132_44 rfl ?_
  refine ev_sald (i := p) d_132_46 (li_in (c := 0) hp hL (by decide)) (li_nat (c := 0) hp hL (by decide)) ?_
  refine ev_bipush d_132_47 cb_15 ?_
  refine ev_iand (v := ((xs p) &&& (15 : Int32))) d_132_49 rfl ?_
  refine ev_tabIn (off := 418) (tgt := 468) d_132_50 (by rw [h]; decide) (by rw [h]; decide) (by rw [h]; decide) rfl ?_
  exact hk
theorem law_to10 (p e : Nat) (hp : p + 6 ≤ L) (hL : L ≤ 3073) (σ : mmS) (r : mmR) (h : ((xs p) &&& (15 : Int32)) = 10) (hk : Ev N L xs (132, 564, [(0, .ref 1000), (1, .ref 0), (2, .ref 42), (3, .ref 65), (4, .int (Int32.ofNat p))], [], e, σ) r) : Ev N L xs (132, 33, [(0, .ref 1000), (1, .ref 0), (2, .ref 42), (3, .ref 65), (4, .int (Int32.ofNat p))], [], e, σ) (r) := by
  refine ev_iload d_132_33 rfl ?_
  refine ev_aload_n d_132_35 rfl ?_
  refine ev_slen d_132_36 ?_
  refine ev_bipush d_132_37 cb_6 ?_
  refine ev_isub (v := ((Int32.ofNat L) - (6 : Int32))) d_132_39 rfl ?_
  refine ev_icmpF (tgt := 779) d_132_40 rfl (fun z => absurd ((li_hd (by omega) hL).mp z) (by omega)) ?_
  refine ev_aload_n d_132_43 rfl ?_
  refine ev_iload d_132_44 rfl ?_
  refine ev_sald (i := p) d_132_46 (li_in (c := 0) hp hL (by decide)) (li_nat (c := 0) hp hL (by decide)) ?_
  refine ev_bipush d_132_47 cb_15 ?_
  refine ev_iand (v := ((xs p) &&& (15 : Int32))) d_132_49 rfl ?_
  refine ev_tabIn (off := 514) (tgt := 564) d_132_50 (by rw [h]; decide) (by rw [h]; decide) (by rw [h]; decide) rfl ?_
  exact hk
theorem law_to11 (p e : Nat) (hp : p + 6 ≤ L) (hL : L ≤ 3073) (σ : mmS) (r : mmR) (h : ((xs p) &&& (15 : Int32)) = 11) (hk : Ev N L xs (132, 604, [(0, .ref 1000), (1, .ref 0), (2, .ref 42), (3, .ref 65), (4, .int (Int32.ofNat p))], [], e, σ) r) : Ev N L xs (132, 33, [(0, .ref 1000), (1, .ref 0), (2, .ref 42), (3, .ref 65), (4, .int (Int32.ofNat p))], [], e, σ) (r) := by
  refine ev_iload d_132_33 rfl ?_
  refine ev_aload_n d_132_35 rfl ?_
  refine ev_slen d_132_36 ?_
  refine ev_bipush d_132_37 cb_6 ?_
  refine ev_isub (v := ((Int32.ofNat L) - (6 : Int32))) d_132_39 rfl ?_
  refine ev_icmpF (tgt := 779) d_132_40 rfl (fun z => absurd ((li_hd (by omega) hL).mp z) (by omega)) ?_
  refine ev_aload_n d_132_43 rfl ?_
  refine ev_iload d_132_44 rfl ?_
  refine ev_sald (i := p) d_132_46 (li_in (c := 0) hp hL (by decide)) (li_nat (c := 0) hp hL (by decide)) ?_
  refine ev_bipush d_132_47 cb_15 ?_
  refine ev_iand (v := ((xs p) &&& (15 : Int32))) d_132_49 rfl ?_
  refine ev_tabIn (off := 554) (tgt := 604) d_132_50 (by rw [h]; decide) (by rw [h]; decide) (by rw [h]; decide) rfl ?_
  exact hk
theorem law_to12 (p e : Nat) (hp : p + 6 ≤ L) (hL : L ≤ 3073) (σ : mmS) (r : mmR) (h : ((xs p) &&& (15 : Int32)) = 12) (hk : Ev N L xs (132, 617, [(0, .ref 1000), (1, .ref 0), (2, .ref 42), (3, .ref 65), (4, .int (Int32.ofNat p))], [], e, σ) r) : Ev N L xs (132, 33, [(0, .ref 1000), (1, .ref 0), (2, .ref 42), (3, .ref 65), (4, .int (Int32.ofNat p))], [], e, σ) (r) := by
  refine ev_iload d_132_33 rfl ?_
  refine ev_aload_n d_132_35 rfl ?_
  refine ev_slen d_132_36 ?_
  refine ev_bipush d_132_37 cb_6 ?_
  refine ev_isub (v := ((Int32.ofNat L) - (6 : Int32))) d_132_39 rfl ?_
  refine ev_icmpF (tgt := 779) d_132_40 rfl (fun z => absurd ((li_hd (by omega) hL).mp z) (by omega)) ?_
  refine ev_aload_n d_132_43 rfl ?_
  refine ev_iload d_132_44 rfl ?_
  refine ev_sald (i := p) d_132_46 (li_in (c := 0) hp hL (by decide)) (li_nat (c := 0) hp hL (by decide)) ?_
  refine ev_bipush d_132_47 cb_15 ?_
  refine ev_iand (v := ((xs p) &&& (15 : Int32))) d_132_49 rfl ?_
  refine ev_tabIn (off := 567) (tgt := 617) d_132_50 (by rw [h]; decide) (by rw [h]; decide) (by rw [h]; decide) rfl ?_
  exact hk
theorem law_to13 (p e : Nat) (hp : p + 6 ≤ L) (hL : L ≤ 3073) (σ : mmS) (r : mmR) (h : ((xs p) &&& (15 : Int32)) = 13) (hk : Ev N L xs (132, 633, [(0, .ref 1000), (1, .ref 0), (2, .ref 42), (3, .ref 65), (4, .int (Int32.ofNat p))], [], e, σ) r) : Ev N L xs (132, 33, [(0, .ref 1000), (1, .ref 0), (2, .ref 42), (3, .ref 65), (4, .int (Int32.ofNat p))], [], e, σ) (r) := by
  refine ev_iload d_132_33 rfl ?_
  refine ev_aload_n d_132_35 rfl ?_
  refine ev_slen d_132_36 ?_
  refine ev_bipush d_132_37 cb_6 ?_
  refine ev_isub (v := ((Int32.ofNat L) - (6 : Int32))) d_132_39 rfl ?_
  refine ev_icmpF (tgt := 779) d_132_40 rfl (fun z => absurd ((li_hd (by omega) hL).mp z) (by omega)) ?_
  refine ev_aload_n d_132_43 rfl ?_
  refine ev_iload d_132_44 rfl ?_
  refine ev_sald (i := p) d_132_46 (li_in (c := 0) hp hL (by decide)) (li_nat (c := 0) hp hL (by decide)) ?_
  refine ev_bipush d_132_47 cb_15 ?_
  refine ev_iand (v := ((xs p) &&& (15 : Int32))) d_132_49 rfl ?_
  refine ev_tabIn (off := 583) (tgt := 633) d_132_50 (by rw [h]; decide) (by rw [h]; decide) (by rw [h]; decide) rfl ?_
  exact hk
theorem law_to14 (p e : Nat) (hp : p + 6 ≤ L) (hL : L ≤ 3073) (σ : mmS) (r : mmR) (h : ((xs p) &&& (15 : Int32)) = 14) (hk : Ev N L xs (132, 713, [(0, .ref 1000), (1, .ref 0), (2, .ref 42), (3, .ref 65), (4, .int (Int32.ofNat p))], [], e, σ) r) : Ev N L xs (132, 33, [(0, .ref 1000), (1, .ref 0), (2, .ref 42), (3, .ref 65), (4, .int (Int32.ofNat p))], [], e, σ) (r) := by
  refine ev_iload d_132_33 rfl ?_
  refine ev_aload_n d_132_35 rfl ?_
  refine ev_slen d_132_36 ?_
  refine ev_bipush d_132_37 cb_6 ?_
  refine ev_isub (v := ((Int32.ofNat L) - (6 : Int32))) d_132_39 rfl ?_
  refine ev_icmpF (tgt := 779) d_132_40 rfl (fun z => absurd ((li_hd (by omega) hL).mp z) (by omega)) ?_
  refine ev_aload_n d_132_43 rfl ?_
  refine ev_iload d_132_44 rfl ?_
  refine ev_sald (i := p) d_132_46 (li_in (c := 0) hp hL (by decide)) (li_nat (c := 0) hp hL (by decide)) ?_
  refine ev_bipush d_132_47 cb_15 ?_
  refine ev_iand (v := ((xs p) &&& (15 : Int32))) d_132_49 rfl ?_
  refine ev_tabIn (off := 663) (tgt := 713) d_132_50 (by rw [h]; decide) (by rw [h]; decide) (by rw [h]; decide) rfl ?_
  exact hk
theorem law_to15 (p e : Nat) (hp : p + 6 ≤ L) (hL : L ≤ 3073) (σ : mmS) (r : mmR) (h : ((xs p) &&& (15 : Int32)).toInt < 0 ∨ 14 < ((xs p) &&& (15 : Int32)).toInt) (hk : Ev N L xs (132, 773, [(0, .ref 1000), (1, .ref 0), (2, .ref 42), (3, .ref 65), (4, .int (Int32.ofNat p))], [], e, σ) r) : Ev N L xs (132, 33, [(0, .ref 1000), (1, .ref 0), (2, .ref 42), (3, .ref 65), (4, .int (Int32.ofNat p))], [], e, σ) (r) := by
  refine ev_iload d_132_33 rfl ?_
  refine ev_aload_n d_132_35 rfl ?_
  refine ev_slen d_132_36 ?_
  refine ev_bipush d_132_37 cb_6 ?_
  refine ev_isub (v := ((Int32.ofNat L) - (6 : Int32))) d_132_39 rfl ?_
  refine ev_icmpF (tgt := 779) d_132_40 rfl (fun z => absurd ((li_hd (by omega) hL).mp z) (by omega)) ?_
  refine ev_aload_n d_132_43 rfl ?_
  refine ev_iload d_132_44 rfl ?_
  refine ev_sald (i := p) d_132_46 (li_in (c := 0) hp hL (by decide)) (li_nat (c := 0) hp hL (by decide)) ?_
  refine ev_bipush d_132_47 cb_15 ?_
  refine ev_iand (v := ((xs p) &&& (15 : Int32))) d_132_49 rfl ?_
  refine ev_tabOut (tgt := 773) d_132_50 h rfl ?_
  exact hk
theorem law_next (p e : Nat) (σ : mmS) (r : mmR) (hk : Ev N L xs (132, 33, [(0, .ref 1000), (1, .ref 0), (2, .ref 42), (3, .ref 65), (4, .int (Int32.ofNat (p + 6)))], [], e, σ) r) : Ev N L xs (132, 773, [(0, .ref 1000), (1, .ref 0), (2, .ref 42), (3, .ref 65), (4, .int (Int32.ofNat p))], [], e, σ) (r) := by
  refine ev_iinc (lv' := [(4, .int (Int32.ofNat (p + 6))), (0, .ref 1000), (1, .ref 0), (2, .ref 42), (3, .ref 65)]) (v := (Int32.ofNat (p + 6))) d_132_773 rfl (li_add p 6).symm (by decide) rfl ?_
  refine ev_goto (tgt := 33) d_132_776 rfl ?_
  refine ev_sub (lv' := [(0, .ref 1000), (1, .ref 0), (2, .ref 42), (3, .ref 65), (4, .int (Int32.ofNat (p + 6)))]) (by simp) ?_
  exact hk
theorem law_in (σ : mmS) (r : mmR) (hk : Ev N L xs (132, 33, [(0, .ref 1000), (1, .ref 0), (2, .ref 42), (3, .ref 65), (4, .int (Int32.ofNat 1))], [], 0, σ) r) : Ev N L xs (132, 30, [(0, .ref 1000), (1, .ref 0), (2, .ref 42), (3, .ref 65)], [], 0, σ) (r) := by
  refine ev_iconst d_132_30 ci_1 ?_
  refine ev_istore (lv' := [(4, .int (1 : Int32)), (0, .ref 1000), (1, .ref 0), (2, .ref 42), (3, .ref 65)]) d_132_31 (by decide) rfl ?_
  refine ev_sub (lv' := [(0, .ref 1000), (1, .ref 0), (2, .ref 42), (3, .ref 65), (4, .int (1 : Int32))]) (by simp) ?_
  exact hk
end SP
