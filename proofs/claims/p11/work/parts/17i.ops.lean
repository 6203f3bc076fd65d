/-! the calls, class and reference side by side -/
section OS
variable {σ τ : mmS}
theorem wo {a h h1 : Int32} {σ σ' : mmS} (e : h1.toInt = h.toInt + 1) : sp_b_isWithin a 0 h σ = 0 ↔ ¬ sp_m_out a h1 σ' = 0 := by
  unfold sp_b_isWithin sp_m_out
  by_cases h0 : a < 0
  · rw [if_pos h0, if_pos h0]
    exact ⟨fun _ => by decide, fun _ => rfl⟩
  · rw [if_neg h0, if_neg h0]
    by_cases h2 : h < a
    · have h3 : ¬ a < h1 := by rw [Int32.lt_iff_toInt_lt] at h2 ⊢; omega
      rw [if_pos h2, if_neg h3]
      exact ⟨fun _ => by decide, fun _ => rfl⟩
    · have h3 : a < h1 := by rw [Int32.lt_iff_toInt_lt] at h2 ⊢; omega
      rw [if_neg h2, if_pos h3]
      exact ⟨fun q => absurd q (by decide), fun q => absurd rfl q⟩
theorem wo4 {a : Int32} {σ σ' : mmS} : cx_b_requireNode a σ ↔ ¬ sp_m_out a 4 σ' = 0 := wo (by decide)
theorem wn4 {a : Int32} {σ σ' : mmS} (h : ¬ cx_b_requireNode a σ) : sp_m_out a 4 σ' = 0 := Classical.byContradiction fun q => h (wo4.mpr q)
theorem no1 {P : Prop} : (1 : Int32) = 0 → P := fun h => absurd h (by decide)
theorem no2 {P : Prop} : (2 : Int32) = 0 → P := fun h => absurd h (by decide)
theorem bw {a h : Int32} {n : Nat} {σ : mmS} (hh : h.toInt = n) (hq : ¬ sp_b_isWithin a 0 h σ = 0) : ∃ j, j ≤ n ∧ a = nI j := by
  unfold sp_b_isWithin at hq
  by_cases h0 : a < 0
  · rw [if_pos h0] at hq; exact absurd rfl hq
  · rw [if_neg h0] at hq
    by_cases h3 : h < a
    · rw [if_pos h3] at hq; exact absurd rfl hq
    · exact nI_of2 hh h0 (Int32.not_lt.mp h3)
theorem nI_ti {n : Nat} (h : n < 2000) : (nI n).toInt = n := Int32.toInt_ofNat_of_lt (by omega)
theorem nd_of {a : Int32} {σ : mmS} (h : ¬ cx_b_requireNode a σ) : ∃ j, j < 4 ∧ a = Int32.ofNat j := by
  rcases n4 (vn_of h) with rfl | rfl | rfl | rfl
  · exact ⟨0, by decide, rfl⟩
  · exact ⟨1, by decide, rfl⟩
  · exact ⟨2, by decide, rfl⟩
  · exact ⟨3, by decide, rfl⟩
theorem rb_thr (h : RB σ τ) (v : Int32) : RB σ (mmI τ 42 0 v) := by
  refine ⟨fun i hi => rb_RI rfl (fun k m hk => rdK hk) (h.1 i hi), ?_⟩
  unfold BI
  rw [rdI (show 27 ≠ 0 by decide), rdI (show 22 ≠ 0 by decide), rdI (show 25 ≠ 0 by decide)]
  exact h.2
def XV1 (e1 : String) (r : mmR) (k : Int32) (σ1 : mmS) : Prop := (k = 0 ∧ r = (.inl none, σ1)) ∨ (k = 1 ∧ r = (.inr e1, σ1))
def XV2 (e1 e2 : String) (r : mmR) (k : Int32) (σ1 : mmS) : Prop := (k = 0 ∧ r = (.inl none, σ1)) ∨ (k = 1 ∧ r = (.inr e1, σ1)) ∨ (k = 2 ∧ r = (.inr e2, σ1))
def XI1 (e1 : String) (r : mmR) (k v : Int32) (σ1 : mmS) : Prop := (k = 0 ∧ r = (.inl (some (.int v)), σ1)) ∨ (k = 1 ∧ r = (.inr e1, σ1))
def XI2 (e1 e2 : String) (r : mmR) (k v : Int32) (σ1 : mmS) : Prop := (k = 0 ∧ r = (.inl (some (.int v)), σ1)) ∨ (k = 1 ∧ r = (.inr e1, σ1)) ∨ (k = 2 ∧ r = (.inr e2, σ1))
def XJ1 (e1 : String) (r : mmR) (k : Int32) (v : Int64) (σ1 : mmS) : Prop := (k = 0 ∧ r = (.inl (some (.long v)), σ1)) ∨ (k = 1 ∧ r = (.inr e1, σ1))
variable {j : Nat}
theorem t10_0 (hj : j < 4) : (((10 : Int32) * Int32.ofNat j) + (0 : Int32)).toNatClampNeg = 10 * j + 0 := by
  rcases j4c hj with rfl | rfl | rfl | rfl <;> decide
theorem t10_1 (hj : j < 4) : (((10 : Int32) * Int32.ofNat j) + (1 : Int32)).toNatClampNeg = 10 * j + 1 := by
  rcases j4c hj with rfl | rfl | rfl | rfl <;> decide
theorem t10_2 (hj : j < 4) : (((10 : Int32) * Int32.ofNat j) + (2 : Int32)).toNatClampNeg = 10 * j + 2 := by
  rcases j4c hj with rfl | rfl | rfl | rfl <;> decide
theorem t10_3 (hj : j < 4) : (((10 : Int32) * Int32.ofNat j) + (3 : Int32)).toNatClampNeg = 10 * j + 3 := by
  rcases j4c hj with rfl | rfl | rfl | rfl <;> decide
theorem t10_4 (hj : j < 4) : (((10 : Int32) * Int32.ofNat j) + (4 : Int32)).toNatClampNeg = 10 * j + 4 := by
  rcases j4c hj with rfl | rfl | rfl | rfl <;> decide
theorem t10_5 (hj : j < 4) : (((10 : Int32) * Int32.ofNat j) + (5 : Int32)).toNatClampNeg = 10 * j + 5 := by
  rcases j4c hj with rfl | rfl | rfl | rfl <;> decide
theorem t10_6 (hj : j < 4) : (((10 : Int32) * Int32.ofNat j) + (6 : Int32)).toNatClampNeg = 10 * j + 6 := by
  rcases j4c hj with rfl | rfl | rfl | rfl <;> decide
theorem t10_7 (hj : j < 4) : (((10 : Int32) * Int32.ofNat j) + (7 : Int32)).toNatClampNeg = 10 * j + 7 := by
  rcases j4c hj with rfl | rfl | rfl | rfl <;> decide
theorem t10_8 (hj : j < 4) : (((10 : Int32) * Int32.ofNat j) + (8 : Int32)).toNatClampNeg = 10 * j + 8 := by
  rcases j4c hj with rfl | rfl | rfl | rfl <;> decide
theorem t10_9 (hj : j < 4) : (((10 : Int32) * Int32.ofNat j) + (9 : Int32)).toNatClampNeg = 10 * j + 9 := by
  rcases j4c hj with rfl | rfl | rfl | rfl <;> decide
def pw (j : Nat) (τ : mmS) : mmS := (mmI (mmI (mmI (mmI (mmI (mmI (mmI (mmI (mmI (mmI (mmI (mmI (mmI τ 45 j 0) 59 j 0) 60 j 0) 58 (10 * j + 0) 0) 58 (10 * j + 1) 0) 58 (10 * j + 2) 0) 58 (10 * j + 3) 0) 58 (10 * j + 4) 0) 58 (10 * j + 5) 0) 58 (10 * j + 6) 0) 58 (10 * j + 7) 0) 58 (10 * j + 8) 0) 58 (10 * j + 9) 0)
theorem gM_pw {τ0 : mmS} (h : gM j τ0 τ) : gM j τ0 (pw j τ) := by
  unfold pw
  repeat' (with_reducible first | exact h | refine gM_58 (by decide) ?_ | refine gM_I (by decide) ?_)
theorem hT_pw {τ0 : mmS} (h : hT τ0 τ) : hT τ0 (pw j τ) := by
  unfold pw
  repeat' (with_reducible first | exact h | refine hT_I (by decide) ?_)
theorem pw_58 {m : Nat} (hm : m < 10) : (pw j τ).1 58 (10 * j + m) = 0 := by
  unfold pw
  have h : m = 0 ∨ m = 1 ∨ m = 2 ∨ m = 3 ∨ m = 4 ∨ m = 5 ∨ m = 6 ∨ m = 7 ∨ m = 8 ∨ m = 9 := by omega
  rcases h with rfl | rfl | rfl | rfl | rfl | rfl | rfl | rfl | rfl | rfl <;> simp only [rdI_, Nat.add_left_cancel_iff, Nat.reduceEqDiff, reduceIte]
theorem pw_o {k m : Nat} (h1 : k ≠ 58) : (pw j τ).1 k m = (mmI (mmI (mmI τ 45 j 0) 59 j 0) 60 j 0).1 k m := by
  unfold pw
  rw [rdK h1, rdK h1, rdK h1, rdK h1, rdK h1, rdK h1, rdK h1, rdK h1, rdK h1, rdK h1]
theorem ri_pw (hj : j < 4) (h : RI j σ τ) : RI j (sp_fill (10 * j + 11) 10 (-1) (mmI (mmI (mmI σ (10 * j + 2) 8 0) (10 * j + 2) 12 0) (10 * j + 10) 0 0)) (pw j τ) := by
  obtain ⟨x0, x1, x2, x3, x4, x5, x6, x7, t0, t1, t2, t3, t4, s0, s1, s2, dv, he, w0, w1, w2, w3, i1, i2, i3, i4, i5, i6, i7, i8, i9, i10, i11, i12⟩ := h
  unfold sp_fill
  unfold RI
  refine ⟨?_, ?_, ?_, ?_, ?_, ?_, ?_, ?_, ?_, ?_, ?_, ?_, ?_, ?_, ?_, ?_, ?_, ?_, ?_, ?_, ?_, ?_, ?_, ?_, ?_, ?_, ?_, ?_, ?_, ?_, ?_, ?_, ?_, ?_⟩
  · simpa only [rdF_, pw_o, rdI_, rdJ1, fdk, fmk, tj hj, ne_eq, not_false_eq_true, Nat.add_left_cancel_iff, Nat.reduceEqDiff, reduceIte] using x0
  · simpa only [rdF_, pw_o, rdI_, rdJ1, fdk, fmk, tj hj, ne_eq, not_false_eq_true, Nat.add_left_cancel_iff, Nat.reduceEqDiff, reduceIte] using x1
  · simpa only [rdF_, pw_o, rdI_, rdJ1, fdk, fmk, tj hj, ne_eq, not_false_eq_true, Nat.add_left_cancel_iff, Nat.reduceEqDiff, reduceIte] using x2
  · simp only [rdF_, pw_o, rdI_, rdJ1, fdk, fmk, tj hj, ne_eq, not_false_eq_true, Nat.add_left_cancel_iff, Nat.reduceEqDiff, reduceIte]
  · simpa only [rdF_, pw_o, rdI_, rdJ1, fdk, fmk, tj hj, ne_eq, not_false_eq_true, Nat.add_left_cancel_iff, Nat.reduceEqDiff, reduceIte] using x4
  · simpa only [rdF_, pw_o, rdI_, rdJ1, fdk, fmk, tj hj, ne_eq, not_false_eq_true, Nat.add_left_cancel_iff, Nat.reduceEqDiff, reduceIte] using x5
  · simpa only [rdF_, pw_o, rdI_, rdJ1, fdk, fmk, tj hj, ne_eq, not_false_eq_true, Nat.add_left_cancel_iff, Nat.reduceEqDiff, reduceIte] using x6
  · simp only [rdF_, pw_o, rdI_, rdJ1, fdk, fmk, tj hj, ne_eq, not_false_eq_true, Nat.add_left_cancel_iff, Nat.reduceEqDiff, reduceIte]
  · simpa only [rdF_, pw_o, rdI_, rdJ1, fdk, fmk, tj hj, ne_eq, not_false_eq_true, Nat.add_left_cancel_iff, Nat.reduceEqDiff, reduceIte] using t0
  · simpa only [rdF_, pw_o, rdI_, rdJ1, fdk, fmk, tj hj, ne_eq, not_false_eq_true, Nat.add_left_cancel_iff, Nat.reduceEqDiff, reduceIte] using t1
  · simpa only [rdF_, pw_o, rdI_, rdJ1, fdk, fmk, tj hj, ne_eq, not_false_eq_true, Nat.add_left_cancel_iff, Nat.reduceEqDiff, reduceIte] using t2
  · simpa only [rdF_, pw_o, rdI_, rdJ1, fdk, fmk, tj hj, ne_eq, not_false_eq_true, Nat.add_left_cancel_iff, Nat.reduceEqDiff, reduceIte] using t3
  · simpa only [rdF_, pw_o, rdI_, rdJ1, fdk, fmk, tj hj, ne_eq, not_false_eq_true, Nat.add_left_cancel_iff, Nat.reduceEqDiff, reduceIte] using t4
  · simpa only [rdF_, pw_o, rdI_, rdJ1, fdk, fmk, tj hj, ne_eq, not_false_eq_true, Nat.add_left_cancel_iff, Nat.reduceEqDiff, reduceIte] using s0
  · simpa only [rdF_, pw_o, rdI_, rdJ1, fdk, fmk, tj hj, ne_eq, not_false_eq_true, Nat.add_left_cancel_iff, Nat.reduceEqDiff, reduceIte] using s1
  · simpa only [rdF_, pw_o, rdI_, rdJ1, fdk, fmk, tj hj, ne_eq, not_false_eq_true, Nat.add_left_cancel_iff, Nat.reduceEqDiff, reduceIte] using s2
  · simpa only [rdF_, pw_o, rdI_, rdJ1, fdk, fmk, tj hj, ne_eq, not_false_eq_true, Nat.add_left_cancel_iff, Nat.reduceEqDiff, reduceIte] using dv
  · intro m hm
    rw [rdF_, if_pos rfl, if_pos hm, pw_58 hm]
    rfl
  · simp only [rdF_, pw_o, rdI_, rdJ1, fdk, fmk, tj hj, ne_eq, not_false_eq_true, Nat.add_left_cancel_iff, Nat.reduceEqDiff, reduceIte]
  · simpa only [rdF_, pw_o, rdI_, rdJ1, fdk, fmk, tj hj, ne_eq, not_false_eq_true, Nat.add_left_cancel_iff, Nat.reduceEqDiff, reduceIte] using w1
  · simpa only [rdF_, pw_o, rdI_, rdJ1, fdk, fmk, tj hj, ne_eq, not_false_eq_true, Nat.add_left_cancel_iff, Nat.reduceEqDiff, reduceIte] using w2
  · simpa only [rdF_, pw_o, rdI_, rdJ1, fdk, fmk, tj hj, ne_eq, not_false_eq_true, Nat.add_left_cancel_iff, Nat.reduceEqDiff, reduceIte] using w3
  · simpa only [rdF_, pw_o, rdI_, rdJ1, fdk, fmk, tj hj, ne_eq, not_false_eq_true, Nat.add_left_cancel_iff, Nat.reduceEqDiff, reduceIte] using i1
  · simp only [rdF_, pw_o, rdI_, rdJ1, fdk, fmk, tj hj, ne_eq, not_false_eq_true, Nat.add_left_cancel_iff, Nat.reduceEqDiff, reduceIte]
    exact ⟨by decide, by decide⟩
  · simp only [rdF_, pw_o, rdI_, rdJ1, fdk, fmk, tj hj, ne_eq, not_false_eq_true, Nat.add_left_cancel_iff, Nat.reduceEqDiff, reduceIte]
    exact ⟨by decide, by decide⟩
  · simpa only [rdF_, pw_o, rdI_, rdJ1, fdk, fmk, tj hj, ne_eq, not_false_eq_true, Nat.add_left_cancel_iff, Nat.reduceEqDiff, reduceIte] using i4
  · simpa only [rdF_, pw_o, rdI_, rdJ1, fdk, fmk, tj hj, ne_eq, not_false_eq_true, Nat.add_left_cancel_iff, Nat.reduceEqDiff, reduceIte] using i5
  · simpa only [rdF_, pw_o, rdI_, rdJ1, fdk, fmk, tj hj, ne_eq, not_false_eq_true, Nat.add_left_cancel_iff, Nat.reduceEqDiff, reduceIte] using i6
  · simpa only [rdF_, pw_o, rdI_, rdJ1, fdk, fmk, tj hj, ne_eq, not_false_eq_true, Nat.add_left_cancel_iff, Nat.reduceEqDiff, reduceIte] using i7
  · simpa only [rdF_, pw_o, rdI_, rdJ1, fdk, fmk, tj hj, ne_eq, not_false_eq_true, Nat.add_left_cancel_iff, Nat.reduceEqDiff, reduceIte] using i8
  · simpa only [rdF_, pw_o, rdI_, rdJ1, fdk, fmk, tj hj, ne_eq, not_false_eq_true, Nat.add_left_cancel_iff, Nat.reduceEqDiff, reduceIte] using i9
  · simpa only [rdF_, pw_o, rdI_, rdJ1, fdk, fmk, tj hj, ne_eq, not_false_eq_true, Nat.add_left_cancel_iff, Nat.reduceEqDiff, reduceIte] using i10
  · simpa only [rdF_, pw_o, rdI_, rdJ1, fdk, fmk, tj hj, ne_eq, not_false_eq_true, Nat.add_left_cancel_iff, Nat.reduceEqDiff, reduceIte] using i11
  · exact Or.inl (by simp only [rdF_, pw_o, rdI_, rdJ1, fdk, fmk, tj hj, ne_eq, not_false_eq_true, Nat.add_left_cancel_iff, Nat.reduceEqDiff, reduceIte])
theorem sx_power (a : Int32) (σ : mmS) : ∃ k σ1, XV2 "java/lang/IllegalArgumentException" "java/lang/IllegalStateException" (sp_b_power a σ) k σ1 ∧ fC σ σ1 ∧ ∀ τ, RB σ τ → (sp_m_power a τ).1 42 0 = k ∧ RB σ1 (sp_m_power a τ) := by
  by_cases h : cx_b_requireNode a σ
  · refine ⟨1, σ, Or.inr (Or.inl ⟨rfl, by unfold sp_b_power; rw [if_pos h]⟩), fC_refl σ, fun τ hR => ?_⟩
    have e : sp_m_power a τ = mmI τ 42 0 1 := by unfold sp_m_power; rw [if_neg (wo4.mp h)]
    rw [e]
    exact ⟨rdS, rb_thr hR 1⟩
  · obtain ⟨j, hj, rfl⟩ := nd_of h
    by_cases c : sp_n_isAwake j σ = 0
    · refine ⟨0, sp_n_switchOn j σ, Or.inl ⟨rfl, by unfold sp_b_power; rw [if_neg h, tj hj, if_pos c]⟩, fC_n hj (fC_refl σ) (fn_n_switchOn (fN_refl σ)), fun τ hR => ?_⟩
      have hw : sp_m_works (Int32.ofNat j) τ = 0 := (ri_works hj (hR.1 j hj)).trans c
      have e : sp_m_power (Int32.ofNat j) τ = sp_m_listen (Int32.ofNat j) (pw j (mmI τ 42 0 0)) := by
        unfold sp_m_power pw
        rw [if_pos (wn4 h), if_pos hw]
        simp only [tj hj, t10_0 hj, t10_1 hj, t10_2 hj, t10_3 hj, t10_4 hj, t10_5 hj, t10_6 hj, t10_7 hj, t10_8 hj, t10_9 hj]
      rw [e]
      refine ⟨(ht_listen (hT_pw (hT_refl _))).2.2.trans rdS, ?_⟩
      exact RB_node (rb_thr hR 0) (fn_n_switchOn (fN_refl σ)) (gm_listen hj (gM_pw (gM_refl _))) (ri_listen hj (ri_pw hj ((rb_thr hR 0).1 j hj)))
    · refine ⟨2, σ, Or.inr (Or.inr ⟨rfl, by unfold sp_b_power; rw [if_neg h, tj hj, if_neg c]⟩), fC_refl σ, fun τ hR => ?_⟩
      have hw : ¬ sp_m_works (Int32.ofNat j) τ = 0 := fun z => c ((ri_works hj (hR.1 j hj)).symm.trans z)
      have e : sp_m_power (Int32.ofNat j) τ = mmI τ 42 0 2 := by unfold sp_m_power; rw [if_pos (wn4 h), if_neg hw]
      rw [e]
      exact ⟨rdS, rb_thr hR 2⟩
theorem sx_off (a : Int32) (σ : mmS) : ∃ k v σ1, XI1 "java/lang/IllegalArgumentException" (sp_b_off a σ) k v σ1 ∧ fC σ σ1 ∧ ∀ τ, RB σ τ → (sp_m_off a τ).2.1 42 0 = k ∧ (k = 0 → (sp_m_off a τ).1 = v) ∧ RB σ1 (sp_m_off a τ).2 := by
  by_cases h : cx_b_requireNode a σ
  · refine ⟨1, 0, σ, Or.inr ⟨rfl, by unfold sp_b_off; rw [if_pos h]⟩, fC_refl σ, fun τ hR => ?_⟩
    have e : (sp_m_off a τ).2 = mmI (mmI τ 42 0 0) 42 0 1 := by unfold sp_m_off; rw [if_neg (wo4.mp h)]; rfl
    rw [e]
    exact ⟨rdS, no1, rb_thr (rb_thr hR 0) 1⟩
  · obtain ⟨j, hj, rfl⟩ := nd_of h
    refine ⟨0, _, _, Or.inl ⟨rfl, by unfold sp_b_off; rw [if_neg h]⟩, fC_I (nd_lt h) (fC_refl σ), fun τ hR => ?_⟩
    have e : sp_m_off (Int32.ofNat j) τ = (τ.1 44 j, mmI (mmI τ 42 0 0) 44 j 0) := by unfold sp_m_off; rw [if_pos (wn4 h), tj hj]
    rw [e, tj hj]
    refine ⟨by rw [rdK (by decide), rdS], fun _ => (hR.1 j hj).2.2.1.symm, ?_⟩
    exact RB_node (rb_thr hR 0) (fN_I (by decide) (fN_refl σ)) (gM_I (by decide) (gM_refl _)) (ri_st hj ((rb_thr hR 0).1 j hj) 0)
theorem r200 {a : Int32} {σ : mmS} : sp_b_isWithin a 1 200 σ = 0 ↔ (a < 1 ∨ ¬ a ≤ 200) := by
  unfold sp_b_isWithin
  by_cases h1 : a < 1
  · rw [if_pos h1]; exact ⟨fun _ => Or.inl h1, fun _ => rfl⟩
  · rw [if_neg h1]
    by_cases h2 : 200 < a
    · rw [if_pos h2]; exact ⟨fun _ => Or.inr (by rw [Int32.not_le]; exact h2), fun _ => rfl⟩
    · rw [if_neg h2]
      exact ⟨fun z => absurd z (by decide), fun z => absurd (z.resolve_left h1) (fun q => q (Int32.not_lt.mp h2))⟩
theorem sx_run (a : Int32) (σ : mmS) : ∃ k v σ1, XI1 "java/lang/IllegalArgumentException" (sp_b_run a σ) k v σ1 ∧ fC σ σ1 ∧ ∀ τ, RB σ τ → (sp_m_run a τ).2.1 42 0 = k ∧ (k = 0 → (sp_m_run a τ).1 = v) ∧ RB σ1 (sp_m_run a τ).2 := by
  by_cases h : sp_b_isWithin a 1 200 σ = 0
  · refine ⟨1, 0, σ, Or.inr ⟨rfl, by unfold sp_b_run; rw [if_pos h]⟩, fC_refl σ, fun τ hR => ?_⟩
    have e : (sp_m_run a τ).2 = mmI (mmI τ 42 0 0) 42 0 1 := by
      unfold sp_m_run
      rcases r200.mp h with q | q
      · rw [if_pos q]; rfl
      · by_cases q1 : a < 1
        · rw [if_pos q1]; rfl
        · rw [if_neg q1, if_neg q]; rfl
    rw [e]
    exact ⟨rdS, no1, rb_thr (rb_thr hR 0) 1⟩
  · have h1 : ¬ a < 1 := fun z => h (r200.mpr (Or.inl z))
    have h2 : a ≤ 200 := Classical.byContradiction fun z => h (r200.mpr (Or.inr z))
    refine ⟨0, _, _, Or.inl ⟨rfl, by unfold sp_b_run; rw [if_neg h]⟩, fc_runB _ (fC_refl σ), fun τ hR => ?_⟩
    have e : sp_m_run a τ = ((runM a.toNatClampNeg (mmI τ 42 0 0)).1 42 22 - τ.1 42 22, runM a.toNatClampNeg (mmI τ 42 0 0)) := by unfold sp_m_run; rw [if_neg h1, if_pos h2]
    rw [e]
    have hB := rb_run a.toNatClampNeg (rb_thr hR 0)
    refine ⟨(ht_run _ (hT_refl _)).2.2.trans rdS, fun _ => ?_, hB⟩
    show _ - _ = _ - _
    rw [hB.2.2.2.1, hR.2.2.2.1]
theorem ri_va (hj : j < 4) (h : RI j σ τ) {v : Int32} (hv : rg v 0 1023) : RI j (mmI σ (10 * j + 2) 12 v) (mmI τ 59 j v) := by
  obtain ⟨x0, x1, x2, x3, x4, x5, x6, x7, t0, t1, t2, t3, t4, s0, s1, s2, dv, he, w0, w1, w2, w3, i1, i2, i3, i4, i5, i6, i7, i8, i9, i10, i11, i12⟩ := h
  unfold RI
  refine ⟨?_, ?_, ?_, ?_, ?_, ?_, ?_, ?_, ?_, ?_, ?_, ?_, ?_, ?_, ?_, ?_, ?_, ?_, ?_, ?_, ?_, ?_, ?_, ?_, ?_, ?_, ?_, ?_, ?_, ?_, ?_, ?_, ?_, ?_⟩
  · simpa only [rdI_, rdJ1, fdk, fmk, tj hj, ne_eq, not_false_eq_true, Nat.add_left_cancel_iff, Nat.reduceEqDiff, reduceIte] using x0
  · simpa only [rdI_, rdJ1, fdk, fmk, tj hj, ne_eq, not_false_eq_true, Nat.add_left_cancel_iff, Nat.reduceEqDiff, reduceIte] using x1
  · simpa only [rdI_, rdJ1, fdk, fmk, tj hj, ne_eq, not_false_eq_true, Nat.add_left_cancel_iff, Nat.reduceEqDiff, reduceIte] using x2
  · simpa only [rdI_, rdJ1, fdk, fmk, tj hj, ne_eq, not_false_eq_true, Nat.add_left_cancel_iff, Nat.reduceEqDiff, reduceIte] using x3
  · simpa only [rdI_, rdJ1, fdk, fmk, tj hj, ne_eq, not_false_eq_true, Nat.add_left_cancel_iff, Nat.reduceEqDiff, reduceIte] using x4
  · simpa only [rdI_, rdJ1, fdk, fmk, tj hj, ne_eq, not_false_eq_true, Nat.add_left_cancel_iff, Nat.reduceEqDiff, reduceIte] using x5
  · simpa only [rdI_, rdJ1, fdk, fmk, tj hj, ne_eq, not_false_eq_true, Nat.add_left_cancel_iff, Nat.reduceEqDiff, reduceIte] using x6
  · simp only [rdI_, rdJ1, fdk, fmk, tj hj, ne_eq, not_false_eq_true, Nat.add_left_cancel_iff, Nat.reduceEqDiff, reduceIte]
  · simpa only [rdI_, rdJ1, fdk, fmk, tj hj, ne_eq, not_false_eq_true, Nat.add_left_cancel_iff, Nat.reduceEqDiff, reduceIte] using t0
  · simpa only [rdI_, rdJ1, fdk, fmk, tj hj, ne_eq, not_false_eq_true, Nat.add_left_cancel_iff, Nat.reduceEqDiff, reduceIte] using t1
  · simpa only [rdI_, rdJ1, fdk, fmk, tj hj, ne_eq, not_false_eq_true, Nat.add_left_cancel_iff, Nat.reduceEqDiff, reduceIte] using t2
  · simpa only [rdI_, rdJ1, fdk, fmk, tj hj, ne_eq, not_false_eq_true, Nat.add_left_cancel_iff, Nat.reduceEqDiff, reduceIte] using t3
  · simpa only [rdI_, rdJ1, fdk, fmk, tj hj, ne_eq, not_false_eq_true, Nat.add_left_cancel_iff, Nat.reduceEqDiff, reduceIte] using t4
  · simpa only [rdI_, rdJ1, fdk, fmk, tj hj, ne_eq, not_false_eq_true, Nat.add_left_cancel_iff, Nat.reduceEqDiff, reduceIte] using s0
  · simpa only [rdI_, rdJ1, fdk, fmk, tj hj, ne_eq, not_false_eq_true, Nat.add_left_cancel_iff, Nat.reduceEqDiff, reduceIte] using s1
  · simpa only [rdI_, rdJ1, fdk, fmk, tj hj, ne_eq, not_false_eq_true, Nat.add_left_cancel_iff, Nat.reduceEqDiff, reduceIte] using s2
  · simpa only [rdI_, rdJ1, fdk, fmk, tj hj, ne_eq, not_false_eq_true, Nat.add_left_cancel_iff, Nat.reduceEqDiff, reduceIte] using dv
  · simpa only [rdI_, rdJ1, fdk, fmk, tj hj, ne_eq, not_false_eq_true, Nat.add_left_cancel_iff, Nat.reduceEqDiff, reduceIte] using he
  · simpa only [rdI_, rdJ1, fdk, fmk, tj hj, ne_eq, not_false_eq_true, Nat.add_left_cancel_iff, Nat.reduceEqDiff, reduceIte] using w0
  · simpa only [rdI_, rdJ1, fdk, fmk, tj hj, ne_eq, not_false_eq_true, Nat.add_left_cancel_iff, Nat.reduceEqDiff, reduceIte] using w1
  · simpa only [rdI_, rdJ1, fdk, fmk, tj hj, ne_eq, not_false_eq_true, Nat.add_left_cancel_iff, Nat.reduceEqDiff, reduceIte] using w2
  · simpa only [rdI_, rdJ1, fdk, fmk, tj hj, ne_eq, not_false_eq_true, Nat.add_left_cancel_iff, Nat.reduceEqDiff, reduceIte] using w3
  · simpa only [rdI_, rdJ1, fdk, fmk, tj hj, ne_eq, not_false_eq_true, Nat.add_left_cancel_iff, Nat.reduceEqDiff, reduceIte] using i1
  · simpa only [rdI_, rdJ1, fdk, fmk, tj hj, ne_eq, not_false_eq_true, Nat.add_left_cancel_iff, Nat.reduceEqDiff, reduceIte] using i2
  · simpa only [rdI_, rdJ1, fdk, fmk, tj hj, ne_eq, not_false_eq_true, Nat.add_left_cancel_iff, Nat.reduceEqDiff, reduceIte] using hv
  · simpa only [rdI_, rdJ1, fdk, fmk, tj hj, ne_eq, not_false_eq_true, Nat.add_left_cancel_iff, Nat.reduceEqDiff, reduceIte] using i4
  · simpa only [rdI_, rdJ1, fdk, fmk, tj hj, ne_eq, not_false_eq_true, Nat.add_left_cancel_iff, Nat.reduceEqDiff, reduceIte] using i5
  · simpa only [rdI_, rdJ1, fdk, fmk, tj hj, ne_eq, not_false_eq_true, Nat.add_left_cancel_iff, Nat.reduceEqDiff, reduceIte] using i6
  · simpa only [rdI_, rdJ1, fdk, fmk, tj hj, ne_eq, not_false_eq_true, Nat.add_left_cancel_iff, Nat.reduceEqDiff, reduceIte] using i7
  · simpa only [rdI_, rdJ1, fdk, fmk, tj hj, ne_eq, not_false_eq_true, Nat.add_left_cancel_iff, Nat.reduceEqDiff, reduceIte] using i8
  · simpa only [rdI_, rdJ1, fdk, fmk, tj hj, ne_eq, not_false_eq_true, Nat.add_left_cancel_iff, Nat.reduceEqDiff, reduceIte] using i9
  · simpa only [rdI_, rdJ1, fdk, fmk, tj hj, ne_eq, not_false_eq_true, Nat.add_left_cancel_iff, Nat.reduceEqDiff, reduceIte] using i10
  · simpa only [rdI_, rdJ1, fdk, fmk, tj hj, ne_eq, not_false_eq_true, Nat.add_left_cancel_iff, Nat.reduceEqDiff, reduceIte] using i11
  · simpa only [rdI_, rdJ1, fdk, fmk, tj hj, ne_eq, not_false_eq_true, Nat.add_left_cancel_iff, Nat.reduceEqDiff, reduceIte] using i12
theorem sx_value (a b : Int32) (σ : mmS) : ∃ k σ1, XV2 "java/lang/IllegalArgumentException" "java/lang/IllegalStateException" (sp_b_value a b σ) k σ1 ∧ fC σ σ1 ∧ ∀ τ, RB σ τ → (sp_m_value a b τ).1 42 0 = k ∧ RB σ1 (sp_m_value a b τ) := by
  by_cases h : cx_b_requireNode a σ
  · refine ⟨1, σ, Or.inr (Or.inl ⟨rfl, by unfold sp_b_value; rw [if_pos h]⟩), fC_refl σ, fun τ hR => ?_⟩
    have e : sp_m_value a b τ = mmI τ 42 0 1 := by unfold sp_m_value; rw [if_neg (wo4.mp h)]
    rw [e]
    exact ⟨rdS, rb_thr hR 1⟩
  · by_cases h2 : sp_b_isWithin b 0 1023 σ = 0
    · refine ⟨1, σ, Or.inr (Or.inl ⟨rfl, by unfold sp_b_value; rw [if_neg h, if_pos h2]⟩), fC_refl σ, fun τ hR => ?_⟩
      have e : sp_m_value a b τ = mmI τ 42 0 1 := by unfold sp_m_value; rw [if_pos (wn4 h), if_neg ((wo (h1 := 1024) (by decide)).mp h2)]
      rw [e]
      exact ⟨rdS, rb_thr hR 1⟩
    · have hm2 : ∀ τ : mmS, sp_m_out b 1024 τ = 0 := fun τ => Classical.byContradiction fun q => h2 ((wo (h1 := 1024) (by decide)).mpr q)
      obtain ⟨n, hn, en⟩ := bw (n := 1023) (by decide) h2
      have hv : rg b 0 1023 := by rw [en]; unfold rg; rw [nI_ti (by omega)]; omega
      obtain ⟨j, hj, rfl⟩ := nd_of h
      by_cases c : σ.1 (10 * j + 2) 7 = 0
      · have c' : cx_b_requireNotOff (Int32.ofNat j) σ := by unfold cx_b_requireNotOff; rw [tj hj]; exact c
        refine ⟨2, σ, Or.inr (Or.inr ⟨rfl, by unfold sp_b_value; rw [if_neg h, if_neg h2, if_pos c']⟩), fC_refl σ, fun τ hR => ?_⟩
        have e : sp_m_value (Int32.ofNat j) b τ = mmI τ 42 0 2 := by unfold sp_m_value; rw [if_pos (wn4 h), if_pos (hm2 τ), tj hj, if_pos ((hR.1 j hj).2.2.1 ▸ c)]
        rw [e]
        exact ⟨rdS, rb_thr hR 2⟩
      · have c' : ¬ cx_b_requireNotOff (Int32.ofNat j) σ := by unfold cx_b_requireNotOff; rw [tj hj]; exact c
        refine ⟨0, mmI σ (10 * j + 2) 12 b, Or.inl ⟨rfl, by unfold sp_b_value; rw [if_neg h, if_neg h2, if_neg c', tj hj]⟩, fC_I (by omega) (fC_refl σ), fun τ hR => ?_⟩
        have e : sp_m_value (Int32.ofNat j) b τ = mmI (mmI τ 42 0 0) 59 j b := by unfold sp_m_value; rw [if_pos (wn4 h), if_pos (hm2 τ), tj hj, if_neg (fun z => c ((hR.1 j hj).2.2.1.trans z))]
        rw [e]
        exact ⟨by rw [rdK (by decide), rdS], RB_node (rb_thr hR 0) (fN_I (by decide) (fN_refl σ)) (gM_I (by decide) (gM_refl _)) (ri_va hj ((rb_thr hR 0).1 j hj) hv)⟩
theorem ri_post (hj : j < 4) (h : RI j σ τ) {d v b e : Int32} (hm : msok d v e) : RI j (sp_g_put j d v b e σ) (mmI (mmI (mmI (mmI τ 60 j d) 61 j v) 62 j b) 63 j e) := by
  obtain ⟨x0, x1, x2, x3, x4, x5, x6, x7, t0, t1, t2, t3, t4, s0, s1, s2, dv, he, w0, w1, w2, w3, i1, i2, i3, i4, i5, i6, i7, i8, i9, i10, i11, i12⟩ := h
  unfold sp_g_put
  unfold RI
  refine ⟨?_, ?_, ?_, ?_, ?_, ?_, ?_, ?_, ?_, ?_, ?_, ?_, ?_, ?_, ?_, ?_, ?_, ?_, ?_, ?_, ?_, ?_, ?_, ?_, ?_, ?_, ?_, ?_, ?_, ?_, ?_, ?_, ?_, ?_⟩
  · simpa only [rdI_, rdJ1, fdk, fmk, tj hj, ne_eq, not_false_eq_true, Nat.add_left_cancel_iff, Nat.reduceEqDiff, reduceIte] using x0
  · simpa only [rdI_, rdJ1, fdk, fmk, tj hj, ne_eq, not_false_eq_true, Nat.add_left_cancel_iff, Nat.reduceEqDiff, reduceIte] using x1
  · simpa only [rdI_, rdJ1, fdk, fmk, tj hj, ne_eq, not_false_eq_true, Nat.add_left_cancel_iff, Nat.reduceEqDiff, reduceIte] using x2
  · simpa only [rdI_, rdJ1, fdk, fmk, tj hj, ne_eq, not_false_eq_true, Nat.add_left_cancel_iff, Nat.reduceEqDiff, reduceIte] using x3
  · simpa only [rdI_, rdJ1, fdk, fmk, tj hj, ne_eq, not_false_eq_true, Nat.add_left_cancel_iff, Nat.reduceEqDiff, reduceIte] using x4
  · simpa only [rdI_, rdJ1, fdk, fmk, tj hj, ne_eq, not_false_eq_true, Nat.add_left_cancel_iff, Nat.reduceEqDiff, reduceIte] using x5
  · simpa only [rdI_, rdJ1, fdk, fmk, tj hj, ne_eq, not_false_eq_true, Nat.add_left_cancel_iff, Nat.reduceEqDiff, reduceIte] using x6
  · simpa only [rdI_, rdJ1, fdk, fmk, tj hj, ne_eq, not_false_eq_true, Nat.add_left_cancel_iff, Nat.reduceEqDiff, reduceIte] using x7
  · simpa only [rdI_, rdJ1, fdk, fmk, tj hj, ne_eq, not_false_eq_true, Nat.add_left_cancel_iff, Nat.reduceEqDiff, reduceIte] using t0
  · simpa only [rdI_, rdJ1, fdk, fmk, tj hj, ne_eq, not_false_eq_true, Nat.add_left_cancel_iff, Nat.reduceEqDiff, reduceIte] using t1
  · simpa only [rdI_, rdJ1, fdk, fmk, tj hj, ne_eq, not_false_eq_true, Nat.add_left_cancel_iff, Nat.reduceEqDiff, reduceIte] using t2
  · simpa only [rdI_, rdJ1, fdk, fmk, tj hj, ne_eq, not_false_eq_true, Nat.add_left_cancel_iff, Nat.reduceEqDiff, reduceIte] using t3
  · simpa only [rdI_, rdJ1, fdk, fmk, tj hj, ne_eq, not_false_eq_true, Nat.add_left_cancel_iff, Nat.reduceEqDiff, reduceIte] using t4
  · simpa only [rdI_, rdJ1, fdk, fmk, tj hj, ne_eq, not_false_eq_true, Nat.add_left_cancel_iff, Nat.reduceEqDiff, reduceIte] using s0
  · simpa only [rdI_, rdJ1, fdk, fmk, tj hj, ne_eq, not_false_eq_true, Nat.add_left_cancel_iff, Nat.reduceEqDiff, reduceIte] using s1
  · simpa only [rdI_, rdJ1, fdk, fmk, tj hj, ne_eq, not_false_eq_true, Nat.add_left_cancel_iff, Nat.reduceEqDiff, reduceIte] using s2
  · simpa only [rdI_, rdJ1, fdk, fmk, tj hj, ne_eq, not_false_eq_true, Nat.add_left_cancel_iff, Nat.reduceEqDiff, reduceIte] using dv
  · simpa only [rdI_, rdJ1, fdk, fmk, tj hj, ne_eq, not_false_eq_true, Nat.add_left_cancel_iff, Nat.reduceEqDiff, reduceIte] using he
  · simp only [rdI_, rdJ1, fdk, fmk, tj hj, ne_eq, not_false_eq_true, Nat.add_left_cancel_iff, Nat.reduceEqDiff, reduceIte]
    first | rfl | (rw [if_neg (by decide)])
  · simp only [rdI_, rdJ1, fdk, fmk, tj hj, ne_eq, not_false_eq_true, Nat.add_left_cancel_iff, Nat.reduceEqDiff, reduceIte]
  · simp only [rdI_, rdJ1, fdk, fmk, tj hj, ne_eq, not_false_eq_true, Nat.add_left_cancel_iff, Nat.reduceEqDiff, reduceIte]
  · simp only [rdI_, rdJ1, fdk, fmk, tj hj, ne_eq, not_false_eq_true, Nat.add_left_cancel_iff, Nat.reduceEqDiff, reduceIte]
  · simpa only [rdI_, rdJ1, fdk, fmk, tj hj, ne_eq, not_false_eq_true, Nat.add_left_cancel_iff, Nat.reduceEqDiff, reduceIte] using i1
  · simpa only [rdI_, rdJ1, fdk, fmk, tj hj, ne_eq, not_false_eq_true, Nat.add_left_cancel_iff, Nat.reduceEqDiff, reduceIte] using i2
  · simpa only [rdI_, rdJ1, fdk, fmk, tj hj, ne_eq, not_false_eq_true, Nat.add_left_cancel_iff, Nat.reduceEqDiff, reduceIte] using i3
  · simpa only [rdI_, rdJ1, fdk, fmk, tj hj, ne_eq, not_false_eq_true, Nat.add_left_cancel_iff, Nat.reduceEqDiff, reduceIte] using i4
  · simpa only [rdI_, rdJ1, fdk, fmk, tj hj, ne_eq, not_false_eq_true, Nat.add_left_cancel_iff, Nat.reduceEqDiff, reduceIte] using i5
  · simpa only [rdI_, rdJ1, fdk, fmk, tj hj, ne_eq, not_false_eq_true, Nat.add_left_cancel_iff, Nat.reduceEqDiff, reduceIte] using i6
  · simpa only [rdI_, rdJ1, fdk, fmk, tj hj, ne_eq, not_false_eq_true, Nat.add_left_cancel_iff, Nat.reduceEqDiff, reduceIte] using i7
  · simpa only [rdI_, rdJ1, fdk, fmk, tj hj, ne_eq, not_false_eq_true, Nat.add_left_cancel_iff, Nat.reduceEqDiff, reduceIte] using i8
  · simpa only [rdI_, rdJ1, fdk, fmk, tj hj, ne_eq, not_false_eq_true, Nat.add_left_cancel_iff, Nat.reduceEqDiff, reduceIte] using i9
  · simpa only [rdI_, rdJ1, fdk, fmk, tj hj, ne_eq, not_false_eq_true, Nat.add_left_cancel_iff, Nat.reduceEqDiff, reduceIte] using i10
  · simpa only [rdI_, rdJ1, fdk, fmk, tj hj, ne_eq, not_false_eq_true, Nat.add_left_cancel_iff, Nat.reduceEqDiff, reduceIte] using i11
  · simp only [rdI_, rdJ1, fdk, fmk, tj hj, ne_eq, not_false_eq_true, Nat.add_left_cancel_iff, Nat.reduceEqDiff, reduceIte]
    exact Or.inr hm
theorem sx_post (a d v b e : Int32) (σ : mmS) : ∃ k σ1, XV2 "java/lang/IllegalArgumentException" "java/lang/IllegalStateException" (sp_b_post a d v b e σ) k σ1 ∧ fC σ σ1 ∧ ∀ τ, RB σ τ → (sp_m_post a d v b e τ).1 42 0 = k ∧ RB σ1 (sp_m_post a d v b e τ) := by
  have one : ∀ k : Int32, (k = 1 ∧ sp_b_post a d v b e σ = (.inr "java/lang/IllegalArgumentException", σ) ∨ k = 2 ∧ sp_b_post a d v b e σ = (.inr "java/lang/IllegalStateException", σ)) → (∀ τ, RB σ τ → sp_m_post a d v b e τ = mmI τ 42 0 k) → ∃ k σ1, XV2 "java/lang/IllegalArgumentException" "java/lang/IllegalStateException" (sp_b_post a d v b e σ) k σ1 ∧ fC σ σ1 ∧ ∀ τ, RB σ τ → (sp_m_post a d v b e τ).1 42 0 = k ∧ RB σ1 (sp_m_post a d v b e τ) := fun k h1 h2 =>
    ⟨k, σ, Or.inr h1, fC_refl σ, fun τ hR => by rw [h2 τ hR]; exact ⟨rdS, rb_thr hR k⟩⟩
  by_cases h : cx_b_requireNode a σ
  · exact one 1 (Or.inl ⟨rfl, by unfold sp_b_post; rw [if_pos h]⟩) (fun τ _ => by unfold sp_m_post; rw [if_neg (wo4.mp h)])
  · have hm : ∀ τ : mmS, sp_m_out a 4 τ = 0 := fun τ => wn4 h
    by_cases h2 : sp_b_isWithin d 5 9 σ = 0
    · refine one 1 (Or.inl ⟨rfl, by unfold sp_b_post; rw [if_neg h, if_pos h2]⟩) (fun τ _ => ?_)
      unfold sp_b_isWithin at h2
      unfold sp_m_post
      rw [if_pos (hm τ)]
      by_cases a5 : d < 5
      · rw [if_pos a5]
      · rw [if_neg a5] at h2 ⊢
        by_cases a9 : (9 : Int32) < d
        · rw [if_pos a9]
        · rw [if_neg a9] at h2; exact absurd h2 (by decide)
    · have h2' := h2
      unfold sp_b_isWithin at h2'
      by_cases a5 : d < 5
      · rw [if_pos a5] at h2'; exact absurd rfl h2'
      · rw [if_neg a5] at h2'
        by_cases a9 : (9 : Int32) < d
        · rw [if_pos a9] at h2'; exact absurd rfl h2'
        · have hd : rg d 5 9 := by
            rw [Int32.lt_iff_toInt_lt] at a5 a9
            have e5 : (5 : Int32).toInt = 5 := by decide
            have e9 : (9 : Int32).toInt = 9 := by decide
            exact ⟨by omega, by omega⟩
          by_cases h3 : sp_b_isWithin v 0 1023 σ = 0
          · exact one 1 (Or.inl ⟨rfl, by unfold sp_b_post; rw [if_neg h, if_neg h2, if_pos h3]⟩) (fun τ _ => by unfold sp_m_post; rw [if_pos (hm τ), if_neg a5, if_neg a9, if_neg ((wo (h1 := 1024) (by decide)).mp h3)])
          · have hm3 : ∀ τ : mmS, sp_m_out v 1024 τ = 0 := fun τ => Classical.byContradiction fun q => h3 ((wo (h1 := 1024) (by decide)).mpr q)
            obtain ⟨nv, hnv, env⟩ := bw (n := 1023) (by decide) h3
            have hv : rg v 0 1023 := by rw [env]; unfold rg; rw [nI_ti (by omega)]; omega
            have fin : (e = 1 ∨ e = 2 ∨ e = 4) → ∃ k σ1, XV2 "java/lang/IllegalArgumentException" "java/lang/IllegalStateException" (sp_b_post a d v b e σ) k σ1 ∧ fC σ σ1 ∧ ∀ τ, RB σ τ → (sp_m_post a d v b e τ).1 42 0 = k ∧ RB σ1 (sp_m_post a d v b e τ) := by
              intro hq3
              have hsub : (e : Int32).toInt = (e - 1).toInt + 1 := by rcases hq3 with rfl | rfl | rfl <;> decide
              by_cases h5 : sp_b_isWithin b 0 (e - 1) σ = 0
              · have hm5 : ∀ τ : mmS, ¬ sp_m_out b e τ = 0 := fun τ => (wo hsub).mp h5
                refine one 1 (Or.inl ⟨rfl, ?_⟩) (fun τ _ => ?_)
                · unfold sp_b_post
                  rw [if_neg h, if_neg h2, if_neg h3, if_pos h5]
                  rcases hq3 with rfl | rfl | rfl <;> rfl
                · unfold sp_m_post
                  rw [if_pos (hm τ), if_neg a5, if_neg a9, if_pos (hm3 τ), if_neg (hm5 τ)]
                  rcases hq3 with rfl | rfl | rfl <;> rfl
              · have hm5 : ∀ τ : mmS, sp_m_out b e τ = 0 := fun τ => Classical.byContradiction fun z => h5 ((wo hsub).mpr z)
                obtain ⟨j, hj, rfl⟩ := nd_of h
                by_cases c : σ.1 (10 * j + 2) 7 = 0
                · have c' : cx_b_requireNotOff (Int32.ofNat j) σ := by unfold cx_b_requireNotOff; rw [tj hj]; exact c
                  refine one 2 (Or.inr ⟨rfl, ?_⟩) (fun τ hR => ?_)
                  · unfold sp_b_post
                    rw [if_neg h, if_neg h2, if_neg h3, if_neg h5, if_pos c']
                    rcases hq3 with rfl | rfl | rfl <;> rfl
                  · have hs : τ.1 44 j = 0 := (hR.1 j hj).2.2.1 ▸ c
                    unfold sp_m_post
                    rw [if_pos (hm τ), if_neg a5, if_neg a9, if_pos (hm3 τ), if_pos (hm5 τ), tj hj, if_pos hs]
                    rcases hq3 with rfl | rfl | rfl <;> rfl
                · have c' : ¬ cx_b_requireNotOff (Int32.ofNat j) σ := by unfold cx_b_requireNotOff; rw [tj hj]; exact c
                  by_cases c2 : σ.1 (10 * j + 10) 0 = 0
                  · refine ⟨0, sp_g_put j d v b e σ, Or.inl ⟨rfl, ?_⟩, fC_n hj (fC_refl σ) (fn_g_put (fN_refl σ)), fun τ hR => ?_⟩
                    · unfold sp_b_post
                      rw [if_neg h, if_neg h2, if_neg h3, if_neg h5, if_neg c', tj hj, if_pos c2]
                      rcases hq3 with rfl | rfl | rfl <;> rfl
                    · have hs : ¬ τ.1 44 j = 0 := fun z => c ((hR.1 j hj).2.2.1.trans z)
                      have hw : τ.1 60 j ≤ 0 := by
                        have q := hR.1 j hj
                        obtain ⟨x0, x1, x2, x3, x4, x5, x6, x7, t0, t1, t2, t3, t4, s0, s1, s2, dv, he, w0, w1, w2, w3, i1, i2, i3, i4, i5, i6, i7, i8, i9, i10, i11, i12⟩ := q
                        rw [if_pos c2] at w0
                        rw [← w0]
                        decide
                      have em : sp_m_post (Int32.ofNat j) d v b e τ = mmI (mmI (mmI (mmI (mmI τ 42 0 0) 60 j d) 61 j v) 62 j b) 63 j e := by
                        unfold sp_m_post
                        rw [if_pos (hm τ), if_neg a5, if_neg a9, if_pos (hm3 τ), if_pos (hm5 τ), tj hj, if_neg hs, if_pos hw]
                        rcases hq3 with rfl | rfl | rfl <;> rfl
                      rw [em]
                      refine ⟨by rw [rdK (by decide), rdK (by decide), rdK (by decide), rdK (by decide), rdS], ?_⟩
                      exact RB_node (rb_thr hR 0) (fn_g_put (fN_refl σ)) (gM_I (by decide) (gM_I (by decide) (gM_I (by decide) (gM_I (by decide) (gM_refl _))))) (ri_post hj ((rb_thr hR 0).1 j hj) ⟨hd, hv, hq3⟩)
                  · refine one 2 (Or.inr ⟨rfl, ?_⟩) (fun τ hR => ?_)
                    · unfold sp_b_post
                      rw [if_neg h, if_neg h2, if_neg h3, if_neg h5, if_neg c', tj hj, if_neg c2]
                      rcases hq3 with rfl | rfl | rfl <;> rfl
                    · have hs : ¬ τ.1 44 j = 0 := fun z => c ((hR.1 j hj).2.2.1.trans z)
                      have hw : ¬ τ.1 60 j ≤ 0 := by
                        have q := hR.1 j hj
                        obtain ⟨x0, x1, x2, x3, x4, x5, x6, x7, t0, t1, t2, t3, t4, s0, s1, s2, dv, he, w0, w1, w2, w3, i1, i2, i3, i4, i5, i6, i7, i8, i9, i10, i11, i12⟩ := q
                        rw [if_neg c2] at w0
                        obtain ⟨m1, -, -⟩ := i12.resolve_left c2
                        rw [← w0, Int32.le_iff_toInt_le, i0]
                        have := m1.1
                        omega
                      unfold sp_m_post
                      rw [if_pos (hm τ), if_neg a5, if_neg a9, if_pos (hm3 τ), if_pos (hm5 τ), tj hj, if_neg hs, if_neg hw]
                      rcases hq3 with rfl | rfl | rfl <;> rfl
            by_cases q1 : e = 1
            · exact fin (Or.inl q1)
            · by_cases q2 : e = 2
              · exact fin (Or.inr (Or.inl q2))
              · by_cases q4 : e = 4
                · exact fin (Or.inr (Or.inr q4))
                · exact one 1 (Or.inl ⟨rfl, by unfold sp_b_post; rw [if_neg h, if_neg h2, if_neg h3, if_neg q1, if_neg q2, if_neg q4]⟩) (fun τ _ => by unfold sp_m_post; rw [if_pos (hm τ), if_neg a5, if_neg a9, if_pos (hm3 τ), if_neg q1, if_neg q2, if_neg q4])
theorem sx_disturb (x : Int64) (σ : mmS) : ∃ k σ1, XV1 "java/lang/IllegalArgumentException" (sp_b_disturb x σ) k σ1 ∧ fC σ σ1 ∧ ∀ τ, RB σ τ → (sp_m_disturb x τ).1 42 0 = k ∧ RB σ1 (sp_m_disturb x τ) := by
  obtain ⟨n, hn, rfl⟩ := wb_of x
  by_cases h : n < 2 ^ 57
  · have hf : ¬ sp_w_fits (lN n) σ = 0 := fun q => (fits_iff hn σ).mp q h
    refine ⟨0, _, Or.inl ⟨rfl, by unfold sp_b_disturb; rw [if_neg hf]⟩, fC_J (by decide) (fC_refl σ), fun τ hR => ?_⟩
    have e : sp_m_disturb (lN n) τ = mmJ (mmI τ 42 0 0) 42 26 ((mmI τ 42 0 0).2 42 26 ^^^ lN n) := by
      unfold sp_m_disturb
      rw [if_neg (fun q => by have := (lgL (b := 0) (by omega) (by decide)).mp q; omega), if_pos (show lg_cmp (lN n) (144115188075855872 : Int64) < 0 from (lgL (b := 144115188075855872) (by omega) (by decide)).mpr (by omega))]
    rw [e]
    have hB := rb_thr hR 0
    obtain ⟨b1, b2, b3, ⟨d, hd, d1, d2⟩, b5⟩ := hB.2
    have hx : lN d ^^^ lN n = lN (d ^^^ n) := lN_xor (by omega) (by omega)
    refine ⟨by rw [rdJ1, rdS], fun i hi => ?_, b1, b2, b3, ⟨d ^^^ n, xor57 hd h, ?_, ?_⟩, ?_⟩
    · exact hB.1 i hi
    · rw [rdJS, d1, hx]
    · rw [rdJS, d2, hx]
    · rw [rdJ1, rdJ2 (by decide), rdJ2 (by decide)]
      exact b5
  · have hf : sp_w_fits (lN n) σ = 0 := (fits_iff hn σ).mpr h
    refine ⟨1, σ, Or.inr ⟨rfl, by unfold sp_b_disturb; rw [if_pos hf]⟩, fC_refl σ, fun τ hR => ?_⟩
    have e : sp_m_disturb (lN n) τ = mmI τ 42 0 1 := by
      unfold sp_m_disturb
      by_cases h63 : n < 2 ^ 63
      · rw [if_neg (fun q => by have := (lgL (b := 0) h63 (by decide)).mp q; omega), if_neg (fun q => by have := (lgL (b := 144115188075855872) h63 (by decide)).mp q; omega)]
      · rw [if_pos (lgNeg hn h63)]
    rw [e]
    exact ⟨rdS, rb_thr hR 1⟩
theorem sx_lose (a : Int32) (σ : mmS) : ∃ k v σ1, XI1 "java/lang/IllegalArgumentException" (sp_b_lose a σ) k v σ1 ∧ fC σ σ1 ∧ ∀ τ, RB σ τ → (sp_m_lose a τ).2.1 42 0 = k ∧ (k = 0 → (sp_m_lose a τ).1 = v) ∧ RB σ1 (sp_m_lose a τ).2 := by
  have bad : (a < 0 ∨ ¬ a ≤ 1000 - σ.1 0 2) → ∃ k v σ1, XI1 "java/lang/IllegalArgumentException" (sp_b_lose a σ) k v σ1 ∧ fC σ σ1 ∧ ∀ τ, RB σ τ → (sp_m_lose a τ).2.1 42 0 = k ∧ (k = 0 → (sp_m_lose a τ).1 = v) ∧ RB σ1 (sp_m_lose a τ).2 := by
    intro q
    refine ⟨1, 0, σ, Or.inr ⟨rfl, ?_⟩, fC_refl σ, fun τ hR => ?_⟩
    · unfold sp_b_lose cx_b_require sp_b_isWithin
      by_cases q1 : a < 0
      · rw [if_pos q1, if_pos rfl]
      · rw [if_neg q1, if_pos (Int32.not_le.mp (q.resolve_left q1)), if_pos rfl]
    · have e : (sp_m_lose a τ).2 = mmI (mmI τ 42 0 0) 42 0 1 := by
        unfold sp_m_lose
        by_cases q1 : a < 0
        · rw [if_pos q1]; rfl
        · rw [if_neg q1, if_neg (by rw [← hR.2.1]; exact q.resolve_left q1)]; rfl
      rw [e]
      exact ⟨rdS, no1, rb_thr (rb_thr hR 0) 1⟩
  by_cases h1 : a < 0
  · exact bad (Or.inl h1)
  · by_cases h2 : a ≤ 1000 - σ.1 0 2
    · refine ⟨0, σ.1 0 2 + a, mmI σ 0 2 (σ.1 0 2 + a), Or.inl ⟨rfl, ?_⟩, fC_I (by decide) (fC_refl σ), fun τ hR => ?_⟩
      · unfold sp_b_lose cx_b_require sp_b_isWithin
        rw [if_neg h1, if_neg (Int32.not_lt.mpr h2), if_neg (by decide)]
      · have e : sp_m_lose a τ = (τ.1 42 27 + a, mmI (mmI τ 42 0 0) 42 27 (τ.1 42 27 + a)) := by
          unfold sp_m_lose
          rw [if_neg h1, if_pos (by rw [← hR.2.1]; exact h2)]
        rw [e]
        have hB := rb_thr hR 0
        obtain ⟨b1, b2, b3, b4, b5⟩ := hR.2
        have hr : rg (σ.1 0 2 + a) 0 1000 := by
          obtain ⟨p1, p2⟩ := b2
          have e1000 : (1000 : Int32).toInt = 1000 := by decide
          rw [Int32.lt_iff_toInt_lt, i0] at h1
          rw [Int32.le_iff_toInt_le, ti_sub (by decide) (by decide) (by omega) (by omega), e1000] at h2
          unfold rg
          rw [ti_add (by omega) (by omega) (by omega) (by omega)]
          omega
        refine ⟨by rw [rdI (by decide), rdS], fun _ => by rw [b1], fun i hi => ?_, ?_, ?_, ?_, b4, ?_⟩
        · have hr := hB.1 i hi
          unfold RI at hr ⊢
          have z : ∀ c m, 2 ≤ c → (mmI σ 0 2 (σ.1 0 2 + a)).1 (10 * i + c) m = σ.1 (10 * i + c) m := fun c m hc => rdK (by omega)
          have y : ∀ k m, k ≠ 42 → (mmI (mmI τ 42 0 0) 42 27 (τ.1 42 27 + a)).1 k m = (mmI τ 42 0 0).1 k m := fun k m hk => rdK hk
          simpa only [z, y, Nat.reduceLeDiff, ne_eq, Nat.reduceEqDiff, not_false_eq_true] using hr
        · rw [rdS, rdS, b1]
        · rw [rdS]; exact hr
        · rw [rdI (by decide), rdI (by decide), rdI (by decide)]; exact b3
        · rw [rdI (by decide), rdI (by decide)]; exact b5
    · exact bad (Or.inr h2)
theorem sx_state (a : Int32) (σ : mmS) : ∃ k v σ1, XI1 "java/lang/IllegalArgumentException" (sp_b_state a σ) k v σ1 ∧ fC σ σ1 ∧ ∀ τ, RB σ τ → (sp_m_state a τ).2.1 42 0 = k ∧ (k = 0 → (sp_m_state a τ).1 = v) ∧ RB σ1 (sp_m_state a τ).2 := by
  by_cases h : cx_b_requireNode a σ
  · refine ⟨1, 0, σ, Or.inr ⟨rfl, by unfold sp_b_state; rw [if_pos h]⟩, fC_refl σ, fun τ hR => ?_⟩
    have e : (sp_m_state a τ).2 = mmI (mmI τ 42 0 0) 42 0 1 := by unfold sp_m_state; rw [if_neg (wo4.mp h)]; rfl
    rw [e]
    exact ⟨rdS, no1, rb_thr (rb_thr hR 0) 1⟩
  · obtain ⟨j, hj, rfl⟩ := nd_of h
    refine ⟨0, _, σ, Or.inl ⟨rfl, by unfold sp_b_state; rw [if_neg h]⟩, fC_refl σ, fun τ hR => ?_⟩
    have e : sp_m_state (Int32.ofNat j) τ = (τ.1 44 j, mmI τ 42 0 0) := by unfold sp_m_state; rw [if_pos (wn4 h), tj hj]
    rw [e, tj hj]
    exact ⟨rdS, fun _ => (hR.1 j hj).2.2.1.symm, rb_thr hR 0⟩
theorem sx_clock (a b : Int32) (σ : mmS) : ∃ k v σ1, XI2 "java/lang/IllegalArgumentException" "java/lang/IllegalStateException" (sp_b_clock a b σ) k v σ1 ∧ fC σ σ1 ∧ ∀ τ, RB σ τ → (sp_m_clock a b τ).2.1 42 0 = k ∧ (k = 0 → (sp_m_clock a b τ).1 = v) ∧ RB σ1 (sp_m_clock a b τ).2 := by
  by_cases h : cx_b_requireNode a σ
  · refine ⟨1, 0, σ, Or.inr (Or.inl ⟨rfl, by unfold sp_b_clock; rw [if_pos h]⟩), fC_refl σ, fun τ hR => ?_⟩
    have e : (sp_m_clock a b τ).2 = mmI (mmI τ 42 0 0) 42 0 1 := by unfold sp_m_clock; rw [if_neg (wo4.mp h)]; rfl
    rw [e]
    exact ⟨rdS, no1, rb_thr (rb_thr hR 0) 1⟩
  · by_cases h2 : sp_b_isWithin b 0 5 σ = 0
    · refine ⟨1, 0, σ, Or.inr (Or.inl ⟨rfl, by unfold sp_b_clock; rw [if_neg h, if_pos h2]⟩), fC_refl σ, fun τ hR => ?_⟩
      have e : (sp_m_clock a b τ).2 = mmI (mmI τ 42 0 0) 42 0 1 := by unfold sp_m_clock; rw [if_pos (wn4 h), if_neg ((wo (h1 := 6) (by decide)).mp h2)]; rfl
      rw [e]
      exact ⟨rdS, no1, rb_thr (rb_thr hR 0) 1⟩
    · have hm2 : ∀ τ : mmS, sp_m_out b 6 τ = 0 := fun τ => Classical.byContradiction fun q => h2 ((wo (h1 := 6) (by decide)).mpr q)
      obtain ⟨j, hj, rfl⟩ := nd_of h
      by_cases c : sp_n_isInTime j σ = 0
      · refine ⟨2, 0, σ, Or.inr (Or.inr ⟨rfl, by unfold sp_b_clock; rw [if_neg h, if_neg h2, tj hj, if_pos c]⟩), fC_refl σ, fun τ hR => ?_⟩
        have e : (sp_m_clock (Int32.ofNat j) b τ).2 = mmI (mmI τ 42 0 0) 42 0 2 := by
          have hw := ri_works hj ((rb_thr hR 0).1 j hj)
          have e2 := (hR.1 j hj).2.2.1
          unfold sp_n_isInTime at c
          unfold sp_m_clock
          rw [if_pos (wn4 h), if_pos (hm2 _), hw, tj hj]
          by_cases c1 : sp_n_isAwake j σ = 0
          · rw [if_pos c1]; rfl
          · rw [if_neg c1] at c ⊢
            rw [e2] at c
            by_cases c2 : τ.1 44 j = 1
            · rw [if_pos c2]; rfl
            · rw [if_neg c2] at c; exact absurd c (by decide)
        rw [e]
        exact ⟨rdS, no2, rb_thr (rb_thr hR 0) 2⟩
      · have key : ∀ τ, RB σ τ → sp_m_clock (Int32.ofNat j) b τ = (if b = 0 then (τ.1 49 j, mmI τ 42 0 0) else if b = 1 then (τ.1 50 j, mmI τ 42 0 0) else if b = 2 then (τ.1 51 j, mmI τ 42 0 0) else if b = 3 then (τ.1 52 j, mmI τ 42 0 0) else if b = 4 then (τ.1 54 j, mmI τ 42 0 0) else (τ.1 55 j, mmI τ 42 0 0)) := fun τ hR => by
          have hw := ri_works hj ((rb_thr hR 0).1 j hj)
          have e2 := (hR.1 j hj).2.2.1
          unfold sp_n_isInTime at c
          unfold sp_m_clock
          rw [if_pos (wn4 h), if_pos (hm2 _), hw, tj hj]
          by_cases c1 : sp_n_isAwake j σ = 0
          · rw [if_pos c1] at c; exact absurd rfl c
          · rw [if_neg c1] at c ⊢
            rw [e2] at c
            by_cases c2 : τ.1 44 j = 1
            · rw [if_pos c2] at c; exact absurd rfl c
            · rw [if_neg c2]
        have kc : sp_b_clock (Int32.ofNat j) b σ = (if b = 0 then ((.inl (some (.int (σ.1 (10 * j + 3) 0))), σ) : mmR) else if b = 1 then (.inl (some (.int (σ.1 (10 * j + 3) 1))), σ) else if b = 2 then (.inl (some (.int (σ.1 (10 * j + 3) 2))), σ) else if b = 3 then (.inl (some (.int (σ.1 (10 * j + 3) 4))), σ) else if b = 4 then (.inl (some (.int (σ.1 (10 * j + 2) 9))), σ) else (.inl (some (.int (σ.1 (10 * j + 2) 10))), σ)) := by
          unfold sp_b_clock
          rw [if_neg h, if_neg h2, tj hj, if_neg c]
        have fin : ∀ v : Int32, sp_b_clock (Int32.ofNat j) b σ = (.inl (some (.int v)), σ) → (∀ τ, RB σ τ → sp_m_clock (Int32.ofNat j) b τ = (v, mmI τ 42 0 0)) → ∃ k v σ1, XI2 "java/lang/IllegalArgumentException" "java/lang/IllegalStateException" (sp_b_clock (Int32.ofNat j) b σ) k v σ1 ∧ fC σ σ1 ∧ ∀ τ, RB σ τ → (sp_m_clock (Int32.ofNat j) b τ).2.1 42 0 = k ∧ (k = 0 → (sp_m_clock (Int32.ofNat j) b τ).1 = v) ∧ RB σ1 (sp_m_clock (Int32.ofNat j) b τ).2 := fun v e1 e2 =>
          ⟨0, v, σ, Or.inl ⟨rfl, e1⟩, fC_refl σ, fun τ hR => by rw [e2 τ hR]; exact ⟨rdS, fun _ => rfl, rb_thr hR 0⟩⟩
        by_cases b0 : b = 0
        · exact fin _ (by rw [kc, if_pos b0]) (fun τ hR => by rw [key τ hR, if_pos b0, (hR.1 j hj).2.2.2.2.2.2.2.2.1])
        · by_cases b1 : b = 1
          · exact fin _ (by rw [kc, if_neg b0, if_pos b1]) (fun τ hR => by rw [key τ hR, if_neg b0, if_pos b1, (hR.1 j hj).2.2.2.2.2.2.2.2.2.1])
          · by_cases b2 : b = 2
            · exact fin _ (by rw [kc, if_neg b0, if_neg b1, if_pos b2]) (fun τ hR => by rw [key τ hR, if_neg b0, if_neg b1, if_pos b2, (hR.1 j hj).2.2.2.2.2.2.2.2.2.2.1])
            · by_cases b3 : b = 3
              · exact fin _ (by rw [kc, if_neg b0, if_neg b1, if_neg b2, if_pos b3]) (fun τ hR => by rw [key τ hR, if_neg b0, if_neg b1, if_neg b2, if_pos b3, (hR.1 j hj).2.2.2.2.2.2.2.2.2.2.2.2.1])
              · by_cases b4 : b = 4
                · exact fin _ (by rw [kc, if_neg b0, if_neg b1, if_neg b2, if_neg b3, if_pos b4]) (fun τ hR => by rw [key τ hR, if_neg b0, if_neg b1, if_neg b2, if_neg b3, if_pos b4, (hR.1 j hj).2.2.2.2.1])
                · exact fin _ (by rw [kc, if_neg b0, if_neg b1, if_neg b2, if_neg b3, if_neg b4]) (fun τ hR => by rw [key τ hR, if_neg b0, if_neg b1, if_neg b2, if_neg b3, if_neg b4, (hR.1 j hj).2.2.2.2.2.1])
/-- of deviation only that both keep going -/
theorem sx_deviation (a b c : Int32) (σ : mmS) : ∃ k v σ1, XI2 "java/lang/IllegalArgumentException" "java/util/NoSuchElementException" (sp_b_deviation a b c σ) k v σ1 ∧ fC σ σ1 ∧ ∀ τ, RB σ τ → RB σ1 (sp_m_deviation a b c τ).2 := by
  have hm : ∀ τ, RB σ τ → RB σ (sp_m_deviation a b c τ).2 := fun τ hR => by
    unfold sp_m_deviation
    have f0 := rb_thr hR 0
    have f1 := rb_thr f0 1
    have f2 := rb_thr f0 2
    repeat' (first | exact f0 | exact f1 | exact f2 | refine ite_P (fun q : Int32 × mmS => RB σ q.2) (fun _ => ?_) (fun _ => ?_))
  rcases oc_deviation a b c σ with ⟨v, σ1, h, -⟩ | h | h
  · refine ⟨0, v, σ1, Or.inl ⟨rfl, h⟩, ?_⟩
    have e : σ1 = σ := by
      unfold sp_b_deviation at h
      revert h
      repeat' (first | (intro h; exact (Prod.mk.inj h).2.symm) | refine ite_P (fun q : mmR => q = _ → _) (fun _ => ?_) (fun _ => ?_))
    rw [e]
    exact ⟨fC_refl σ, hm⟩
  · exact ⟨1, 0, σ, Or.inr (Or.inl ⟨rfl, h⟩), fC_refl σ, hm⟩
  · exact ⟨2, 0, σ, Or.inr (Or.inr ⟨rfl, h⟩), fC_refl σ, hm⟩
theorem m1_iff {x : Int32} : x + 1 = 0 ↔ x = -1 := by
  constructor
  · intro h
    have : x = x + 1 - 1 := by simp
    rw [this, h]
    rfl
  · rintro rfl
    rfl
theorem sx_got (a b : Int32) (σ : mmS) : ∃ k v σ1, XI2 "java/lang/IllegalArgumentException" "java/util/NoSuchElementException" (sp_b_got a b σ) k v σ1 ∧ fC σ σ1 ∧ ∀ τ, RB σ τ → (sp_m_got a b τ).2.1 42 0 = k ∧ (k = 0 → (sp_m_got a b τ).1 = v) ∧ RB σ1 (sp_m_got a b τ).2 := by
  by_cases h : cx_b_requireNode a σ
  · refine ⟨1, 0, σ, Or.inr (Or.inl ⟨rfl, by unfold sp_b_got; rw [if_pos h]⟩), fC_refl σ, fun τ hR => ?_⟩
    have e : (sp_m_got a b τ).2 = mmI (mmI τ 42 0 0) 42 0 1 := by unfold sp_m_got; rw [if_neg (wo4.mp h)]; rfl
    rw [e]
    exact ⟨rdS, no1, rb_thr (rb_thr hR 0) 1⟩
  · obtain ⟨j, hj, rfl⟩ := nd_of h
    by_cases h1 : b < 1
    · refine ⟨1, 0, σ, Or.inr (Or.inl ⟨rfl, by unfold sp_b_got; rw [if_neg h, if_pos (show sp_b_isWithin b 1 9 σ = 0 by unfold sp_b_isWithin; rw [if_pos h1])]⟩), fC_refl σ, fun τ hR => ?_⟩
      have e : (sp_m_got (Int32.ofNat j) b τ).2 = mmI (mmI τ 42 0 0) 42 0 1 := by unfold sp_m_got; rw [if_pos (wn4 h), if_pos h1]; rfl
      rw [e]
      exact ⟨rdS, no1, rb_thr (rb_thr hR 0) 1⟩
    · by_cases h9 : 9 < b
      · refine ⟨1, 0, σ, Or.inr (Or.inl ⟨rfl, by unfold sp_b_got; rw [if_neg h, if_pos (show sp_b_isWithin b 1 9 σ = 0 by unfold sp_b_isWithin; rw [if_neg h1, if_pos h9])]⟩), fC_refl σ, fun τ hR => ?_⟩
        have e : (sp_m_got (Int32.ofNat j) b τ).2 = mmI (mmI τ 42 0 0) 42 0 1 := by unfold sp_m_got; rw [if_pos (wn4 h), if_neg h1, if_neg (by rw [Int32.not_le]; exact h9)]; rfl
        rw [e]
        exact ⟨rdS, no1, rb_thr (rb_thr hR 0) 1⟩
      · have hw : ¬ sp_b_isWithin b 1 9 σ = 0 := by unfold sp_b_isWithin; rw [if_neg h1, if_neg h9]; decide
        have hd : idok b := ⟨h1, h9⟩
        have he : ∀ τ, RB σ τ → σ.1 (10 * j + 11) b.toNatClampNeg + 1 = τ.1 58 ((10 * Int32.ofNat j) + b).toNatClampNeg := fun τ hR => by
          have q := hR.1 j hj
          obtain ⟨x0, x1, x2, x3, x4, x5, x6, x7, t0, t1, t2, t3, t4, s0, s1, s2, dv, he, w0, w1, w2, w3, i1, i2, i3, i4, i5, i6, i7, i8, i9, i10, i11, i12⟩ := q
          rw [t10 hj hd]
          exact he _ (id_lt10 hd)
        by_cases c : σ.1 (10 * j + 11) b.toNatClampNeg = -1
        · refine ⟨2, 0, σ, Or.inr (Or.inr ⟨rfl, by unfold sp_b_got; rw [if_neg h, if_neg hw, tj hj, if_pos c]⟩), fC_refl σ, fun τ hR => ?_⟩
          have e : (sp_m_got (Int32.ofNat j) b τ).2 = mmI (mmI τ 42 0 0) 42 0 2 := by unfold sp_m_got; rw [if_pos (wn4 h), if_neg h1, if_pos (Int32.not_lt.mp h9), ← he τ hR, if_pos (m1_iff.mpr c)]; rfl
          rw [e]
          exact ⟨rdS, no2, rb_thr (rb_thr hR 0) 2⟩
        · refine ⟨0, _, σ, Or.inl ⟨rfl, by unfold sp_b_got; rw [if_neg h, if_neg hw, tj hj, if_neg c]⟩, fC_refl σ, fun τ hR => ?_⟩
          have e : sp_m_got (Int32.ofNat j) b τ = (σ.1 (10 * j + 11) b.toNatClampNeg + 1 - 1, mmI τ 42 0 0) := by unfold sp_m_got; rw [if_pos (wn4 h), if_neg h1, if_pos (Int32.not_lt.mp h9), ← he τ hR, if_neg (fun z => c (m1_iff.mp z))]
          rw [e]
          exact ⟨rdS, fun _ => by simp, rb_thr hR 0⟩
theorem sx_frames (h : RB σ τ) : (sp_m_frames τ).1 = σ.1 0 3 ∧ RB σ (sp_m_frames τ).2 := ⟨h.2.2.2.1.symm, rb_thr h 0⟩
theorem sx_last (σ : mmS) (hw : σ.2 0 4 = -1 ∨ ∃ q, q < 2 ^ 57 ∧ σ.2 0 4 = lN q) : ∃ k v σ1, XJ1 "java/util/NoSuchElementException" (sp_b_last σ) k v σ1 ∧ fC σ σ1 ∧ ∀ τ, RB σ τ → (sp_m_last τ).2.1 42 0 = k ∧ (k = 0 → (sp_m_last τ).1 = v) ∧ RB σ1 (sp_m_last τ).2 := by
  rcases hw with h | ⟨q, hq, h⟩
  · refine ⟨1, 0, σ, Or.inr ⟨rfl, by unfold sp_b_last; rw [h, if_pos lg_m1]⟩, fC_refl σ, fun τ hR => ?_⟩
    have ha : τ.1 42 25 = 0 := by
      rcases hR.2.2.2.2.2 with ⟨-, z⟩ | ⟨-, p, hp, z, -⟩
      · exact z
      · rw [h] at z
        exact absurd (by rw [← z]; exact lg_m1) (lg_ne hp)
    have e : (sp_m_last τ).2 = mmI τ 42 0 1 := by unfold sp_m_last; rw [if_pos ha, if_pos ha]
    rw [e]
    exact ⟨rdS, no1, rb_thr hR 1⟩
  · refine ⟨0, _, σ, Or.inl ⟨rfl, by unfold sp_b_last; rw [h, if_neg (lg_ne hq)]⟩, fC_refl σ, fun τ hR => ?_⟩
    have ha : ¬ τ.1 42 25 = 0 ∧ τ.2 42 24 = lN q := by
      rcases hR.2.2.2.2.2 with ⟨z, -⟩ | ⟨z1, p, hp, z, z2⟩
      · rw [h] at z
        exact absurd (by rw [z]; exact lg_m1) (lg_ne hq)
      · rw [h] at z
        exact ⟨by rw [z1]; decide, by rw [z2, ← z]⟩
    have e : sp_m_last τ = (τ.2 42 24, mmI τ 42 0 0) := by unfold sp_m_last; rw [if_neg ha.1, if_neg ha.1]; rfl
    rw [e]
    exact ⟨rdS, fun _ => ha.2, rb_thr hR 0⟩
theorem eq_encode (a b c : Int32) (o : Int32) (ho : o = 0 ∨ o = 1) (σ : mmS) : (sp_b_encode a b o c σ = (.inr "java/lang/IllegalArgumentException", σ) ∧ ((sp_m_encode a b o c σ).2).1 42 0 = 1) ∨ ∃ v, sp_b_encode a b o c σ = (.inl (some (.long v)), σ) ∧ ∀ σ1, ((sp_m_encode a b o c σ1).2) = mmI σ1 42 0 0 ∧ (sp_m_encode a b o c σ1).1 = v := by
  by_cases h : cx_b_require (sp_b_isWithin a 0 31 σ) σ
  · exact Or.inl ⟨by unfold sp_b_encode; rw [if_pos h], by unfold sp_m_encode; rw [if_neg ((wo (h1 := 32) (by decide)).mp h)]; rfl⟩
  · have hm : ∀ σ' : mmS, sp_m_out a 32 σ' = 0 := fun σ' => Classical.byContradiction fun q => h ((wo (h1 := 32) (by decide)).mpr q)
    by_cases h2 : cx_b_require (sp_b_isWithin b 0 63 σ) σ
    · exact Or.inl ⟨by unfold sp_b_encode; rw [if_neg h, if_pos h2], by unfold sp_m_encode; rw [if_pos (hm _), if_neg ((wo (h1 := 64) (by decide)).mp h2)]; rfl⟩
    · have hm2 : ∀ σ' : mmS, sp_m_out b 64 σ' = 0 := fun σ' => Classical.byContradiction fun q => h2 ((wo (h1 := 64) (by decide)).mpr q)
      by_cases h3 : cx_b_require (sp_b_isWithin c 0 1023 σ) σ
      · exact Or.inl ⟨by unfold sp_b_encode; rw [if_neg h, if_neg h2, if_pos h3], by unfold sp_m_encode; rw [if_pos (hm _), if_pos (hm2 _), if_neg ((wo (h1 := 1024) (by decide)).mp h3)]; rfl⟩
      · have hm3 : ∀ σ' : mmS, sp_m_out c 1024 σ' = 0 := fun σ' => Classical.byContradiction fun q => h3 ((wo (h1 := 1024) (by decide)).mpr q)
        obtain ⟨x, hx, ea⟩ := bw (n := 31) (by decide) h
        obtain ⟨y, hy, ec⟩ := bw (n := 63) (by decide) h2
        obtain ⟨v, hv, ev⟩ := bw (n := 1023) (by decide) h3
        refine Or.inr ⟨_, by unfold sp_b_encode; rw [if_neg h, if_neg h2, if_neg h3], fun σ1 => ?_⟩
        unfold sp_m_encode
        rw [if_pos (hm _), if_pos (hm2 _), if_pos (hm3 _), ea, ec, ev]
        rcases ho with rfl | rfl
        · rw [if_pos rfl]
          exact ⟨rfl, (make_eq (by omega) (by omega) (by omega) 0 (Or.inl rfl) _ _).symm⟩
        · rw [if_neg (by decide)]
          exact ⟨rfl, (make_eq (by omega) (by omega) (by omega) 1 (Or.inr rfl) _ _).symm⟩
theorem eq_decode (w : Int64) (σ : mmS) : (sp_b_decode w σ = (.inr "java/lang/IllegalArgumentException", σ) ∧ ((sp_m_decode w σ).2).1 42 0 = 1) ∨ (sp_b_decode w σ = (.inr "java/lang/IllegalStateException", σ) ∧ ((sp_m_decode w σ).2).1 42 0 = 2) ∨ ∃ v, sp_b_decode w σ = (.inl (some (.int v)), σ) ∧ ∀ σ1, (sp_m_decode w σ1).1 = v ∧ (sp_m_decode w σ1).2 = mmI σ1 42 0 0 := by
  obtain ⟨n, hn, rfl⟩ := wb_of w
  have go1 : ∀ σ1 : mmS, sp_m_wrong (lN n) σ1 = 1 → ((sp_m_decode (lN n) σ1).2).1 42 0 = 1 := fun σ1 hq => by
    unfold sp_m_decode
    rw [hq, if_neg (by decide)]
    rfl
  have go2 : ∀ σ1 : mmS, sp_m_wrong (lN n) σ1 = 2 → ((sp_m_decode (lN n) σ1).2).1 42 0 = 2 := fun σ1 hq => by
    unfold sp_m_decode
    rw [hq, if_neg (by decide)]
    rfl
  by_cases h : n < 2 ^ 57
  · have hf : ¬ sp_w_fits (lN n) σ = 0 := fun q => (fits_iff hn σ).mp q h
    by_cases c1 : hN12 (n / 2 ^ 45) = n / 2 ^ 34 % 2048
    · have hh : ¬ sp_w_isHeadRight (lN n) σ = 0 := fun q => (head_iff h σ).mp q c1
      by_cases c2 : hN33 (n / 2 ^ 24) = n % 16777216
      · have hg : ¬ sp_w_isWholeRight (lN n) σ = 0 := fun q => (whole_iff h σ).mp q c2
        have hz : ∀ σ1 : mmS, sp_m_wrong (lN n) σ1 = 0 := fun σ1 => by rw [wrong_in h, if_pos c1, if_pos c2]
        refine Or.inr (Or.inr ?_)
        by_cases hs : sp_w_startupIn (lN n) σ = 0
        · refine ⟨_, by unfold sp_b_decode; rw [if_neg hf, if_neg hh, if_neg hg, if_pos hs], fun σ1 => ?_⟩
          unfold sp_m_decode
          rw [hz σ1, if_pos (by decide), if_pos (by rw [← sta_eq2 h σ]; exact hs)]
          exact ⟨by rw [id_eq2 h σ (mmI σ1 42 0 0), cyc_eq2 h σ (mmI σ1 42 0 0), val_eq2 h σ (mmI σ1 42 0 0)], rfl⟩
        · refine ⟨_, by unfold sp_b_decode; rw [if_neg hf, if_neg hh, if_neg hg, if_neg hs], fun σ1 => ?_⟩
          unfold sp_m_decode
          rw [hz σ1, if_pos (by decide), if_neg (by rw [← sta_eq2 h σ]; exact hs)]
          exact ⟨by rw [id_eq2 h σ (mmI σ1 42 0 0), cyc_eq2 h σ (mmI σ1 42 0 0), val_eq2 h σ (mmI σ1 42 0 0)], rfl⟩
      · have hg : sp_w_isWholeRight (lN n) σ = 0 := (whole_iff h σ).mpr c2
        exact Or.inr (Or.inl ⟨by unfold sp_b_decode; rw [if_neg hf, if_neg hh, if_pos hg], go2 σ (by rw [wrong_in h, if_pos c1, if_neg c2])⟩)
    · have hh : sp_w_isHeadRight (lN n) σ = 0 := (head_iff h σ).mpr c1
      exact Or.inl ⟨by unfold sp_b_decode; rw [if_neg hf, if_pos hh], go1 σ (by rw [wrong_in h, if_neg c1])⟩
  · have hf : sp_w_fits (lN n) σ = 0 := (fits_iff hn σ).mpr h
    exact Or.inl ⟨by unfold sp_b_decode; rw [if_pos hf], go1 σ (wrong_out hn h σ)⟩
theorem sx_encode (a b c o : Int32) (ho : o = 0 ∨ o = 1) (σ : mmS) : ∃ k v σ1, XJ1 "java/lang/IllegalArgumentException" (sp_b_encode a b o c σ) k v σ1 ∧ fC σ σ1 ∧ ∀ τ, RB σ τ → (sp_m_encode a b o c τ).2.1 42 0 = k ∧ (k = 0 → (sp_m_encode a b o c τ).1 = v) ∧ RB σ1 (sp_m_encode a b o c τ).2 := by
  have hall : ∀ τ, RB σ τ → RB σ (sp_m_encode a b o c τ).2 := fun τ hR => by
    unfold sp_m_encode
    have f0 := rb_thr hR 0
    have f1 := rb_thr f0 1
    repeat' (first | exact f0 | exact f1 | refine ite_P (fun q : Int64 × mmS => RB σ q.2) (fun _ => ?_) (fun _ => ?_))
  by_cases h : cx_b_require (sp_b_isWithin a 0 31 σ) σ
  · refine ⟨1, 0, σ, Or.inr ⟨rfl, by unfold sp_b_encode; rw [if_pos h]⟩, fC_refl σ, fun τ hR => ⟨?_, no1, hall τ hR⟩⟩
    unfold sp_m_encode
    rw [if_neg ((wo (h1 := 32) (by decide)).mp h)]
    exact rdS
  · have hm : ∀ σ' : mmS, sp_m_out a 32 σ' = 0 := fun σ' => Classical.byContradiction fun q => h ((wo (h1 := 32) (by decide)).mpr q)
    by_cases h2 : cx_b_require (sp_b_isWithin b 0 63 σ) σ
    · refine ⟨1, 0, σ, Or.inr ⟨rfl, by unfold sp_b_encode; rw [if_neg h, if_pos h2]⟩, fC_refl σ, fun τ hR => ⟨?_, no1, hall τ hR⟩⟩
      unfold sp_m_encode
      rw [if_pos (hm _), if_neg ((wo (h1 := 64) (by decide)).mp h2)]
      exact rdS
    · have hm2 : ∀ σ' : mmS, sp_m_out b 64 σ' = 0 := fun σ' => Classical.byContradiction fun q => h2 ((wo (h1 := 64) (by decide)).mpr q)
      by_cases h3 : cx_b_require (sp_b_isWithin c 0 1023 σ) σ
      · refine ⟨1, 0, σ, Or.inr ⟨rfl, by unfold sp_b_encode; rw [if_neg h, if_neg h2, if_pos h3]⟩, fC_refl σ, fun τ hR => ⟨?_, no1, hall τ hR⟩⟩
        unfold sp_m_encode
        rw [if_pos (hm _), if_pos (hm2 _), if_neg ((wo (h1 := 1024) (by decide)).mp h3)]
        exact rdS
      · have hm3 : ∀ σ' : mmS, sp_m_out c 1024 σ' = 0 := fun σ' => Classical.byContradiction fun q => h3 ((wo (h1 := 1024) (by decide)).mpr q)
        obtain ⟨x, hx, ea⟩ := bw (n := 31) (by decide) h
        obtain ⟨y, hy, ec⟩ := bw (n := 63) (by decide) h2
        obtain ⟨v, hv, ev⟩ := bw (n := 1023) (by decide) h3
        refine ⟨0, _, σ, Or.inl ⟨rfl, by unfold sp_b_encode; rw [if_neg h, if_neg h2, if_neg h3]⟩, fC_refl σ, fun τ hR => ⟨?_, fun _ => ?_, hall τ hR⟩⟩
        · unfold sp_m_encode
          rw [if_pos (hm _), if_pos (hm2 _), if_pos (hm3 _)]
          rcases ho with rfl | rfl
          · rw [if_pos rfl]; exact rdS
          · rw [if_neg (by decide)]; exact rdS
        · unfold sp_m_encode
          rw [if_pos (hm _), if_pos (hm2 _), if_pos (hm3 _), ea, ec, ev]
          rcases ho with rfl | rfl
          · rw [if_pos rfl]
            exact (make_eq (by omega) (by omega) (by omega) 0 (Or.inl rfl) _ _).symm
          · rw [if_neg (by decide)]
            exact (make_eq (by omega) (by omega) (by omega) 1 (Or.inr rfl) _ _).symm
theorem sx_decode (x : Int64) (σ : mmS) : ∃ k v σ1, XI2 "java/lang/IllegalArgumentException" "java/lang/IllegalStateException" (sp_b_decode x σ) k v σ1 ∧ fC σ σ1 ∧ ∀ τ, RB σ τ → (sp_m_decode x τ).2.1 42 0 = k ∧ (k = 0 → (sp_m_decode x τ).1 = v) ∧ RB σ1 (sp_m_decode x τ).2 := by
  have hall : ∀ τ, RB σ τ → RB σ (sp_m_decode x τ).2 := fun τ hR => by
    unfold sp_m_decode
    have f0 := rb_thr hR (sp_m_wrong x τ)
    repeat' (first | exact f0 | refine ite_P (fun q : Int32 × mmS => RB σ q.2) (fun _ => ?_) (fun _ => ?_))
  have hwr : ∀ τ τ' : mmS, sp_m_wrong x τ = sp_m_wrong x τ' := fun _ _ => rfl
  have thr : ∀ τ, (sp_m_decode x τ).2.1 42 0 = sp_m_wrong x τ := fun τ => by
    unfold sp_m_decode
    refine ite_P (fun q : Int32 × mmS => q.2.1 42 0 = sp_m_wrong x τ) (fun _ => ?_) (fun _ => rdS)
    exact ite_P (fun q : Int32 × mmS => q.2.1 42 0 = sp_m_wrong x τ) (fun _ => rdS) (fun _ => rdS)
  rcases eq_decode x σ with ⟨h, hq⟩ | ⟨h, hq⟩ | ⟨v, h, hq⟩
  · exact ⟨1, 0, σ, Or.inr (Or.inl ⟨rfl, h⟩), fC_refl σ, fun τ hR => ⟨(thr τ).trans ((hwr τ σ).trans ((thr σ).symm.trans hq)), no1, hall τ hR⟩⟩
  · exact ⟨2, 0, σ, Or.inr (Or.inr ⟨rfl, h⟩), fC_refl σ, fun τ hR => ⟨(thr τ).trans ((hwr τ σ).trans ((thr σ).symm.trans hq)), no2, hall τ hR⟩⟩
  · refine ⟨0, v, σ, Or.inl ⟨rfl, h⟩, fC_refl σ, fun τ hR => ⟨?_, fun _ => (hq τ).1, hall τ hR⟩⟩
    rw [(hq τ).2]
    exact rdS
/-- class and reference in one state -/
theorem rb_in {σ1 σ2 : mmS} (h : RB σ σ) (hf : fC σ σ1) (h1 : σ2.1 = σ1.1) (h2 : σ2.2 42 = σ1.2 42) : RB σ σ2 := by
  have e1 : ∀ k, 42 ≤ k → σ2.1 k = σ.1 k := fun k hk => by rw [h1]; exact hf.1 k hk
  have e2 : σ2.2 42 = σ.2 42 := h2.trans (hf.2 42 (by decide))
  refine ⟨fun i hi => ?_, ?_⟩
  · have hr := h.1 i hi
    unfold RI at hr ⊢
    simpa only [e1, Nat.reduceLeDiff] using hr
  · have hb := h.2
    unfold BI at hb ⊢
    rw [e1 42 (by decide), e2]
    exact hb
theorem rb_out {σ1 σ2 σ3 : mmS} (h : RB σ1 σ3) (h1 : σ2.1 = σ1.1) (h2 : σ2.2 0 = σ1.2 0) (hm : hO σ2 σ3) : RB σ3 σ3 := by
  have e1 : ∀ k, k < 42 → σ3.1 k = σ1.1 k := fun k hk => by rw [hm.1 k hk, h1]
  have e2 : σ3.2 0 = σ1.2 0 := (hm.2 0 (by decide)).trans h2
  refine ⟨fun i hi => ?_, ?_⟩
  · have hr := h.1 i hi
    have z : ∀ c, c < 12 → σ3.1 (10 * i + c) = σ1.1 (10 * i + c) := fun c hc => e1 _ (by omega)
    have z2 := z 2 (by decide)
    have z3 := z 3 (by decide)
    have z4 := z 4 (by decide)
    have z6 := z 6 (by decide)
    have z7 := z 7 (by decide)
    have z10 := z 10 (by decide)
    have z11 := z 11 (by decide)
    unfold RI at hr ⊢
    simp only [z2, z3, z4, z6, z7, z10, z11]
    exact hr
  · have hb := h.2
    unfold BI at hb ⊢
    rw [e1 0 (by decide), e2]
    exact hb
end OS
