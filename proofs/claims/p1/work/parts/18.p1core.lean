/-! one call on a fresh object: class and reference answer alike -/
section PC
variable {N : Nat} {xs : Nat → Int32} {σ : mmS}
/-- what is known of the cells behind the constructors -/
def Fr (σ : mmS) : Prop := (∀ j, j < 4 → σ.1 (10 * j + 2) 7 = 0) ∧ (∀ j, j < 4 → ∀ i, i < 4 → σ.1 (10 * j + 6) i = 1000 ∧ σ.1 (10 * j + 7) i = 1000) ∧ (∀ j, j < 4 → ∀ i, i < 10 → σ.1 (10 * j + 11) i = -1) ∧
  (σ.1 0 2 = 0 ∧ σ.1 0 3 = 0 ∧ σ.2 0 4 = -1) ∧ (∀ j, j < 4 → σ.1 44 j = 0) ∧ (∀ i, i < 32 → σ.1 57 i = 99) ∧ (∀ i, i < 40 → σ.1 58 i = 0) ∧ (σ.1 42 22 = 0 ∧ σ.1 42 25 = 0 ∧ σ.1 42 27 = 0)
theorem wo {a h h1 : Int32} {σ σ' : mmS} (e : h1.toInt = h.toInt + 1) : sp_b_isWithin a 0 h σ = 0 ↔ ¬ sp_m_out a h1 σ' = 0 := by
  unfold sp_b_isWithin sp_m_out
  by_cases h0 : a < 0
  · rw [if_pos h0, if_pos h0]
    exact ⟨fun _ => by decide, fun _ => rfl⟩
  · rw [if_neg h0, if_neg h0]
    by_cases h2 : h < a
    · have h3 : ¬ a < h1 := by rw [Int32.lt_iff_toInt_lt] at h2 ⊢; omega
      rw [if_pos h2, if_neg h3]
      exact ⟨fun _ => by decide, fun _ => rfl⟩
    · have h3 : a < h1 := by rw [Int32.lt_iff_toInt_lt] at h2 ⊢; omega
      rw [if_neg h2, if_pos h3]
      exact ⟨fun q => absurd q (by decide), fun q => absurd rfl q⟩
theorem wo4 {a : Int32} {σ σ' : mmS} : cx_b_requireNode a σ ↔ ¬ sp_m_out a 4 σ' = 0 := wo (by decide)
theorem no1 {P : Prop} : (1 : Int32) = 0 → P := fun h => absurd h (by decide)
theorem no2 {P : Prop} : (2 : Int32) = 0 → P := fun h => absurd h (by decide)
abbrev LVl : List (Nat × Value) := [(0, .ref 1000), (1, .ref 0), (2, .ref 42), (3, .ref 65), (4, .int (1 : Int32))]
theorem sw44 {j : Nat} (hj : j < 4) (σ : mmS) : (sp_n_switchOn j σ).1 44 = σ.1 44 := by
  have h : j = 0 ∨ j = 1 ∨ j = 2 ∨ j = 3 := by omega
  rcases h with rfl | rfl | rfl | rfl <;> rfl
theorem off44 {j : Nat} (hj : j < 4) (v : Int32) (σ : mmS) : (mmI σ (10 * j + 2) 7 v).1 44 = σ.1 44 := by
  have h : j = 0 ∨ j = 1 ∨ j = 2 ∨ j = 3 := by omega
  rcases h with rfl | rfl | rfl | rfl <;> rfl
theorem p1_0 (hN : 66 ≤ N) (hF : Fr σ) : ∃ σ', Ev N 7 xs (132, 124, LVl, [], 0, σ) (mmPI σ' 1) := by
  by_cases h : cx_b_requireNode (xs 2) σ
  · exact ⟨_, law_0 hN σ σ 1 (lw_power_1 hN (xs 2) σ σ (by unfold sp_b_power; rw [if_pos h])) (by unfold sp_m_power; rw [if_neg (wo4.mp h)]; rfl)⟩
  · have hj := n4_lt (vn_of h)
    have hm : sp_m_out (xs 2) 4 (sp_n_switchOn (xs 2).toNatClampNeg σ) = 0 := Classical.byContradiction fun q => h (wo4.mpr q)
    refine ⟨_, law_0 hN σ (sp_n_switchOn (xs 2).toNatClampNeg σ) 0 (lw_power_ok hN (xs 2) σ _ (by unfold sp_b_power; rw [if_neg h, if_pos (aw0 (hF.1 _ hj))])) ?_⟩
    unfold sp_m_power
    rw [if_pos hm, if_pos (wk0 (fun j h9 => by rw [sw44 hj]; exact hF.2.2.2.2.1 j h9) hj)]
    rfl
theorem p1_1 (hN : 66 ≤ N) (hF : Fr σ) : ∃ σ', Ev N 7 xs (132, 160, LVl, [], 0, σ) (mmPI σ' 1) := by
  by_cases h : cx_b_requireNode (xs 2) σ
  · exact ⟨_, law_1 hN σ σ 1 (lw_off_1 hN (xs 2) σ σ (by unfold sp_b_off; rw [if_pos h])) (by unfold sp_m_off; rw [if_neg (wo4.mp h)]; rfl) no1⟩
  · have hj := n4_lt (vn_of h)
    refine ⟨_, law_1 hN σ _ 0 (lw_off_ok hN (xs 2) σ _ _ (by unfold sp_b_off; rw [if_neg h])) ?_ (fun _ => ?_)⟩
    · unfold sp_m_off
      rw [if_pos (Classical.byContradiction fun q => h (wo4.mpr q))]
      rfl
    · unfold sp_m_off
      rw [if_pos (Classical.byContradiction fun q => h (wo4.mpr q))]
      have e1 : (mmI σ (10 * (xs 2).toNatClampNeg + 2) 7 0).1 44 (xs 2).toNatClampNeg = 0 := by rw [off44 hj]; exact hF.2.2.2.2.1 _ hj
      show lg_cmp ((σ.1 (10 * (xs 2).toNatClampNeg + 2) 7).toInt64) (((mmI σ (10 * (xs 2).toNatClampNeg + 2) 7 0).1 44 (xs 2).toNatClampNeg).toInt64) = 0
      rw [e1, hF.1 _ hj]
      exact lgS _
theorem p1_2 (hN : 66 ≤ N) (hF : Fr σ) : ∃ σ', Ev N 7 xs (132, 216, LVl, [], 0, σ) (mmPI σ' 1) := by
  by_cases h : cx_b_require (sp_b_isWithin (xs 2) 1 200 σ) σ
  · refine ⟨_, law_2 hN σ σ 1 (lw_run_1 hN (xs 2) σ σ hF.1 (by unfold sp_b_runO; rw [if_pos h])) hF.2.2.2.2.1 ?_ no1⟩
    unfold cx_b_require sp_b_isWithin at h
    unfold sp_m_runO
    by_cases h1 : xs 2 < 1
    · rw [if_pos h1]; rfl
    · rw [if_neg h1] at h ⊢
      by_cases h2 : (200 : Int32) < xs 2
      · rw [if_neg (by rw [Int32.not_le]; exact h2)]; rfl
      · rw [if_neg h2] at h; exact absurd h (by decide)
  · have h0 := h
    unfold cx_b_require sp_b_isWithin at h
    by_cases h1 : xs 2 < 1
    · rw [if_pos h1] at h; exact absurd rfl h
    · rw [if_neg h1] at h
      by_cases h2 : (200 : Int32) < xs 2
      · rw [if_pos h2] at h; exact absurd rfl h
      · refine ⟨_, law_2 hN σ _ 0 (lw_run_ok hN (xs 2) σ _ _ hF.1 (by unfold sp_b_runO; rw [if_neg h0])) hF.2.2.2.2.1 ?_ (fun _ => ?_)⟩
        · unfold sp_m_runO
          rw [if_neg h1, if_pos (Int32.not_lt.mp h2)]
          rfl
        · unfold sp_m_runO
          rw [if_neg h1, if_pos (Int32.not_lt.mp h2)]
          show lg_cmp ((σ.1 0 3 - σ.1 0 3).toInt64) ((σ.1 42 22 - σ.1 42 22).toInt64) = 0
          rw [i_sub0, i_sub0]
          exact lgS _
theorem p1_3 (hN : 66 ≤ N) (hF : Fr σ) : ∃ σ', Ev N 7 xs (132, 272, LVl, [], 0, σ) (mmPI σ' 1) := by
  by_cases h : cx_b_requireNode (xs 2) σ
  · exact ⟨_, law_3 hN σ σ 1 (lw_value_1 hN (xs 2) (xs 3) σ σ (by unfold sp_b_value; rw [if_pos h])) (by unfold sp_m_value; rw [if_neg (wo4.mp h)]; rfl)⟩
  · have hj := n4_lt (vn_of h)
    have hm : ∀ σ' : mmS, sp_m_out (xs 2) 4 σ' = 0 := fun σ' => Classical.byContradiction fun q => h (wo4.mpr q)
    by_cases h2 : cx_b_require (sp_b_isWithin (xs 3) 0 1023 σ) σ
    · exact ⟨_, law_3 hN σ σ 1 (lw_value_1 hN (xs 2) (xs 3) σ σ (by unfold sp_b_value; rw [if_neg h, if_pos h2])) (by unfold sp_m_value; rw [if_pos (hm _), if_neg ((wo (h1 := 1024) (by decide)).mp h2)]; rfl)⟩
    · have hm2 : sp_m_out (xs 3) 1024 σ = 0 := Classical.byContradiction fun q => h2 ((wo (h1 := 1024) (by decide)).mpr q)
      exact ⟨_, law_3 hN σ σ 2 (lw_value_2 hN (xs 2) (xs 3) σ σ (by unfold sp_b_value; rw [if_neg h, if_neg h2, if_pos (hF.1 _ hj)])) (by unfold sp_m_value; rw [if_pos (hm _), if_pos hm2, if_pos (hF.2.2.2.2.1 _ hj)]; rfl)⟩
theorem p1_4 (hN : 66 ≤ N) (hF : Fr σ) : ∃ σ', Ev N 7 xs (132, 320, LVl, [], 0, σ) (mmPI σ' 1) := by
  have one : ∀ k, sp_b_post (xs 2) (xs 3) (xs 4) (xs 5) (xs 6) σ = (.inr (if k = 1 then "java/lang/IllegalArgumentException" else "java/lang/IllegalStateException"), σ) → (k = 1 ∨ k = 2) → (sp_m_post (xs 2) (xs 3) (xs 4) (xs 5) (xs 6) σ).1 42 0 = k → ∃ σ', Ev N 7 xs (132, 320, LVl, [], 0, σ) (mmPI σ' 1) := by
    intro k hr hk hq
    rcases hk with rfl | rfl
    · exact ⟨_, law_4 hN σ σ 1 (lw_post_1 hN (xs 2) (xs 3) (xs 4) (xs 5) (xs 6) σ σ hr) hq⟩
    · exact ⟨_, law_4 hN σ σ 2 (lw_post_2 hN (xs 2) (xs 3) (xs 4) (xs 5) (xs 6) σ σ hr) hq⟩
  by_cases h : cx_b_requireNode (xs 2) σ
  · exact one 1 (by unfold sp_b_post; rw [if_pos h]; rfl) (Or.inl rfl) (by unfold sp_m_post; rw [if_neg (wo4.mp h)]; rfl)
  · have hj := n4_lt (vn_of h)
    have hm : ∀ σ' : mmS, sp_m_out (xs 2) 4 σ' = 0 := fun σ' => Classical.byContradiction fun q => h (wo4.mpr q)
    by_cases h2 : cx_b_require (sp_b_isWithin (xs 3) 5 9 σ) σ
    · refine one 1 (by unfold sp_b_post; rw [if_neg h, if_pos h2]; rfl) (Or.inl rfl) ?_
      unfold cx_b_require sp_b_isWithin at h2
      unfold sp_m_post
      rw [if_pos (hm _)]
      by_cases a5 : xs 3 < 5
      · rw [if_pos a5]; rfl
      · rw [if_neg a5] at h2 ⊢
        by_cases a9 : (9 : Int32) < xs 3
        · rw [if_pos a9]; rfl
        · rw [if_neg a9] at h2; exact absurd h2 (by decide)
    · have h2' := h2
      unfold cx_b_require sp_b_isWithin at h2'
      by_cases a5 : xs 3 < 5
      · rw [if_pos a5] at h2'; exact absurd rfl h2'
      · rw [if_neg a5] at h2'
        by_cases a9 : (9 : Int32) < xs 3
        · rw [if_pos a9] at h2'; exact absurd rfl h2'
        · by_cases h3 : cx_b_require (sp_b_isWithin (xs 4) 0 1023 σ) σ
          · exact one 1 (by unfold sp_b_post; rw [if_neg h, if_neg h2, if_pos h3]; rfl) (Or.inl rfl) (by unfold sp_m_post; rw [if_pos (hm _), if_neg a5, if_neg a9, if_neg ((wo (h1 := 1024) (by decide)).mp h3)]; rfl)
          · have hm3 : sp_m_out (xs 4) 1024 σ = 0 := Classical.byContradiction fun q => h3 ((wo (h1 := 1024) (by decide)).mpr q)
            have fin : ∀ q : Int32, xs 6 = q → (q = 1 ∨ q = 2 ∨ q = 4) → ∃ σ', Ev N 7 xs (132, 320, LVl, [], 0, σ) (mmPI σ' 1) := by
              intro q hq hq3
              by_cases h5 : cx_b_require (sp_b_isWithin (xs 5) 0 (xs 6 - 1) σ) σ
              · have hm5 : ¬ sp_m_out (xs 5) (xs 6) σ = 0 := (wo (by rw [hq]; rcases hq3 with rfl | rfl | rfl <;> decide)).mp h5
                refine one 1 ?_ (Or.inl rfl) ?_
                · unfold sp_b_post
                  rw [if_neg h, if_neg h2, if_neg h3, if_pos h5]
                  rw [hq]
                  rcases hq3 with rfl | rfl | rfl <;> rfl
                · unfold sp_m_post
                  rw [if_pos (hm _), if_neg a5, if_neg a9, if_pos hm3, if_neg hm5]
                  rw [hq]
                  rcases hq3 with rfl | rfl | rfl <;> rfl
              · have hm5 : sp_m_out (xs 5) (xs 6) σ = 0 := Classical.byContradiction fun z => h5 ((wo (by rw [hq]; rcases hq3 with rfl | rfl | rfl <;> decide)).mpr z)
                have ho : cx_b_requireNotOff (xs 2) σ := hF.1 _ hj
                have hs : σ.1 44 (xs 2).toNatClampNeg = 0 := hF.2.2.2.2.1 _ hj
                refine one 2 ?_ (Or.inr rfl) ?_
                · unfold sp_b_post
                  rw [if_neg h, if_neg h2, if_neg h3, if_neg h5, if_pos ho]
                  rw [hq]
                  rcases hq3 with rfl | rfl | rfl <;> rfl
                · unfold sp_m_post
                  rw [if_pos (hm _), if_neg a5, if_neg a9, if_pos hm3, if_pos hm5, if_pos hs]
                  rw [hq]
                  rcases hq3 with rfl | rfl | rfl <;> rfl
            by_cases q1 : xs 6 = 1
            · exact fin 1 q1 (Or.inl rfl)
            · by_cases q2 : xs 6 = 2
              · exact fin 2 q2 (Or.inr (Or.inl rfl))
              · by_cases q4 : xs 6 = 4
                · exact fin 4 q4 (Or.inr (Or.inr rfl))
                · exact one 1 (by unfold sp_b_post; rw [if_neg h, if_neg h2, if_neg h3, if_neg q1, if_neg q2, if_neg q4]; rfl) (Or.inl rfl) (by unfold sp_m_post; rw [if_pos (hm _), if_neg a5, if_neg a9, if_pos hm3, if_neg q1, if_neg q2, if_neg q4]; rfl)
theorem p1_5 (hN : 66 ≤ N) (_hF : Fr σ) : ∃ σ', Ev N 7 xs (132, 404, LVl, [], 0, σ) (mmPI σ' 1) := by
  obtain ⟨n, hn, hw⟩ := wb_of (((xs 2).toInt64 <<< ((32 : Int32).toInt64 &&& 63)) ||| ((xs 3).toInt64 &&& (4294967295 : Int64)))
  by_cases h : n < 2 ^ 57
  · have hf : ¬ cx_b_require (sp_w_fits (lN n) σ) σ := fun q => (fits_iff hn σ).mp q h
    refine ⟨_, law_5 hN σ _ 0 (lw_disturb_ok hN _ σ _ (by rw [hw]; unfold sp_b_disturb; rw [if_neg hf])) ?_⟩
    rw [hw]
    unfold sp_m_disturb
    rw [if_neg (fun q => by have := (lgL (b := 0) (by omega) (by decide)).mp q; omega), if_pos (show lg_cmp (lN n) (144115188075855872 : Int64) < 0 from (lgL (b := 144115188075855872) (by omega) (by decide)).mpr (by omega))]
    rfl
  · have hf : cx_b_require (sp_w_fits (lN n) σ) σ := (fits_iff hn σ).mpr h
    refine ⟨_, law_5 hN σ _ 1 (lw_disturb_1 hN _ σ _ (by rw [hw]; unfold sp_b_disturb; rw [if_pos hf])) ?_⟩
    rw [hw]
    unfold sp_m_disturb
    by_cases h63 : n < 2 ^ 63
    · rw [if_neg (fun q => by have := (lgL (b := 0) h63 (by decide)).mp q; omega), if_neg (fun q => by have := (lgL (b := 144115188075855872) h63 (by decide)).mp q; omega)]
      rfl
    · rw [if_pos (lgNeg hn h63)]
      rfl
theorem p1_6 (hN : 66 ≤ N) (hF : Fr σ) : ∃ σ', Ev N 7 xs (132, 472, LVl, [], 0, σ) (mmPI σ' 1) := by
  obtain ⟨-, -, -, ⟨hl, -, -⟩, -, -, -, -, -, hm⟩ := hF
  have e0 : (1000 : Int32) - 0 = 1000 := by decide
  by_cases h1 : xs 2 < 0
  · refine ⟨_, law_6 hN σ _ 1 (lw_lose_1 hN (xs 2) σ σ (by unfold sp_b_lose cx_b_require sp_b_isWithin; rw [if_pos h1]; rfl)) ?_ no1⟩
    unfold sp_m_lose
    rw [if_pos h1]
    rfl
  · by_cases h2 : (1000 : Int32) < xs 2
    · refine ⟨_, law_6 hN σ _ 1 (lw_lose_1 hN (xs 2) σ σ (by unfold sp_b_lose cx_b_require sp_b_isWithin; rw [hl, e0, if_neg h1, if_pos h2]; rfl)) ?_ no1⟩
      unfold sp_m_lose
      rw [hm, e0, if_neg h1, if_neg (by rw [Int32.not_le]; exact h2)]
      rfl
    · refine ⟨_, law_6 hN σ _ 0 (lw_lose_ok hN (xs 2) σ _ _ (by unfold sp_b_lose cx_b_require sp_b_isWithin; rw [hl, e0, if_neg h1, if_neg h2, if_neg (by decide)])) ?_ (fun _ => ?_)⟩
      · unfold sp_m_lose
        rw [if_neg h1, if_pos (show xs 2 ≤ 1000 - (mmJ (mmI σ 0 2 (0 + xs 2)) 65 0 (0 + xs 2).toInt64).1 42 27 by show xs 2 ≤ 1000 - σ.1 42 27; rw [hm, e0]; exact Int32.not_lt.mp h2)]
        rfl
      · unfold sp_m_lose
        rw [if_neg h1, if_pos (show xs 2 ≤ 1000 - (mmJ (mmI σ 0 2 (0 + xs 2)) 65 0 (0 + xs 2).toInt64).1 42 27 by show xs 2 ≤ 1000 - σ.1 42 27; rw [hm, e0]; exact Int32.not_lt.mp h2)]
        show lg_cmp ((0 + xs 2).toInt64) ((σ.1 42 27 + xs 2).toInt64) = 0
        rw [hm]
        exact lgS _
theorem p1_7 (hN : 66 ≤ N) (hF : Fr σ) : ∃ σ', Ev N 7 xs (132, 528, LVl, [], 0, σ) (mmPI σ' 1) := by
  by_cases h : cx_b_requireNode (xs 2) σ
  · exact ⟨_, law_7 hN σ σ 1 (lw_state_1 hN (xs 2) σ σ (by unfold sp_b_state; rw [if_pos h])) (by unfold sp_m_state; rw [if_neg (wo4.mp h)]; rfl) no1⟩
  · have hj := n4_lt (vn_of h)
    refine ⟨_, law_7 hN σ _ 0 (lw_state_ok hN (xs 2) σ _ _ (by unfold sp_b_state; rw [if_neg h])) ?_ (fun _ => ?_)⟩
    · unfold sp_m_state
      rw [if_pos (Classical.byContradiction fun q => h (wo4.mpr q))]
      rfl
    · unfold sp_m_state
      rw [if_pos (Classical.byContradiction fun q => h (wo4.mpr q))]
      show lg_cmp ((σ.1 (10 * (xs 2).toNatClampNeg + 2) 7).toInt64) ((σ.1 44 (xs 2).toNatClampNeg).toInt64) = 0
      rw [hF.1 _ hj, hF.2.2.2.2.1 _ hj]
      exact lgS _
theorem p1_8 (hN : 66 ≤ N) (hF : Fr σ) : ∃ σ', Ev N 7 xs (132, 584, LVl, [], 0, σ) (mmPI σ' 1) := by
  by_cases h : cx_b_requireNode (xs 2) σ
  · exact ⟨_, law_8 hN σ σ 1 (lw_clock_1 hN (xs 2) (xs 3) σ σ hF.1 (by unfold sp_b_clockO; rw [if_pos h])) hF.2.2.2.2.1 (by unfold sp_m_clockO; rw [if_neg (wo4.mp h)]; rfl) no1⟩
  · have hm : ∀ σ' : mmS, sp_m_out (xs 2) 4 σ' = 0 := fun σ' => Classical.byContradiction fun q => h (wo4.mpr q)
    by_cases h2 : cx_b_require (sp_b_isWithin (xs 3) 0 5 σ) σ
    · exact ⟨_, law_8 hN σ σ 1 (lw_clock_1 hN (xs 2) (xs 3) σ σ hF.1 (by unfold sp_b_clockO; rw [if_neg h, if_pos h2])) hF.2.2.2.2.1 (by unfold sp_m_clockO; rw [if_pos (hm _), if_neg ((wo (h1 := 6) (by decide)).mp h2)]; rfl) no1⟩
    · have hm2 : ∀ σ' : mmS, sp_m_out (xs 3) 6 σ' = 0 := fun σ' => Classical.byContradiction fun q => h2 ((wo (h1 := 6) (by decide)).mpr q)
      exact ⟨_, law_8 hN σ σ 2 (lw_clock_2 hN (xs 2) (xs 3) σ σ hF.1 (by unfold sp_b_clockO; rw [if_neg h, if_neg h2])) hF.2.2.2.2.1 (by unfold sp_m_clockO; rw [if_pos (hm _), if_pos (hm2 _)]; rfl) no2⟩
theorem dev_lt {a b c : Int32} (ha : vp_in a 4) (hb : vp_in b 4) (hc : c = 0 ∨ c = 1) : (((8 : Int32) * a + (2 : Int32) * b) + c).toNatClampNeg < 32 := Nat.not_le.mp fun q => vx32 ha hb hc (Or.inr q)
theorem p1_9 (hN : 66 ≤ N) (hF : Fr σ) : ∃ σ', Ev N 7 xs (132, 652, LVl, [], 0, σ) (mmPI σ' 1) := by
  have go : ∀ o : Int32, (o = 0 ∨ o = 1) → ∃ k, (k = 1 ∧ sp_b_deviation (xs 2) (xs 3) o σ = (.inr "java/lang/IllegalArgumentException", σ) ∨ k = 2 ∧ sp_b_deviation (xs 2) (xs 3) o σ = (.inr "java/util/NoSuchElementException", σ)) ∧ ((sp_m_deviation (xs 2) (xs 3) o σ).2).1 42 0 = k := by
    intro o ho
    by_cases h : cx_b_requireNode (xs 2) σ
    · exact ⟨1, Or.inl ⟨rfl, by unfold sp_b_deviation; rw [if_pos h]⟩, by unfold sp_m_deviation; rw [if_neg (wo4.mp h)]; rfl⟩
    · have hm : ∀ σ' : mmS, sp_m_out (xs 2) 4 σ' = 0 := fun σ' => Classical.byContradiction fun q => h (wo4.mpr q)
      by_cases h2 : cx_b_requireNode (xs 3) σ
      · exact ⟨1, Or.inl ⟨rfl, by unfold sp_b_deviation; rw [if_neg h, if_pos h2]⟩, by unfold sp_m_deviation; rw [if_pos (hm _), if_neg (wo4.mp h2)]; rfl⟩
      · have hm2 : ∀ σ' : mmS, sp_m_out (xs 3) 4 σ' = 0 := fun σ' => Classical.byContradiction fun q => h2 (wo4.mpr q)
        have hj := n4_lt (vn_of h)
        have hi := n4_lt (vn_of h2)
        refine ⟨2, Or.inr ⟨rfl, ?_⟩, ?_⟩
        · unfold sp_b_deviation
          rw [if_neg h, if_neg h2]
          by_cases he : xs 2 = xs 3
          · rw [if_pos he]
          · rw [if_neg he]
            have hh : sp_d_has (xs 2).toNatClampNeg (xs 3) o σ = 0 := by
              unfold sp_d_has sp_d_of
              rcases ho with rfl | rfl
              · rw [if_pos rfl, if_pos (hF.2.1 _ hj _ hi).1]
              · rw [if_neg (show ¬ (1 : Int32) = 0 by decide), if_pos (hF.2.1 _ hj _ hi).2]
            rw [if_pos hh]
        · unfold sp_m_deviation
          rw [if_pos (hm _), if_pos (hm2 _)]
          rcases ho with rfl | rfl
          · rw [if_pos rfl, if_pos (hF.2.2.2.2.2.1 _ (dev_lt (vn_of h) (vn_of h2) (Or.inl rfl)))]; rfl
          · rw [if_neg (by decide), if_pos (hF.2.2.2.2.2.1 _ (dev_lt (vn_of h) (vn_of h2) (Or.inr rfl)))]; rfl
  by_cases hb : xs 4 = 0
  · obtain ⟨k, ⟨rfl, hr⟩ | ⟨rfl, hr⟩, hq⟩ := go 0 (Or.inl rfl)
    · exact ⟨_, law_9f hN σ σ 1 hb (lw_deviation_1 hN (xs 2) (xs 3) 0 σ σ hr) hq no1⟩
    · exact ⟨_, law_9f hN σ σ 2 hb (lw_deviation_2 hN (xs 2) (xs 3) 0 σ σ hr) hq no2⟩
  · obtain ⟨k, ⟨rfl, hr⟩ | ⟨rfl, hr⟩, hq⟩ := go 1 (Or.inr rfl)
    · exact ⟨_, law_9t hN σ σ 1 hb (lw_deviation_1 hN (xs 2) (xs 3) 1 σ σ hr) hq no1⟩
    · exact ⟨_, law_9t hN σ σ 2 hb (lw_deviation_2 hN (xs 2) (xs 3) 1 σ σ hr) hq no2⟩
theorem p1_10 (hN : 66 ≤ N) (hF : Fr σ) : ∃ σ', Ev N 7 xs (132, 748, LVl, [], 0, σ) (mmPI σ' 1) := by
  by_cases h : cx_b_requireNode (xs 2) σ
  · exact ⟨_, law_10 hN σ σ 1 (lw_got_1 hN (xs 2) (xs 3) σ σ (by unfold sp_b_got; rw [if_pos h])) (by unfold sp_m_got; rw [if_neg (wo4.mp h)]; rfl) no1⟩
  · have hm : ∀ σ' : mmS, sp_m_out (xs 2) 4 σ' = 0 := fun σ' => Classical.byContradiction fun q => h (wo4.mpr q)
    have hj := n4_lt (vn_of h)
    by_cases h1 : xs 3 < 1
    · exact ⟨_, law_10 hN σ σ 1 (lw_got_1 hN (xs 2) (xs 3) σ σ (by unfold sp_b_got; rw [if_neg h, if_pos (show sp_b_isWithin (xs 3) 1 9 σ = 0 by unfold sp_b_isWithin; rw [if_pos h1])])) (by unfold sp_m_got; rw [if_pos (hm _), if_pos h1]; rfl) no1⟩
    · by_cases h9 : (9 : Int32) < xs 3
      · exact ⟨_, law_10 hN σ σ 1 (lw_got_1 hN (xs 2) (xs 3) σ σ (by unfold sp_b_got; rw [if_neg h, if_pos (show sp_b_isWithin (xs 3) 1 9 σ = 0 by unfold sp_b_isWithin; rw [if_neg h1, if_pos h9])])) (by unfold sp_m_got; rw [if_pos (hm _), if_neg h1, if_neg (by rw [Int32.not_le]; exact h9)]; rfl) no1⟩
      · have hw : ¬ sp_b_isWithin (xs 3) 1 9 σ = 0 := by unfold sp_b_isWithin; rw [if_neg h1, if_neg h9]; decide
        have hi : (xs 3).toNatClampNeg < 10 := Nat.not_le.mp fun q => vi_of hw (Or.inr q)
        have h40 : ((10 : Int32) * xs 2 + xs 3).toNatClampNeg < 40 := Nat.not_le.mp fun q => vx10 (vn_of h) h1 h9 (Or.inr q)
        exact ⟨_, law_10 hN σ σ 2 (lw_got_2 hN (xs 2) (xs 3) σ σ (by unfold sp_b_got; rw [if_neg h, if_neg hw, if_pos (hF.2.2.1 _ hj _ hi)])) (by unfold sp_m_got; rw [if_pos (hm _), if_neg h1, if_pos (Int32.not_lt.mp h9), if_pos (hF.2.2.2.2.2.2.1 _ h40)]; rfl) no2⟩
theorem p1_11 (hN : 66 ≤ N) (hF : Fr σ) : ∃ σ', Ev N 7 xs (132, 816, LVl, [], 0, σ) (mmPI σ' 1) := by
  refine ⟨_, law_11 hN σ ?_⟩
  show σ.1 0 3 = σ.1 42 22
  rw [hF.2.2.2.1.2.1, hF.2.2.2.2.2.2.2.1]
theorem p1_12 (hN : 66 ≤ N) (hF : Fr σ) : ∃ σ', Ev N 7 xs (132, 829, LVl, [], 0, σ) (mmPI σ' 1) := by
  refine ⟨_, law_12 hN σ σ 1 (lw_last_1 hN σ σ (by unfold sp_b_last; rw [hF.2.2.2.1.2.2, if_pos (lgS _)])) ?_ no1⟩
  unfold sp_m_last
  rw [if_pos hF.2.2.2.2.2.2.2.2.1, if_pos hF.2.2.2.2.2.2.2.2.1]
  rfl
theorem bw {a h : Int32} {n : Nat} {σ : mmS} (hh : h.toInt = n) (hq : ¬ sp_b_isWithin a 0 h σ = 0) : ∃ j, j ≤ n ∧ a = nI j := by
  unfold sp_b_isWithin at hq
  by_cases h0 : a < 0
  · rw [if_pos h0] at hq; exact absurd rfl hq
  · rw [if_neg h0] at hq
    by_cases h3 : h < a
    · rw [if_pos h3] at hq; exact absurd rfl hq
    · exact nI_of2 hh h0 (Int32.not_lt.mp h3)
theorem p1_13 (hN : 66 ≤ N) (_hF : Fr σ) : ∃ σ', Ev N 7 xs (132, 872, LVl, [], 0, σ) (mmPI σ' 1) := by
  have go : ∀ o : Int32, (o = 0 ∨ o = 1) → (sp_b_encode (xs 2) (xs 3) o (xs 5) σ = (.inr "java/lang/IllegalArgumentException", σ) ∧ ((sp_m_encode (xs 2) (xs 3) o (xs 5) σ).2).1 42 0 = 1) ∨ ∃ v, sp_b_encode (xs 2) (xs 3) o (xs 5) σ = (.inl (some (.long v)), σ) ∧ ∀ σ1, ((sp_m_encode (xs 2) (xs 3) o (xs 5) σ1).2) = mmI σ1 42 0 0 ∧ (sp_m_encode (xs 2) (xs 3) o (xs 5) σ1).1 = v := by
    intro o ho
    by_cases h : cx_b_require (sp_b_isWithin (xs 2) 0 31 σ) σ
    · exact Or.inl ⟨by unfold sp_b_encode; rw [if_pos h], by unfold sp_m_encode; rw [if_neg ((wo (h1 := 32) (by decide)).mp h)]; rfl⟩
    · have hm : ∀ σ' : mmS, sp_m_out (xs 2) 32 σ' = 0 := fun σ' => Classical.byContradiction fun q => h ((wo (h1 := 32) (by decide)).mpr q)
      by_cases h2 : cx_b_require (sp_b_isWithin (xs 3) 0 63 σ) σ
      · exact Or.inl ⟨by unfold sp_b_encode; rw [if_neg h, if_pos h2], by unfold sp_m_encode; rw [if_pos (hm _), if_neg ((wo (h1 := 64) (by decide)).mp h2)]; rfl⟩
      · have hm2 : ∀ σ' : mmS, sp_m_out (xs 3) 64 σ' = 0 := fun σ' => Classical.byContradiction fun q => h2 ((wo (h1 := 64) (by decide)).mpr q)
        by_cases h3 : cx_b_require (sp_b_isWithin (xs 5) 0 1023 σ) σ
        · exact Or.inl ⟨by unfold sp_b_encode; rw [if_neg h, if_neg h2, if_pos h3], by unfold sp_m_encode; rw [if_pos (hm _), if_pos (hm2 _), if_neg ((wo (h1 := 1024) (by decide)).mp h3)]; rfl⟩
        · have hm3 : ∀ σ' : mmS, sp_m_out (xs 5) 1024 σ' = 0 := fun σ' => Classical.byContradiction fun q => h3 ((wo (h1 := 1024) (by decide)).mpr q)
          obtain ⟨a, ha, ea⟩ := bw (n := 31) (by decide) h
          obtain ⟨c, hc, ec⟩ := bw (n := 63) (by decide) h2
          obtain ⟨v, hv, ev⟩ := bw (n := 1023) (by decide) h3
          refine Or.inr ⟨_, by unfold sp_b_encode; rw [if_neg h, if_neg h2, if_neg h3], fun σ1 => ?_⟩
          unfold sp_m_encode
          rw [if_pos (hm _), if_pos (hm2 _), if_pos (hm3 _), ea, ec, ev]
          rcases ho with rfl | rfl
          · rw [if_pos rfl]
            exact ⟨rfl, (make_eq (by omega) (by omega) (by omega) 0 (Or.inl rfl) _ _).symm⟩
          · rw [if_neg (by decide)]
            exact ⟨rfl, (make_eq (by omega) (by omega) (by omega) 1 (Or.inr rfl) _ _).symm⟩
  by_cases hb : xs 4 = 0
  · rcases go 0 (Or.inl rfl) with ⟨hr, hq⟩ | ⟨v, hr, hq⟩
    · exact ⟨_, law_13f hN σ σ 1 hb (lw_encode_1 hN (xs 2) (xs 3) 0 (xs 5) σ σ hr) hq no1⟩
    · refine ⟨_, law_13f hN σ _ 0 hb (lw_encode_ok hN (xs 2) (xs 3) 0 (xs 5) σ σ v hr) ?_ (fun _ => ?_)⟩
      · rw [(hq _).1]; rfl
      · rw [(hq _).1, (hq _).2]; exact lgS _
  · rcases go 1 (Or.inr rfl) with ⟨hr, hq⟩ | ⟨v, hr, hq⟩
    · exact ⟨_, law_13t hN σ σ 1 hb (lw_encode_1 hN (xs 2) (xs 3) 1 (xs 5) σ σ hr) hq no1⟩
    · refine ⟨_, law_13t hN σ _ 0 hb (lw_encode_ok hN (xs 2) (xs 3) 1 (xs 5) σ σ v hr) ?_ (fun _ => ?_)⟩
      · rw [(hq _).1]; rfl
      · rw [(hq _).1, (hq _).2]; exact lgS _
theorem p1_14 (hN : 66 ≤ N) (_hF : Fr σ) : ∃ σ', Ev N 7 xs (132, 979, LVl, [], 0, σ) (mmPI σ' 1) := by
  obtain ⟨n, hn, hw⟩ := wb_of (((xs 2).toInt64 <<< ((32 : Int32).toInt64 &&& 63)) ||| ((xs 3).toInt64 &&& (4294967295 : Int64)))
  have go1 : ∀ σ1 : mmS, sp_m_wrong (lN n) σ1 = 1 → ((sp_m_decode (lN n) σ1).2).1 42 0 = 1 := fun σ1 hq => by
    unfold sp_m_decode
    rw [hq, if_neg (by decide)]
    rfl
  have go2 : ∀ σ1 : mmS, sp_m_wrong (lN n) σ1 = 2 → ((sp_m_decode (lN n) σ1).2).1 42 0 = 2 := fun σ1 hq => by
    unfold sp_m_decode
    rw [hq, if_neg (by decide)]
    rfl
  by_cases h : n < 2 ^ 57
  · have hf : ¬ sp_w_fits (lN n) σ = 0 := fun q => (fits_iff hn σ).mp q h
    by_cases c1 : hN12 (n / 2 ^ 45) = n / 2 ^ 34 % 2048
    · have hh : ¬ sp_w_isHeadRight (lN n) σ = 0 := fun q => (head_iff h σ).mp q c1
      by_cases c2 : hN33 (n / 2 ^ 24) = n % 16777216
      · have hg : ¬ sp_w_isWholeRight (lN n) σ = 0 := fun q => (whole_iff h σ).mp q c2
        have hz : ∀ σ1 : mmS, sp_m_wrong (lN n) σ1 = 0 := fun σ1 => by rw [wrong_in h, if_pos c1, if_pos c2]
        have hval : ∃ v, sp_b_decode (lN n) σ = (.inl (some (.int v)), σ) ∧ ∀ σ1, (sp_m_decode (lN n) σ1).1 = v ∧ (sp_m_decode (lN n) σ1).2 = mmI σ1 42 0 0 := by
          by_cases hs : sp_w_startupIn (lN n) σ = 0
          · refine ⟨_, by unfold sp_b_decode; rw [if_neg hf, if_neg hh, if_neg hg, if_pos hs], fun σ1 => ?_⟩
            unfold sp_m_decode
            rw [hz σ1, if_pos (by decide), if_pos (by rw [← sta_eq2 h σ]; exact hs)]
            exact ⟨by rw [id_eq2 h σ (mmI σ1 42 0 0), cyc_eq2 h σ (mmI σ1 42 0 0), val_eq2 h σ (mmI σ1 42 0 0)], rfl⟩
          · refine ⟨_, by unfold sp_b_decode; rw [if_neg hf, if_neg hh, if_neg hg, if_neg hs], fun σ1 => ?_⟩
            unfold sp_m_decode
            rw [hz σ1, if_pos (by decide), if_neg (by rw [← sta_eq2 h σ]; exact hs)]
            exact ⟨by rw [id_eq2 h σ (mmI σ1 42 0 0), cyc_eq2 h σ (mmI σ1 42 0 0), val_eq2 h σ (mmI σ1 42 0 0)], rfl⟩
        obtain ⟨v, hr, hq⟩ := hval
        refine ⟨_, law_14 hN σ _ 0 (lw_decode_ok hN _ σ σ v (by rw [hw]; exact hr)) ?_ (fun _ => ?_)⟩
        · rw [hw, (hq _).2]; rfl
        · rw [hw, (hq _).2, (hq _).1]; exact lgS _
      · have hg : sp_w_isWholeRight (lN n) σ = 0 := (whole_iff h σ).mpr c2
        refine ⟨_, law_14 hN σ σ 2 (lw_decode_2 hN _ σ σ (by rw [hw]; unfold sp_b_decode; rw [if_neg hf, if_neg hh, if_pos hg])) ?_ no2⟩
        rw [hw]
        exact go2 σ (by rw [wrong_in h, if_pos c1, if_neg c2])
    · have hh : sp_w_isHeadRight (lN n) σ = 0 := (head_iff h σ).mpr c1
      refine ⟨_, law_14 hN σ σ 1 (lw_decode_1 hN _ σ σ (by rw [hw]; unfold sp_b_decode; rw [if_neg hf, if_pos hh])) ?_ no1⟩
      rw [hw]
      exact go1 σ (by rw [wrong_in h, if_neg c1])
  · have hf : sp_w_fits (lN n) σ = 0 := (fits_iff hn σ).mpr h
    refine ⟨_, law_14 hN σ σ 1 (lw_decode_1 hN _ σ σ (by rw [hw]; unfold sp_b_decode; rw [if_pos hf])) ?_ no1⟩
    rw [hw]
    exact go1 σ (wrong_out hn h σ)
/-- the law behind its constructors, on a script of seven ints -/
theorem p1_seven (hN : 66 ≤ N) (hF : Fr σ) : ∃ σ', Ev N 7 xs (132, 30, [(0, .ref 1000), (1, .ref 0), (2, .ref 42), (3, .ref 65)], [], 0, σ) (mmPI σ' 1) := by
  by_cases h0 : (xs 1) &&& (15 : Int32) = 0
  · obtain ⟨σ2, h⟩ := p1_0 (xs := xs) hN hF
    exact ⟨σ2, law_to0 hN σ _ h0 h⟩
  by_cases h1 : (xs 1) &&& (15 : Int32) = 1
  · obtain ⟨σ2, h⟩ := p1_1 (xs := xs) hN hF
    exact ⟨σ2, law_to1 hN σ _ h1 h⟩
  by_cases h2 : (xs 1) &&& (15 : Int32) = 2
  · obtain ⟨σ2, h⟩ := p1_2 (xs := xs) hN hF
    exact ⟨σ2, law_to2 hN σ _ h2 h⟩
  by_cases h3 : (xs 1) &&& (15 : Int32) = 3
  · obtain ⟨σ2, h⟩ := p1_3 (xs := xs) hN hF
    exact ⟨σ2, law_to3 hN σ _ h3 h⟩
  by_cases h4 : (xs 1) &&& (15 : Int32) = 4
  · obtain ⟨σ2, h⟩ := p1_4 (xs := xs) hN hF
    exact ⟨σ2, law_to4 hN σ _ h4 h⟩
  by_cases h5 : (xs 1) &&& (15 : Int32) = 5
  · obtain ⟨σ2, h⟩ := p1_5 (xs := xs) hN hF
    exact ⟨σ2, law_to5 hN σ _ h5 h⟩
  by_cases h6 : (xs 1) &&& (15 : Int32) = 6
  · obtain ⟨σ2, h⟩ := p1_6 (xs := xs) hN hF
    exact ⟨σ2, law_to6 hN σ _ h6 h⟩
  by_cases h7 : (xs 1) &&& (15 : Int32) = 7
  · obtain ⟨σ2, h⟩ := p1_7 (xs := xs) hN hF
    exact ⟨σ2, law_to7 hN σ _ h7 h⟩
  by_cases h8 : (xs 1) &&& (15 : Int32) = 8
  · obtain ⟨σ2, h⟩ := p1_8 (xs := xs) hN hF
    exact ⟨σ2, law_to8 hN σ _ h8 h⟩
  by_cases h9 : (xs 1) &&& (15 : Int32) = 9
  · obtain ⟨σ2, h⟩ := p1_9 (xs := xs) hN hF
    exact ⟨σ2, law_to9 hN σ _ h9 h⟩
  by_cases h10 : (xs 1) &&& (15 : Int32) = 10
  · obtain ⟨σ2, h⟩ := p1_10 (xs := xs) hN hF
    exact ⟨σ2, law_to10 hN σ _ h10 h⟩
  by_cases h11 : (xs 1) &&& (15 : Int32) = 11
  · obtain ⟨σ2, h⟩ := p1_11 (xs := xs) hN hF
    exact ⟨σ2, law_to11 hN σ _ h11 h⟩
  by_cases h12 : (xs 1) &&& (15 : Int32) = 12
  · obtain ⟨σ2, h⟩ := p1_12 (xs := xs) hN hF
    exact ⟨σ2, law_to12 hN σ _ h12 h⟩
  by_cases h13 : (xs 1) &&& (15 : Int32) = 13
  · obtain ⟨σ2, h⟩ := p1_13 (xs := xs) hN hF
    exact ⟨σ2, law_to13 hN σ _ h13 h⟩
  by_cases h14 : (xs 1) &&& (15 : Int32) = 14
  · obtain ⟨σ2, h⟩ := p1_14 (xs := xs) hN hF
    exact ⟨σ2, law_to14 hN σ _ h14 h⟩
  have g0 : ((xs 1) &&& (15 : Int32)).toInt ≠ 0 := fun q => h0 (Int32.toInt_inj.mp (q.trans (by decide)))
  have g1 : ((xs 1) &&& (15 : Int32)).toInt ≠ 1 := fun q => h1 (Int32.toInt_inj.mp (q.trans (by decide)))
  have g2 : ((xs 1) &&& (15 : Int32)).toInt ≠ 2 := fun q => h2 (Int32.toInt_inj.mp (q.trans (by decide)))
  have g3 : ((xs 1) &&& (15 : Int32)).toInt ≠ 3 := fun q => h3 (Int32.toInt_inj.mp (q.trans (by decide)))
  have g4 : ((xs 1) &&& (15 : Int32)).toInt ≠ 4 := fun q => h4 (Int32.toInt_inj.mp (q.trans (by decide)))
  have g5 : ((xs 1) &&& (15 : Int32)).toInt ≠ 5 := fun q => h5 (Int32.toInt_inj.mp (q.trans (by decide)))
  have g6 : ((xs 1) &&& (15 : Int32)).toInt ≠ 6 := fun q => h6 (Int32.toInt_inj.mp (q.trans (by decide)))
  have g7 : ((xs 1) &&& (15 : Int32)).toInt ≠ 7 := fun q => h7 (Int32.toInt_inj.mp (q.trans (by decide)))
  have g8 : ((xs 1) &&& (15 : Int32)).toInt ≠ 8 := fun q => h8 (Int32.toInt_inj.mp (q.trans (by decide)))
  have g9 : ((xs 1) &&& (15 : Int32)).toInt ≠ 9 := fun q => h9 (Int32.toInt_inj.mp (q.trans (by decide)))
  have g10 : ((xs 1) &&& (15 : Int32)).toInt ≠ 10 := fun q => h10 (Int32.toInt_inj.mp (q.trans (by decide)))
  have g11 : ((xs 1) &&& (15 : Int32)).toInt ≠ 11 := fun q => h11 (Int32.toInt_inj.mp (q.trans (by decide)))
  have g12 : ((xs 1) &&& (15 : Int32)).toInt ≠ 12 := fun q => h12 (Int32.toInt_inj.mp (q.trans (by decide)))
  have g13 : ((xs 1) &&& (15 : Int32)).toInt ≠ 13 := fun q => h13 (Int32.toInt_inj.mp (q.trans (by decide)))
  have g14 : ((xs 1) &&& (15 : Int32)).toInt ≠ 14 := fun q => h14 (Int32.toInt_inj.mp (q.trans (by decide)))
  exact ⟨_, law_to15 hN σ _ (by omega) (law_15 hN σ)⟩
theorem p1_all (hN : 66 ≤ N) (hF : Fr σ) (L : Nat) (hL : L ≤ 7) : ∃ σ', Ev N L xs (132, 30, [(0, .ref 1000), (1, .ref 0), (2, .ref 42), (3, .ref 65)], [], 0, σ) (mmPI σ' 1) := by
  have h : L = 0 ∨ L = 1 ∨ L = 2 ∨ L = 3 ∨ L = 4 ∨ L = 5 ∨ L = 6 ∨ L = 7 := by omega
  rcases h with rfl | rfl | rfl | rfl | rfl | rfl | rfl | rfl
  · exact ⟨_, law_len0 hN σ⟩
  · exact ⟨_, law_len1 hN σ⟩
  · exact ⟨_, law_len2 hN σ⟩
  · exact ⟨_, law_len3 hN σ⟩
  · exact ⟨_, law_len4 hN σ⟩
  · exact ⟨_, law_len5 hN σ⟩
  · exact ⟨_, law_len6 hN σ⟩
  · exact p1_seven hN hF
end PC
