/-! reflection: the middles, what a node decides -/
section RF
variable {j n : Nat} {σ τ : mmS}
def MR (j n : Nat) (σ τ : mmS) : Prop := 1 ≤ n ∧ n ≤ 5 ∧ σ.1 (10 * j + 8) 1 = Int32.ofNat n ∧ τ.1 42 28 = Int32.ofNat n ∧ srt n (Fr_ j σ) ∧ (∀ v, cnt n (Fr_ j σ) v = cnt n (Xr τ) v) ∧ (∀ i, i < n → -6 ≤ Xr τ i ∧ Xr τ i ≤ 6) ∧ τ.1 64 0 = 0
def eC (j : Nat) (σ σ' : mmS) : Prop := ∀ c, c ≠ 8 → c ≠ 9 → ∀ m, σ'.1 (10 * j + c) m = σ.1 (10 * j + c) m
def eM (τ τ' : mmS) : Prop := ∀ k, k ≠ 42 → k ≠ 64 → ∀ m, τ'.1 k m = τ.1 k m
theorem eC_refl : eC j σ σ := fun _ _ _ _ => rfl
theorem eM_refl : eM τ τ := fun _ _ _ _ => rfl
theorem eC_trans {σ1 σ2 : mmS} (h1 : eC j σ σ1) (h2 : eC j σ1 σ2) : eC j σ σ2 := fun c a b m => (h2 c a b m).trans (h1 c a b m)
theorem eM_trans {τ1 τ2 : mmS} (h1 : eM τ τ1) (h2 : eM τ1 τ2) : eM τ τ2 := fun c a b m => (h2 c a b m).trans (h1 c a b m)
theorem eC_8 {i : Nat} {v : Int32} {σ' : mmS} (h : eC j σ σ') : eC j σ (mmI σ' (10 * j + 8) i v) := fun c a b m => (rdK (by omega)).trans (h c a b m)
theorem eC_9 {i : Nat} {v : Int32} {σ' : mmS} (h : eC j σ σ') : eC j σ (mmI σ' (10 * j + 9) i v) := fun c a b m => (rdK (by omega)).trans (h c a b m)
theorem eM_42 {i : Nat} {v : Int32} {τ' : mmS} (h : eM τ τ') : eM τ (mmI τ' 42 i v) := fun c a b m => (rdK a).trans (h c a b m)
theorem eM_64 {i : Nat} {v : Int32} {τ' : mmS} (h : eM τ τ') : eM τ (mmI τ' 64 i v) := fun c a b m => (rdK b).trans (h c a b m)
theorem eC_addL {x : Int32} : ∀ (n : Nat) {σ' : mmS}, eC j σ σ' → eC j σ (addL j x n σ')
  | 0, σ', h => by
    unfold addL
    exact eC_8 (eC_9 h)
  | n + 1, σ', h => by
    unfold addL
    split
    · exact eC_8 (eC_9 h)
    · exact eC_addL n (eC_9 h)
theorem eC_add {x : Int32} {σ' : mmS} (h : eC j σ σ') : eC j σ (sp_i_add j x σ') := by
  unfold sp_i_add
  split
  · exact eC_addL _ h
  · exact h
theorem eC_beg {σ' : mmS} (h : eC j σ σ') : eC j σ (sp_i_beginWithZero j σ') := by
  unfold sp_i_beginWithZero
  exact eC_8 (eC_9 h)
theorem RI_e {σ' τ' : mmS} (h : RI j σ τ) (hC : eC j σ σ') (hM : eM τ τ') : RI j σ' τ' := by
  unfold eC at hC
  unfold eM at hM
  simpa only [RI, hC, hM, ne_eq, Nat.reduceEqDiff, not_false_eq_true] using h
theorem n5d : ∀ n, n < 5 → Int32.ofNat n < 5 ∧ (Int32.ofNat n).toNatClampNeg = n ∧ Int32.ofNat n + 1 = Int32.ofNat (n + 1) := by decide +kernel
theorem mr_step {x : Int32} (h : MR j n σ τ) (hn : n ≤ 4) (hx : rg x (-6) 6) : MR j (n + 1) (sp_i_add j x σ) (mmI (mmI τ 64 (τ.1 42 28).toNatClampNeg x) 42 28 (τ.1 42 28 + 1)) := by
  obtain ⟨a1, a2, a3, a4, a5, a6, a7, a8⟩ := h
  obtain ⟨d1, d2, d3⟩ := n5d n (by omega)
  have hadd : sp_i_add j x σ = addL j x n σ := by
    unfold sp_i_add
    rw [a3, if_pos d1, d2]
  obtain ⟨r1, r2, -, -⟩ := addL_F j x n σ a5
  have hX : Xr (mmI (mmI τ 64 (τ.1 42 28).toNatClampNeg x) 42 28 (τ.1 42 28 + 1)) = fun i => if i = n then x.toInt else Xr τ i := by
    funext i
    unfold Xr
    rw [rdK (by decide), a4, d2]
    by_cases h : i = n
    · subst h; rw [rdS, if_pos rfl]
    · rw [rdI h, if_neg h]
  refine ⟨by omega, by omega, ?_, ?_, by rw [hadd]; exact r1, fun v => ?_, fun i hi => ?_, ?_⟩
  · rw [hadd, addL_sz, a3, d3]
  · rw [rdS, a4, d3]
  · rw [hadd, hX, r2 v, a6 v]
    show _ = cnt n _ v + (if (if n = n then x.toInt else Xr τ n) ≤ v then 1 else 0)
    rw [if_pos rfl, cnt_congr (g := Xr τ) n (fun i hi => if_neg (by omega))]
  · rw [hX]
    show -6 ≤ (if i = n then x.toInt else Xr τ i) ∧ (if i = n then x.toInt else Xr τ i) ≤ 6
    by_cases h : i = n
    · rw [if_pos h]; exact hx
    · rw [if_neg h]; exact a7 i (by omega)
  · rw [rdK (by decide), a4, d2, rdI (by omega)]
    exact a8
theorem mr_ans (h : MR j n σ τ) : sp_i_answer j σ = sp_m_middle τ := mid_eq h.1 h.2.1 h.2.2.1 h.2.2.2.1 h.2.2.2.2.1 h.2.2.2.2.2.1 h.2.2.2.2.2.2.1
theorem mr_beg (hm : τ.1 42 28 = 1) (h0 : τ.1 64 0 = 0) : MR j 1 (sp_i_beginWithZero j σ) τ := by
  have e0 : Fr_ j (sp_i_beginWithZero j σ) 0 = 0 := by
    unfold sp_i_beginWithZero
    rw [Fr_set]
    rfl
  have e1 : Xr τ 0 = 0 := by unfold Xr; rw [h0]; rfl
  refine ⟨by decide, by decide, ?_, hm, fun i k h1 h2 => ?_, fun v => ?_, fun i hi => ?_, h0⟩
  · unfold sp_i_beginWithZero
    rw [rdS]
    rfl
  · have h3 : i = 0 := by omega
    have h4 : k = 0 := by omega
    subst h3; subst h4; exact Int.le_refl _
  · unfold cnt cnt
    rw [e0, e1]
  · have h3 : i = 0 := by omega
    subst h3; rw [e1]; decide
def DV (j : Nat) (σ τ : mmS) : Prop := ∀ i, i < 4 → dvok (σ.1 (10 * j + 6) i) ∧ dvok (σ.1 (10 * j + 7) i) ∧ cv (σ.1 (10 * j + 6) i) = τ.1 57 (8 * j + 2 * i) ∧ cv (σ.1 (10 * j + 7) i) = τ.1 57 (8 * j + (2 * i + 1))
theorem DV_e {σ' τ' : mmS} (h : DV j σ τ) (hC : eC j σ σ') (hM : eM τ τ') : DV j σ' τ' := by
  intro i hi
  rw [hC 6 (by decide) (by decide), hC 7 (by decide) (by decide), hM 57 (by decide) (by decide), hM 57 (by decide) (by decide)]
  exact h i hi
theorem cv_99 {x : Int32} (h : dvok x) : cv x = 99 ↔ x = 1000 := by
  unfold cv
  by_cases q : x = 1000
  · rw [if_pos q]; exact ⟨fun _ => q, fun _ => rfl⟩
  · rw [if_neg q]
    refine ⟨fun z => ?_, fun z => absurd z q⟩
    have := h.resolve_left q
    rw [z] at this
    exact absurd this.2 (by decide)
theorem cv_ne {x : Int32} (q : ¬ x = 1000) : cv x = x := if_neg q
theorem dv_sub {x y : Int32} (hx : dvok x) (hy : dvok y) (qx : ¬ x = 1000) (qy : ¬ y = 1000) : rg (x - y) (-6) 6 := by
  obtain ⟨a1, a2⟩ := hx.resolve_left qx
  obtain ⟨b1, b2⟩ := hy.resolve_left qy
  unfold rg
  rw [ti_sub (by omega) (by omega) (by omega) (by omega)]
  omega
theorem dv_one {x : Int32} (hx : dvok x) (qx : ¬ x = 1000) : rg x (-6) 6 := by
  obtain ⟨a1, a2⟩ := hx.resolve_left qx
  exact ⟨by omega, by omega⟩
theorem hb_4 {σ' : mmS} {b : Int32} : sp_d_heardInBoth_L4 j b σ' = sp_d_heardInBoth_L4 j b σ := rfl
theorem hb_3 {σ' : mmS} {b : Int32} (h6 : ∀ m, σ'.1 (10 * j + 6) m = σ.1 (10 * j + 6) m) (h7 : ∀ m, σ'.1 (10 * j + 7) m = σ.1 (10 * j + 7) m) : sp_d_heardInBoth_L3 j b σ' = sp_d_heardInBoth_L3 j b σ := by
  unfold sp_d_heardInBoth_L3 sp_d_hasBoth
  rw [h6, h7]
  rfl
theorem hb_2 {σ' : mmS} {b : Int32} (h6 : ∀ m, σ'.1 (10 * j + 6) m = σ.1 (10 * j + 6) m) (h7 : ∀ m, σ'.1 (10 * j + 7) m = σ.1 (10 * j + 7) m) : sp_d_heardInBoth_L2 j b σ' = sp_d_heardInBoth_L2 j b σ := by
  unfold sp_d_heardInBoth_L2 sp_d_hasBoth
  rw [h6, h7, hb_3 h6 h7, hb_3 h6 h7]
theorem hb_1 {σ' : mmS} {b : Int32} (h6 : ∀ m, σ'.1 (10 * j + 6) m = σ.1 (10 * j + 6) m) (h7 : ∀ m, σ'.1 (10 * j + 7) m = σ.1 (10 * j + 7) m) : sp_d_heardInBoth_L1 j b σ' = sp_d_heardInBoth_L1 j b σ := by
  unfold sp_d_heardInBoth_L1 sp_d_hasBoth
  rw [h6, h7, hb_2 h6 h7, hb_2 h6 h7]
theorem hb_0 {σ' : mmS} {b : Int32} (h6 : ∀ m, σ'.1 (10 * j + 6) m = σ.1 (10 * j + 6) m) (h7 : ∀ m, σ'.1 (10 * j + 7) m = σ.1 (10 * j + 7) m) : sp_d_heardInBoth_L0 j b σ' = sp_d_heardInBoth_L0 j b σ := by
  unfold sp_d_heardInBoth_L0 sp_d_hasBoth
  rw [h6, h7, hb_1 h6 h7, hb_1 h6 h7]
theorem mcA_4 (hj : j < 4) (hM : MR j n σ τ) (hn : n ≤ 5) (hD : DV j σ τ) : ∃ n' σ' τ', sp_d_middleChange_L4 j σ = (sp_i_answer j σ', σ') ∧ (∀ b, sp_m_reflA_L4 (Int32.ofNat j) b τ = sp_m_reflA_L4 (Int32.ofNat j) (sp_d_heardInBoth_L4 j b σ) τ') ∧ MR j n' σ' τ' ∧ eC j σ σ' ∧ eM τ τ' := by
  exact ⟨n, σ, τ, rfl, fun _ => rfl, hM, eC_refl, eM_refl⟩
theorem mcB_4 (hj : j < 4) (hM : MR j n σ τ) (hn : n ≤ 5) (hD : DV j σ τ) : ∃ n' σ' τ', sp_d_middleInOdd_L4 j σ = (sp_i_answer j σ', σ') ∧ (∀ b, sp_m_reflB_L4 (Int32.ofNat j) b τ = sp_m_reflB_L4 (Int32.ofNat j) b τ') ∧ MR j n' σ' τ' ∧ eC j σ σ' ∧ eM τ τ' := by
  exact ⟨n, σ, τ, rfl, fun _ => rfl, hM, eC_refl, eM_refl⟩
theorem mcA_3 (hj : j < 4) (hM : MR j n σ τ) (hn : n ≤ 4) (hD : DV j σ τ) : ∃ n' σ' τ', sp_d_middleChange_L3 j σ = (sp_i_answer j σ', σ') ∧ (∀ b, sp_m_reflA_L3 (Int32.ofNat j) b τ = sp_m_reflA_L4 (Int32.ofNat j) (sp_d_heardInBoth_L3 j b σ) τ') ∧ MR j n' σ' τ' ∧ eC j σ σ' ∧ eM τ τ' := by
  obtain ⟨v1, v2, v3, v4⟩ := hD 3 (by decide)
  have k3 : (3 : Int32).toNatClampNeg = 3 := by decide
  have v3 : cv (σ.1 (10 * j + 6) 3) = τ.1 57 (8 * j + 6) := v3
  have v4 : cv (σ.1 (10 * j + 7) 3) = τ.1 57 (8 * j + 7) := v4
  by_cases q1 : σ.1 (10 * j + 6) 3 = 1000
  · obtain ⟨n', σ', τ', r1, r2, r3⟩ := mcA_4 hj hM (by omega) hD
    refine ⟨n', σ', τ', ?_, fun b => ?_, r3⟩
    · unfold sp_d_middleChange_L3 sp_d_hasBoth
      rw [k3, if_pos q1, if_pos rfl, r1]
    · unfold sp_m_reflA_L3 sp_d_heardInBoth_L3 sp_d_hasBoth
      rw [t8_6 hj, ← v3, if_pos ((cv_99 v1).mpr q1), k3, if_pos q1, if_pos rfl, r2]
  · by_cases q2 : σ.1 (10 * j + 7) 3 = 1000
    · obtain ⟨n', σ', τ', r1, r2, r3⟩ := mcA_4 hj hM (by omega) hD
      refine ⟨n', σ', τ', ?_, fun b => ?_, r3⟩
      · unfold sp_d_middleChange_L3 sp_d_hasBoth
        rw [k3, if_neg q1, if_pos q2, if_pos rfl, r1]
      · unfold sp_m_reflA_L3 sp_d_heardInBoth_L3 sp_d_hasBoth
        rw [t8_6 hj, ← v3, if_neg (fun z => q1 ((cv_99 v1).mp z)), t8_61 hj, ← v4, if_pos ((cv_99 v2).mpr q2), k3, if_neg q1, if_pos q2, if_pos rfl, r2]
    · have hM2 := mr_step hM (by omega) (dv_sub v2 v1 q2 q1)
      have hC2 : eC j σ (sp_i_add j (σ.1 (10 * j + 7) 3 - σ.1 (10 * j + 6) 3) σ) := eC_add eC_refl
      have hK2 : eM τ (mmI (mmI τ 64 (τ.1 42 28).toNatClampNeg (σ.1 (10 * j + 7) 3 - σ.1 (10 * j + 6) 3)) 42 28 (τ.1 42 28 + 1)) := eM_42 (eM_64 eM_refl)
      obtain ⟨n', σ', τ', r1, r2, r3, r4, r5⟩ := mcA_4 hj hM2 (by omega) (DV_e hD hC2 hK2)
      refine ⟨n', σ', τ', ?_, fun b => ?_, r3, eC_trans hC2 r4, eM_trans hK2 r5⟩
      · unfold sp_d_middleChange_L3 sp_d_hasBoth
        rw [k3, if_neg q1, if_neg q2, if_neg (by decide), r1]
      · unfold sp_m_reflA_L3 sp_d_heardInBoth_L3 sp_d_hasBoth
        rw [t8_6 hj, ← v3, if_neg (fun z => q1 ((cv_99 v1).mp z)), t8_61 hj, ← v4, if_neg (fun z => q2 ((cv_99 v2).mp z)), k3, if_neg q1, if_neg q2, if_neg (by decide), cv_ne q1, cv_ne q2, r2]
        exact congrArg (fun z => sp_m_reflA_L4 (Int32.ofNat j) z τ') hb_4
theorem mcB_3 (hj : j < 4) (hM : MR j n σ τ) (hn : n ≤ 4) (hD : DV j σ τ) : ∃ n' σ' τ', sp_d_middleInOdd_L3 j σ = (sp_i_answer j σ', σ') ∧ (∀ b, sp_m_reflB_L3 (Int32.ofNat j) b τ = sp_m_reflB_L4 (Int32.ofNat j) b τ') ∧ MR j n' σ' τ' ∧ eC j σ σ' ∧ eM τ τ' := by
  obtain ⟨v1, v2, v3, v4⟩ := hD 3 (by decide)
  have v4 : cv (σ.1 (10 * j + 7) 3) = τ.1 57 (8 * j + 7) := v4
  by_cases q2 : σ.1 (10 * j + 7) 3 = 1000
  · obtain ⟨n', σ', τ', r1, r2, r3⟩ := mcB_4 hj hM (by omega) hD
    refine ⟨n', σ', τ', ?_, fun b => ?_, r3⟩
    · unfold sp_d_middleInOdd_L3
      rw [if_pos q2, r1]
    · unfold sp_m_reflB_L3
      rw [t8_61 hj, ← v4, if_pos ((cv_99 v2).mpr q2), r2]
  · have hM2 := mr_step hM (by omega) (dv_one v2 q2)
    have hC2 : eC j σ (sp_i_add j (σ.1 (10 * j + 7) 3) σ) := eC_add eC_refl
    have hK2 : eM τ (mmI (mmI τ 64 (τ.1 42 28).toNatClampNeg (σ.1 (10 * j + 7) 3)) 42 28 (τ.1 42 28 + 1)) := eM_42 (eM_64 eM_refl)
    obtain ⟨n', σ', τ', r1, r2, r3, r4, r5⟩ := mcB_4 hj hM2 (by omega) (DV_e hD hC2 hK2)
    refine ⟨n', σ', τ', ?_, fun b => ?_, r3, eC_trans hC2 r4, eM_trans hK2 r5⟩
    · unfold sp_d_middleInOdd_L3
      rw [if_neg q2, r1]
    · unfold sp_m_reflB_L3
      rw [t8_61 hj, ← v4, if_neg (fun z => q2 ((cv_99 v2).mp z)), cv_ne q2, r2]
theorem mcA_2 (hj : j < 4) (hM : MR j n σ τ) (hn : n ≤ 3) (hD : DV j σ τ) : ∃ n' σ' τ', sp_d_middleChange_L2 j σ = (sp_i_answer j σ', σ') ∧ (∀ b, sp_m_reflA_L2 (Int32.ofNat j) b τ = sp_m_reflA_L4 (Int32.ofNat j) (sp_d_heardInBoth_L2 j b σ) τ') ∧ MR j n' σ' τ' ∧ eC j σ σ' ∧ eM τ τ' := by
  obtain ⟨v1, v2, v3, v4⟩ := hD 2 (by decide)
  have k3 : (2 : Int32).toNatClampNeg = 2 := by decide
  have v3 : cv (σ.1 (10 * j + 6) 2) = τ.1 57 (8 * j + 4) := v3
  have v4 : cv (σ.1 (10 * j + 7) 2) = τ.1 57 (8 * j + 5) := v4
  by_cases q1 : σ.1 (10 * j + 6) 2 = 1000
  · obtain ⟨n', σ', τ', r1, r2, r3⟩ := mcA_3 hj hM (by omega) hD
    refine ⟨n', σ', τ', ?_, fun b => ?_, r3⟩
    · unfold sp_d_middleChange_L2 sp_d_hasBoth
      rw [k3, if_pos q1, if_pos rfl, r1]
    · unfold sp_m_reflA_L2 sp_d_heardInBoth_L2 sp_d_hasBoth
      rw [t8_4 hj, ← v3, if_pos ((cv_99 v1).mpr q1), k3, if_pos q1, if_pos rfl, r2]
  · by_cases q2 : σ.1 (10 * j + 7) 2 = 1000
    · obtain ⟨n', σ', τ', r1, r2, r3⟩ := mcA_3 hj hM (by omega) hD
      refine ⟨n', σ', τ', ?_, fun b => ?_, r3⟩
      · unfold sp_d_middleChange_L2 sp_d_hasBoth
        rw [k3, if_neg q1, if_pos q2, if_pos rfl, r1]
      · unfold sp_m_reflA_L2 sp_d_heardInBoth_L2 sp_d_hasBoth
        rw [t8_4 hj, ← v3, if_neg (fun z => q1 ((cv_99 v1).mp z)), t8_41 hj, ← v4, if_pos ((cv_99 v2).mpr q2), k3, if_neg q1, if_pos q2, if_pos rfl, r2]
    · have hM2 := mr_step hM (by omega) (dv_sub v2 v1 q2 q1)
      have hC2 : eC j σ (sp_i_add j (σ.1 (10 * j + 7) 2 - σ.1 (10 * j + 6) 2) σ) := eC_add eC_refl
      have hK2 : eM τ (mmI (mmI τ 64 (τ.1 42 28).toNatClampNeg (σ.1 (10 * j + 7) 2 - σ.1 (10 * j + 6) 2)) 42 28 (τ.1 42 28 + 1)) := eM_42 (eM_64 eM_refl)
      obtain ⟨n', σ', τ', r1, r2, r3, r4, r5⟩ := mcA_3 hj hM2 (by omega) (DV_e hD hC2 hK2)
      refine ⟨n', σ', τ', ?_, fun b => ?_, r3, eC_trans hC2 r4, eM_trans hK2 r5⟩
      · unfold sp_d_middleChange_L2 sp_d_hasBoth
        rw [k3, if_neg q1, if_neg q2, if_neg (by decide), r1]
      · unfold sp_m_reflA_L2 sp_d_heardInBoth_L2 sp_d_hasBoth
        rw [t8_4 hj, ← v3, if_neg (fun z => q1 ((cv_99 v1).mp z)), t8_41 hj, ← v4, if_neg (fun z => q2 ((cv_99 v2).mp z)), k3, if_neg q1, if_neg q2, if_neg (by decide), cv_ne q1, cv_ne q2, r2]
        exact congrArg (fun z => sp_m_reflA_L4 (Int32.ofNat j) z τ') (hb_3 (fun m => hC2 6 (by decide) (by decide) m) (fun m => hC2 7 (by decide) (by decide) m))
theorem mcB_2 (hj : j < 4) (hM : MR j n σ τ) (hn : n ≤ 3) (hD : DV j σ τ) : ∃ n' σ' τ', sp_d_middleInOdd_L2 j σ = (sp_i_answer j σ', σ') ∧ (∀ b, sp_m_reflB_L2 (Int32.ofNat j) b τ = sp_m_reflB_L4 (Int32.ofNat j) b τ') ∧ MR j n' σ' τ' ∧ eC j σ σ' ∧ eM τ τ' := by
  obtain ⟨v1, v2, v3, v4⟩ := hD 2 (by decide)
  have v4 : cv (σ.1 (10 * j + 7) 2) = τ.1 57 (8 * j + 5) := v4
  by_cases q2 : σ.1 (10 * j + 7) 2 = 1000
  · obtain ⟨n', σ', τ', r1, r2, r3⟩ := mcB_3 hj hM (by omega) hD
    refine ⟨n', σ', τ', ?_, fun b => ?_, r3⟩
    · unfold sp_d_middleInOdd_L2
      rw [if_pos q2, r1]
    · unfold sp_m_reflB_L2
      rw [t8_41 hj, ← v4, if_pos ((cv_99 v2).mpr q2), r2]
  · have hM2 := mr_step hM (by omega) (dv_one v2 q2)
    have hC2 : eC j σ (sp_i_add j (σ.1 (10 * j + 7) 2) σ) := eC_add eC_refl
    have hK2 : eM τ (mmI (mmI τ 64 (τ.1 42 28).toNatClampNeg (σ.1 (10 * j + 7) 2)) 42 28 (τ.1 42 28 + 1)) := eM_42 (eM_64 eM_refl)
    obtain ⟨n', σ', τ', r1, r2, r3, r4, r5⟩ := mcB_3 hj hM2 (by omega) (DV_e hD hC2 hK2)
    refine ⟨n', σ', τ', ?_, fun b => ?_, r3, eC_trans hC2 r4, eM_trans hK2 r5⟩
    · unfold sp_d_middleInOdd_L2
      rw [if_neg q2, r1]
    · unfold sp_m_reflB_L2
      rw [t8_41 hj, ← v4, if_neg (fun z => q2 ((cv_99 v2).mp z)), cv_ne q2, r2]
theorem mcA_1 (hj : j < 4) (hM : MR j n σ τ) (hn : n ≤ 2) (hD : DV j σ τ) : ∃ n' σ' τ', sp_d_middleChange_L1 j σ = (sp_i_answer j σ', σ') ∧ (∀ b, sp_m_reflA_L1 (Int32.ofNat j) b τ = sp_m_reflA_L4 (Int32.ofNat j) (sp_d_heardInBoth_L1 j b σ) τ') ∧ MR j n' σ' τ' ∧ eC j σ σ' ∧ eM τ τ' := by
  obtain ⟨v1, v2, v3, v4⟩ := hD 1 (by decide)
  have k3 : (1 : Int32).toNatClampNeg = 1 := by decide
  have v3 : cv (σ.1 (10 * j + 6) 1) = τ.1 57 (8 * j + 2) := v3
  have v4 : cv (σ.1 (10 * j + 7) 1) = τ.1 57 (8 * j + 3) := v4
  by_cases q1 : σ.1 (10 * j + 6) 1 = 1000
  · obtain ⟨n', σ', τ', r1, r2, r3⟩ := mcA_2 hj hM (by omega) hD
    refine ⟨n', σ', τ', ?_, fun b => ?_, r3⟩
    · unfold sp_d_middleChange_L1 sp_d_hasBoth
      rw [k3, if_pos q1, if_pos rfl, r1]
    · unfold sp_m_reflA_L1 sp_d_heardInBoth_L1 sp_d_hasBoth
      rw [t8_2 hj, ← v3, if_pos ((cv_99 v1).mpr q1), k3, if_pos q1, if_pos rfl, r2]
  · by_cases q2 : σ.1 (10 * j + 7) 1 = 1000
    · obtain ⟨n', σ', τ', r1, r2, r3⟩ := mcA_2 hj hM (by omega) hD
      refine ⟨n', σ', τ', ?_, fun b => ?_, r3⟩
      · unfold sp_d_middleChange_L1 sp_d_hasBoth
        rw [k3, if_neg q1, if_pos q2, if_pos rfl, r1]
      · unfold sp_m_reflA_L1 sp_d_heardInBoth_L1 sp_d_hasBoth
        rw [t8_2 hj, ← v3, if_neg (fun z => q1 ((cv_99 v1).mp z)), t8_21 hj, ← v4, if_pos ((cv_99 v2).mpr q2), k3, if_neg q1, if_pos q2, if_pos rfl, r2]
    · have hM2 := mr_step hM (by omega) (dv_sub v2 v1 q2 q1)
      have hC2 : eC j σ (sp_i_add j (σ.1 (10 * j + 7) 1 - σ.1 (10 * j + 6) 1) σ) := eC_add eC_refl
      have hK2 : eM τ (mmI (mmI τ 64 (τ.1 42 28).toNatClampNeg (σ.1 (10 * j + 7) 1 - σ.1 (10 * j + 6) 1)) 42 28 (τ.1 42 28 + 1)) := eM_42 (eM_64 eM_refl)
      obtain ⟨n', σ', τ', r1, r2, r3, r4, r5⟩ := mcA_2 hj hM2 (by omega) (DV_e hD hC2 hK2)
      refine ⟨n', σ', τ', ?_, fun b => ?_, r3, eC_trans hC2 r4, eM_trans hK2 r5⟩
      · unfold sp_d_middleChange_L1 sp_d_hasBoth
        rw [k3, if_neg q1, if_neg q2, if_neg (by decide), r1]
      · unfold sp_m_reflA_L1 sp_d_heardInBoth_L1 sp_d_hasBoth
        rw [t8_2 hj, ← v3, if_neg (fun z => q1 ((cv_99 v1).mp z)), t8_21 hj, ← v4, if_neg (fun z => q2 ((cv_99 v2).mp z)), k3, if_neg q1, if_neg q2, if_neg (by decide), cv_ne q1, cv_ne q2, r2]
        exact congrArg (fun z => sp_m_reflA_L4 (Int32.ofNat j) z τ') (hb_2 (fun m => hC2 6 (by decide) (by decide) m) (fun m => hC2 7 (by decide) (by decide) m))
theorem mcB_1 (hj : j < 4) (hM : MR j n σ τ) (hn : n ≤ 2) (hD : DV j σ τ) : ∃ n' σ' τ', sp_d_middleInOdd_L1 j σ = (sp_i_answer j σ', σ') ∧ (∀ b, sp_m_reflB_L1 (Int32.ofNat j) b τ = sp_m_reflB_L4 (Int32.ofNat j) b τ') ∧ MR j n' σ' τ' ∧ eC j σ σ' ∧ eM τ τ' := by
  obtain ⟨v1, v2, v3, v4⟩ := hD 1 (by decide)
  have v4 : cv (σ.1 (10 * j + 7) 1) = τ.1 57 (8 * j + 3) := v4
  by_cases q2 : σ.1 (10 * j + 7) 1 = 1000
  · obtain ⟨n', σ', τ', r1, r2, r3⟩ := mcB_2 hj hM (by omega) hD
    refine ⟨n', σ', τ', ?_, fun b => ?_, r3⟩
    · unfold sp_d_middleInOdd_L1
      rw [if_pos q2, r1]
    · unfold sp_m_reflB_L1
      rw [t8_21 hj, ← v4, if_pos ((cv_99 v2).mpr q2), r2]
  · have hM2 := mr_step hM (by omega) (dv_one v2 q2)
    have hC2 : eC j σ (sp_i_add j (σ.1 (10 * j + 7) 1) σ) := eC_add eC_refl
    have hK2 : eM τ (mmI (mmI τ 64 (τ.1 42 28).toNatClampNeg (σ.1 (10 * j + 7) 1)) 42 28 (τ.1 42 28 + 1)) := eM_42 (eM_64 eM_refl)
    obtain ⟨n', σ', τ', r1, r2, r3, r4, r5⟩ := mcB_2 hj hM2 (by omega) (DV_e hD hC2 hK2)
    refine ⟨n', σ', τ', ?_, fun b => ?_, r3, eC_trans hC2 r4, eM_trans hK2 r5⟩
    · unfold sp_d_middleInOdd_L1
      rw [if_neg q2, r1]
    · unfold sp_m_reflB_L1
      rw [t8_21 hj, ← v4, if_neg (fun z => q2 ((cv_99 v2).mp z)), cv_ne q2, r2]
theorem mcA_0 (hj : j < 4) (hM : MR j n σ τ) (hn : n ≤ 1) (hD : DV j σ τ) : ∃ n' σ' τ', sp_d_middleChange_L0 j σ = (sp_i_answer j σ', σ') ∧ (∀ b, sp_m_reflA_L0 (Int32.ofNat j) b τ = sp_m_reflA_L4 (Int32.ofNat j) (sp_d_heardInBoth_L0 j b σ) τ') ∧ MR j n' σ' τ' ∧ eC j σ σ' ∧ eM τ τ' := by
  obtain ⟨v1, v2, v3, v4⟩ := hD 0 (by decide)
  have k3 : (0 : Int32).toNatClampNeg = 0 := by decide
  have v3 : cv (σ.1 (10 * j + 6) 0) = τ.1 57 (8 * j + 0) := v3
  have v4 : cv (σ.1 (10 * j + 7) 0) = τ.1 57 (8 * j + 1) := v4
  by_cases q1 : σ.1 (10 * j + 6) 0 = 1000
  · obtain ⟨n', σ', τ', r1, r2, r3⟩ := mcA_1 hj hM (by omega) hD
    refine ⟨n', σ', τ', ?_, fun b => ?_, r3⟩
    · unfold sp_d_middleChange_L0 sp_d_hasBoth
      rw [k3, if_pos q1, if_pos rfl, r1]
    · unfold sp_m_reflA_L0 sp_d_heardInBoth_L0 sp_d_hasBoth
      rw [t8_0 hj, ← v3, if_pos ((cv_99 v1).mpr q1), k3, if_pos q1, if_pos rfl, r2]
  · by_cases q2 : σ.1 (10 * j + 7) 0 = 1000
    · obtain ⟨n', σ', τ', r1, r2, r3⟩ := mcA_1 hj hM (by omega) hD
      refine ⟨n', σ', τ', ?_, fun b => ?_, r3⟩
      · unfold sp_d_middleChange_L0 sp_d_hasBoth
        rw [k3, if_neg q1, if_pos q2, if_pos rfl, r1]
      · unfold sp_m_reflA_L0 sp_d_heardInBoth_L0 sp_d_hasBoth
        rw [t8_0 hj, ← v3, if_neg (fun z => q1 ((cv_99 v1).mp z)), t8_01 hj, ← v4, if_pos ((cv_99 v2).mpr q2), k3, if_neg q1, if_pos q2, if_pos rfl, r2]
    · have hM2 := mr_step hM (by omega) (dv_sub v2 v1 q2 q1)
      have hC2 : eC j σ (sp_i_add j (σ.1 (10 * j + 7) 0 - σ.1 (10 * j + 6) 0) σ) := eC_add eC_refl
      have hK2 : eM τ (mmI (mmI τ 64 (τ.1 42 28).toNatClampNeg (σ.1 (10 * j + 7) 0 - σ.1 (10 * j + 6) 0)) 42 28 (τ.1 42 28 + 1)) := eM_42 (eM_64 eM_refl)
      obtain ⟨n', σ', τ', r1, r2, r3, r4, r5⟩ := mcA_1 hj hM2 (by omega) (DV_e hD hC2 hK2)
      refine ⟨n', σ', τ', ?_, fun b => ?_, r3, eC_trans hC2 r4, eM_trans hK2 r5⟩
      · unfold sp_d_middleChange_L0 sp_d_hasBoth
        rw [k3, if_neg q1, if_neg q2, if_neg (by decide), r1]
      · unfold sp_m_reflA_L0 sp_d_heardInBoth_L0 sp_d_hasBoth
        rw [t8_0 hj, ← v3, if_neg (fun z => q1 ((cv_99 v1).mp z)), t8_01 hj, ← v4, if_neg (fun z => q2 ((cv_99 v2).mp z)), k3, if_neg q1, if_neg q2, if_neg (by decide), cv_ne q1, cv_ne q2, r2]
        exact congrArg (fun z => sp_m_reflA_L4 (Int32.ofNat j) z τ') (hb_1 (fun m => hC2 6 (by decide) (by decide) m) (fun m => hC2 7 (by decide) (by decide) m))
theorem mcB_0 (hj : j < 4) (hM : MR j n σ τ) (hn : n ≤ 1) (hD : DV j σ τ) : ∃ n' σ' τ', sp_d_middleInOdd_L0 j σ = (sp_i_answer j σ', σ') ∧ (∀ b, sp_m_reflB_L0 (Int32.ofNat j) b τ = sp_m_reflB_L4 (Int32.ofNat j) b τ') ∧ MR j n' σ' τ' ∧ eC j σ σ' ∧ eM τ τ' := by
  obtain ⟨v1, v2, v3, v4⟩ := hD 0 (by decide)
  have v4 : cv (σ.1 (10 * j + 7) 0) = τ.1 57 (8 * j + 1) := v4
  by_cases q2 : σ.1 (10 * j + 7) 0 = 1000
  · obtain ⟨n', σ', τ', r1, r2, r3⟩ := mcB_1 hj hM (by omega) hD
    refine ⟨n', σ', τ', ?_, fun b => ?_, r3⟩
    · unfold sp_d_middleInOdd_L0
      rw [if_pos q2, r1]
    · unfold sp_m_reflB_L0
      rw [t8_01 hj, ← v4, if_pos ((cv_99 v2).mpr q2), r2]
  · have hM2 := mr_step hM (by omega) (dv_one v2 q2)
    have hC2 : eC j σ (sp_i_add j (σ.1 (10 * j + 7) 0) σ) := eC_add eC_refl
    have hK2 : eM τ (mmI (mmI τ 64 (τ.1 42 28).toNatClampNeg (σ.1 (10 * j + 7) 0)) 42 28 (τ.1 42 28 + 1)) := eM_42 (eM_64 eM_refl)
    obtain ⟨n', σ', τ', r1, r2, r3, r4, r5⟩ := mcB_1 hj hM2 (by omega) (DV_e hD hC2 hK2)
    refine ⟨n', σ', τ', ?_, fun b => ?_, r3, eC_trans hC2 r4, eM_trans hK2 r5⟩
    · unfold sp_d_middleInOdd_L0
      rw [if_neg q2, r1]
    · unfold sp_m_reflB_L0
      rw [t8_01 hj, ← v4, if_neg (fun z => q2 ((cv_99 v2).mp z)), cv_ne q2, r2]
theorem ri_st (hj : j < 4) (h : RI j σ τ) (v : Int32) : RI j (mmI σ (10 * j + 2) 7 v) (mmI τ 44 j v) := by
  obtain ⟨x0, x1, x2, x3, x4, x5, x6, x7, t0, t1, t2, t3, t4, s0, s1, s2, dv, he, w0, w1, w2, w3, i1, i2, i3, i4, i5, i6, i7, i8, i9, i10, i11, i12⟩ := h
  unfold RI
  refine ⟨?_, ?_, ?_, ?_, ?_, ?_, ?_, ?_, ?_, ?_, ?_, ?_, ?_, ?_, ?_, ?_, ?_, ?_, ?_, ?_, ?_, ?_, ?_, ?_, ?_, ?_, ?_, ?_, ?_, ?_, ?_, ?_, ?_, ?_⟩
  · simpa only [rdI_, rdJ1, fdk, fmk, tj hj, ne_eq, not_false_eq_true, Nat.add_left_cancel_iff, Nat.reduceEqDiff, reduceIte] using x0
  · simpa only [rdI_, rdJ1, fdk, fmk, tj hj, ne_eq, not_false_eq_true, Nat.add_left_cancel_iff, Nat.reduceEqDiff, reduceIte] using x1
  · simp only [rdI_, rdJ1, fdk, fmk, tj hj, ne_eq, not_false_eq_true, Nat.add_left_cancel_iff, Nat.reduceEqDiff, reduceIte]
  · simpa only [rdI_, rdJ1, fdk, fmk, tj hj, ne_eq, not_false_eq_true, Nat.add_left_cancel_iff, Nat.reduceEqDiff, reduceIte] using x3
  · simpa only [rdI_, rdJ1, fdk, fmk, tj hj, ne_eq, not_false_eq_true, Nat.add_left_cancel_iff, Nat.reduceEqDiff, reduceIte] using x4
  · simpa only [rdI_, rdJ1, fdk, fmk, tj hj, ne_eq, not_false_eq_true, Nat.add_left_cancel_iff, Nat.reduceEqDiff, reduceIte] using x5
  · simpa only [rdI_, rdJ1, fdk, fmk, tj hj, ne_eq, not_false_eq_true, Nat.add_left_cancel_iff, Nat.reduceEqDiff, reduceIte] using x6
  · simpa only [rdI_, rdJ1, fdk, fmk, tj hj, ne_eq, not_false_eq_true, Nat.add_left_cancel_iff, Nat.reduceEqDiff, reduceIte] using x7
  · simpa only [rdI_, rdJ1, fdk, fmk, tj hj, ne_eq, not_false_eq_true, Nat.add_left_cancel_iff, Nat.reduceEqDiff, reduceIte] using t0
  · simpa only [rdI_, rdJ1, fdk, fmk, tj hj, ne_eq, not_false_eq_true, Nat.add_left_cancel_iff, Nat.reduceEqDiff, reduceIte] using t1
  · simpa only [rdI_, rdJ1, fdk, fmk, tj hj, ne_eq, not_false_eq_true, Nat.add_left_cancel_iff, Nat.reduceEqDiff, reduceIte] using t2
  · simpa only [rdI_, rdJ1, fdk, fmk, tj hj, ne_eq, not_false_eq_true, Nat.add_left_cancel_iff, Nat.reduceEqDiff, reduceIte] using t3
  · simpa only [rdI_, rdJ1, fdk, fmk, tj hj, ne_eq, not_false_eq_true, Nat.add_left_cancel_iff, Nat.reduceEqDiff, reduceIte] using t4
  · simpa only [rdI_, rdJ1, fdk, fmk, tj hj, ne_eq, not_false_eq_true, Nat.add_left_cancel_iff, Nat.reduceEqDiff, reduceIte] using s0
  · simpa only [rdI_, rdJ1, fdk, fmk, tj hj, ne_eq, not_false_eq_true, Nat.add_left_cancel_iff, Nat.reduceEqDiff, reduceIte] using s1
  · simpa only [rdI_, rdJ1, fdk, fmk, tj hj, ne_eq, not_false_eq_true, Nat.add_left_cancel_iff, Nat.reduceEqDiff, reduceIte] using s2
  · simpa only [rdI_, rdJ1, fdk, fmk, tj hj, ne_eq, not_false_eq_true, Nat.add_left_cancel_iff, Nat.reduceEqDiff, reduceIte] using dv
  · simpa only [rdI_, rdJ1, fdk, fmk, tj hj, ne_eq, not_false_eq_true, Nat.add_left_cancel_iff, Nat.reduceEqDiff, reduceIte] using he
  · simpa only [rdI_, rdJ1, fdk, fmk, tj hj, ne_eq, not_false_eq_true, Nat.add_left_cancel_iff, Nat.reduceEqDiff, reduceIte] using w0
  · simpa only [rdI_, rdJ1, fdk, fmk, tj hj, ne_eq, not_false_eq_true, Nat.add_left_cancel_iff, Nat.reduceEqDiff, reduceIte] using w1
  · simpa only [rdI_, rdJ1, fdk, fmk, tj hj, ne_eq, not_false_eq_true, Nat.add_left_cancel_iff, Nat.reduceEqDiff, reduceIte] using w2
  · simpa only [rdI_, rdJ1, fdk, fmk, tj hj, ne_eq, not_false_eq_true, Nat.add_left_cancel_iff, Nat.reduceEqDiff, reduceIte] using w3
  · simpa only [rdI_, rdJ1, fdk, fmk, tj hj, ne_eq, not_false_eq_true, Nat.add_left_cancel_iff, Nat.reduceEqDiff, reduceIte] using i1
  · simpa only [rdI_, rdJ1, fdk, fmk, tj hj, ne_eq, not_false_eq_true, Nat.add_left_cancel_iff, Nat.reduceEqDiff, reduceIte] using i2
  · simpa only [rdI_, rdJ1, fdk, fmk, tj hj, ne_eq, not_false_eq_true, Nat.add_left_cancel_iff, Nat.reduceEqDiff, reduceIte] using i3
  · simpa only [rdI_, rdJ1, fdk, fmk, tj hj, ne_eq, not_false_eq_true, Nat.add_left_cancel_iff, Nat.reduceEqDiff, reduceIte] using i4
  · simpa only [rdI_, rdJ1, fdk, fmk, tj hj, ne_eq, not_false_eq_true, Nat.add_left_cancel_iff, Nat.reduceEqDiff, reduceIte] using i5
  · simpa only [rdI_, rdJ1, fdk, fmk, tj hj, ne_eq, not_false_eq_true, Nat.add_left_cancel_iff, Nat.reduceEqDiff, reduceIte] using i6
  · simpa only [rdI_, rdJ1, fdk, fmk, tj hj, ne_eq, not_false_eq_true, Nat.add_left_cancel_iff, Nat.reduceEqDiff, reduceIte] using i7
  · simpa only [rdI_, rdJ1, fdk, fmk, tj hj, ne_eq, not_false_eq_true, Nat.add_left_cancel_iff, Nat.reduceEqDiff, reduceIte] using i8
  · simpa only [rdI_, rdJ1, fdk, fmk, tj hj, ne_eq, not_false_eq_true, Nat.add_left_cancel_iff, Nat.reduceEqDiff, reduceIte] using i9
  · simpa only [rdI_, rdJ1, fdk, fmk, tj hj, ne_eq, not_false_eq_true, Nat.add_left_cancel_iff, Nat.reduceEqDiff, reduceIte] using i10
  · simpa only [rdI_, rdJ1, fdk, fmk, tj hj, ne_eq, not_false_eq_true, Nat.add_left_cancel_iff, Nat.reduceEqDiff, reduceIte] using i11
  · simpa only [rdI_, rdJ1, fdk, fmk, tj hj, ne_eq, not_false_eq_true, Nat.add_left_cancel_iff, Nat.reduceEqDiff, reduceIte] using i12
theorem ri_co (hj : j < 4) (h : RI j σ τ) (v : Int32) : RI j (mmI σ (10 * j + 2) 9 v) (mmI τ 54 j v) := by
  obtain ⟨x0, x1, x2, x3, x4, x5, x6, x7, t0, t1, t2, t3, t4, s0, s1, s2, dv, he, w0, w1, w2, w3, i1, i2, i3, i4, i5, i6, i7, i8, i9, i10, i11, i12⟩ := h
  unfold RI
  refine ⟨?_, ?_, ?_, ?_, ?_, ?_, ?_, ?_, ?_, ?_, ?_, ?_, ?_, ?_, ?_, ?_, ?_, ?_, ?_, ?_, ?_, ?_, ?_, ?_, ?_, ?_, ?_, ?_, ?_, ?_, ?_, ?_, ?_, ?_⟩
  · simpa only [rdI_, rdJ1, fdk, fmk, tj hj, ne_eq, not_false_eq_true, Nat.add_left_cancel_iff, Nat.reduceEqDiff, reduceIte] using x0
  · simpa only [rdI_, rdJ1, fdk, fmk, tj hj, ne_eq, not_false_eq_true, Nat.add_left_cancel_iff, Nat.reduceEqDiff, reduceIte] using x1
  · simpa only [rdI_, rdJ1, fdk, fmk, tj hj, ne_eq, not_false_eq_true, Nat.add_left_cancel_iff, Nat.reduceEqDiff, reduceIte] using x2
  · simpa only [rdI_, rdJ1, fdk, fmk, tj hj, ne_eq, not_false_eq_true, Nat.add_left_cancel_iff, Nat.reduceEqDiff, reduceIte] using x3
  · simp only [rdI_, rdJ1, fdk, fmk, tj hj, ne_eq, not_false_eq_true, Nat.add_left_cancel_iff, Nat.reduceEqDiff, reduceIte]
  · simpa only [rdI_, rdJ1, fdk, fmk, tj hj, ne_eq, not_false_eq_true, Nat.add_left_cancel_iff, Nat.reduceEqDiff, reduceIte] using x5
  · simpa only [rdI_, rdJ1, fdk, fmk, tj hj, ne_eq, not_false_eq_true, Nat.add_left_cancel_iff, Nat.reduceEqDiff, reduceIte] using x6
  · simpa only [rdI_, rdJ1, fdk, fmk, tj hj, ne_eq, not_false_eq_true, Nat.add_left_cancel_iff, Nat.reduceEqDiff, reduceIte] using x7
  · simpa only [rdI_, rdJ1, fdk, fmk, tj hj, ne_eq, not_false_eq_true, Nat.add_left_cancel_iff, Nat.reduceEqDiff, reduceIte] using t0
  · simpa only [rdI_, rdJ1, fdk, fmk, tj hj, ne_eq, not_false_eq_true, Nat.add_left_cancel_iff, Nat.reduceEqDiff, reduceIte] using t1
  · simpa only [rdI_, rdJ1, fdk, fmk, tj hj, ne_eq, not_false_eq_true, Nat.add_left_cancel_iff, Nat.reduceEqDiff, reduceIte] using t2
  · simpa only [rdI_, rdJ1, fdk, fmk, tj hj, ne_eq, not_false_eq_true, Nat.add_left_cancel_iff, Nat.reduceEqDiff, reduceIte] using t3
  · simpa only [rdI_, rdJ1, fdk, fmk, tj hj, ne_eq, not_false_eq_true, Nat.add_left_cancel_iff, Nat.reduceEqDiff, reduceIte] using t4
  · simpa only [rdI_, rdJ1, fdk, fmk, tj hj, ne_eq, not_false_eq_true, Nat.add_left_cancel_iff, Nat.reduceEqDiff, reduceIte] using s0
  · simpa only [rdI_, rdJ1, fdk, fmk, tj hj, ne_eq, not_false_eq_true, Nat.add_left_cancel_iff, Nat.reduceEqDiff, reduceIte] using s1
  · simpa only [rdI_, rdJ1, fdk, fmk, tj hj, ne_eq, not_false_eq_true, Nat.add_left_cancel_iff, Nat.reduceEqDiff, reduceIte] using s2
  · simpa only [rdI_, rdJ1, fdk, fmk, tj hj, ne_eq, not_false_eq_true, Nat.add_left_cancel_iff, Nat.reduceEqDiff, reduceIte] using dv
  · simpa only [rdI_, rdJ1, fdk, fmk, tj hj, ne_eq, not_false_eq_true, Nat.add_left_cancel_iff, Nat.reduceEqDiff, reduceIte] using he
  · simpa only [rdI_, rdJ1, fdk, fmk, tj hj, ne_eq, not_false_eq_true, Nat.add_left_cancel_iff, Nat.reduceEqDiff, reduceIte] using w0
  · simpa only [rdI_, rdJ1, fdk, fmk, tj hj, ne_eq, not_false_eq_true, Nat.add_left_cancel_iff, Nat.reduceEqDiff, reduceIte] using w1
  · simpa only [rdI_, rdJ1, fdk, fmk, tj hj, ne_eq, not_false_eq_true, Nat.add_left_cancel_iff, Nat.reduceEqDiff, reduceIte] using w2
  · simpa only [rdI_, rdJ1, fdk, fmk, tj hj, ne_eq, not_false_eq_true, Nat.add_left_cancel_iff, Nat.reduceEqDiff, reduceIte] using w3
  · simpa only [rdI_, rdJ1, fdk, fmk, tj hj, ne_eq, not_false_eq_true, Nat.add_left_cancel_iff, Nat.reduceEqDiff, reduceIte] using i1
  · simpa only [rdI_, rdJ1, fdk, fmk, tj hj, ne_eq, not_false_eq_true, Nat.add_left_cancel_iff, Nat.reduceEqDiff, reduceIte] using i2
  · simpa only [rdI_, rdJ1, fdk, fmk, tj hj, ne_eq, not_false_eq_true, Nat.add_left_cancel_iff, Nat.reduceEqDiff, reduceIte] using i3
  · simpa only [rdI_, rdJ1, fdk, fmk, tj hj, ne_eq, not_false_eq_true, Nat.add_left_cancel_iff, Nat.reduceEqDiff, reduceIte] using i4
  · simpa only [rdI_, rdJ1, fdk, fmk, tj hj, ne_eq, not_false_eq_true, Nat.add_left_cancel_iff, Nat.reduceEqDiff, reduceIte] using i5
  · simpa only [rdI_, rdJ1, fdk, fmk, tj hj, ne_eq, not_false_eq_true, Nat.add_left_cancel_iff, Nat.reduceEqDiff, reduceIte] using i6
  · simpa only [rdI_, rdJ1, fdk, fmk, tj hj, ne_eq, not_false_eq_true, Nat.add_left_cancel_iff, Nat.reduceEqDiff, reduceIte] using i7
  · simpa only [rdI_, rdJ1, fdk, fmk, tj hj, ne_eq, not_false_eq_true, Nat.add_left_cancel_iff, Nat.reduceEqDiff, reduceIte] using i8
  · simpa only [rdI_, rdJ1, fdk, fmk, tj hj, ne_eq, not_false_eq_true, Nat.add_left_cancel_iff, Nat.reduceEqDiff, reduceIte] using i9
  · simpa only [rdI_, rdJ1, fdk, fmk, tj hj, ne_eq, not_false_eq_true, Nat.add_left_cancel_iff, Nat.reduceEqDiff, reduceIte] using i10
  · simpa only [rdI_, rdJ1, fdk, fmk, tj hj, ne_eq, not_false_eq_true, Nat.add_left_cancel_iff, Nat.reduceEqDiff, reduceIte] using i11
  · simpa only [rdI_, rdJ1, fdk, fmk, tj hj, ne_eq, not_false_eq_true, Nat.add_left_cancel_iff, Nat.reduceEqDiff, reduceIte] using i12
theorem ri_nu (hj : j < 4) (h : RI j σ τ) (v : Int32) : RI j (mmI σ (10 * j + 2) 10 v) (mmI τ 55 j v) := by
  obtain ⟨x0, x1, x2, x3, x4, x5, x6, x7, t0, t1, t2, t3, t4, s0, s1, s2, dv, he, w0, w1, w2, w3, i1, i2, i3, i4, i5, i6, i7, i8, i9, i10, i11, i12⟩ := h
  unfold RI
  refine ⟨?_, ?_, ?_, ?_, ?_, ?_, ?_, ?_, ?_, ?_, ?_, ?_, ?_, ?_, ?_, ?_, ?_, ?_, ?_, ?_, ?_, ?_, ?_, ?_, ?_, ?_, ?_, ?_, ?_, ?_, ?_, ?_, ?_, ?_⟩
  · simpa only [rdI_, rdJ1, fdk, fmk, tj hj, ne_eq, not_false_eq_true, Nat.add_left_cancel_iff, Nat.reduceEqDiff, reduceIte] using x0
  · simpa only [rdI_, rdJ1, fdk, fmk, tj hj, ne_eq, not_false_eq_true, Nat.add_left_cancel_iff, Nat.reduceEqDiff, reduceIte] using x1
  · simpa only [rdI_, rdJ1, fdk, fmk, tj hj, ne_eq, not_false_eq_true, Nat.add_left_cancel_iff, Nat.reduceEqDiff, reduceIte] using x2
  · simpa only [rdI_, rdJ1, fdk, fmk, tj hj, ne_eq, not_false_eq_true, Nat.add_left_cancel_iff, Nat.reduceEqDiff, reduceIte] using x3
  · simpa only [rdI_, rdJ1, fdk, fmk, tj hj, ne_eq, not_false_eq_true, Nat.add_left_cancel_iff, Nat.reduceEqDiff, reduceIte] using x4
  · simp only [rdI_, rdJ1, fdk, fmk, tj hj, ne_eq, not_false_eq_true, Nat.add_left_cancel_iff, Nat.reduceEqDiff, reduceIte]
  · simpa only [rdI_, rdJ1, fdk, fmk, tj hj, ne_eq, not_false_eq_true, Nat.add_left_cancel_iff, Nat.reduceEqDiff, reduceIte] using x6
  · simpa only [rdI_, rdJ1, fdk, fmk, tj hj, ne_eq, not_false_eq_true, Nat.add_left_cancel_iff, Nat.reduceEqDiff, reduceIte] using x7
  · simpa only [rdI_, rdJ1, fdk, fmk, tj hj, ne_eq, not_false_eq_true, Nat.add_left_cancel_iff, Nat.reduceEqDiff, reduceIte] using t0
  · simpa only [rdI_, rdJ1, fdk, fmk, tj hj, ne_eq, not_false_eq_true, Nat.add_left_cancel_iff, Nat.reduceEqDiff, reduceIte] using t1
  · simpa only [rdI_, rdJ1, fdk, fmk, tj hj, ne_eq, not_false_eq_true, Nat.add_left_cancel_iff, Nat.reduceEqDiff, reduceIte] using t2
  · simpa only [rdI_, rdJ1, fdk, fmk, tj hj, ne_eq, not_false_eq_true, Nat.add_left_cancel_iff, Nat.reduceEqDiff, reduceIte] using t3
  · simpa only [rdI_, rdJ1, fdk, fmk, tj hj, ne_eq, not_false_eq_true, Nat.add_left_cancel_iff, Nat.reduceEqDiff, reduceIte] using t4
  · simpa only [rdI_, rdJ1, fdk, fmk, tj hj, ne_eq, not_false_eq_true, Nat.add_left_cancel_iff, Nat.reduceEqDiff, reduceIte] using s0
  · simpa only [rdI_, rdJ1, fdk, fmk, tj hj, ne_eq, not_false_eq_true, Nat.add_left_cancel_iff, Nat.reduceEqDiff, reduceIte] using s1
  · simpa only [rdI_, rdJ1, fdk, fmk, tj hj, ne_eq, not_false_eq_true, Nat.add_left_cancel_iff, Nat.reduceEqDiff, reduceIte] using s2
  · simpa only [rdI_, rdJ1, fdk, fmk, tj hj, ne_eq, not_false_eq_true, Nat.add_left_cancel_iff, Nat.reduceEqDiff, reduceIte] using dv
  · simpa only [rdI_, rdJ1, fdk, fmk, tj hj, ne_eq, not_false_eq_true, Nat.add_left_cancel_iff, Nat.reduceEqDiff, reduceIte] using he
  · simpa only [rdI_, rdJ1, fdk, fmk, tj hj, ne_eq, not_false_eq_true, Nat.add_left_cancel_iff, Nat.reduceEqDiff, reduceIte] using w0
  · simpa only [rdI_, rdJ1, fdk, fmk, tj hj, ne_eq, not_false_eq_true, Nat.add_left_cancel_iff, Nat.reduceEqDiff, reduceIte] using w1
  · simpa only [rdI_, rdJ1, fdk, fmk, tj hj, ne_eq, not_false_eq_true, Nat.add_left_cancel_iff, Nat.reduceEqDiff, reduceIte] using w2
  · simpa only [rdI_, rdJ1, fdk, fmk, tj hj, ne_eq, not_false_eq_true, Nat.add_left_cancel_iff, Nat.reduceEqDiff, reduceIte] using w3
  · simpa only [rdI_, rdJ1, fdk, fmk, tj hj, ne_eq, not_false_eq_true, Nat.add_left_cancel_iff, Nat.reduceEqDiff, reduceIte] using i1
  · simpa only [rdI_, rdJ1, fdk, fmk, tj hj, ne_eq, not_false_eq_true, Nat.add_left_cancel_iff, Nat.reduceEqDiff, reduceIte] using i2
  · simpa only [rdI_, rdJ1, fdk, fmk, tj hj, ne_eq, not_false_eq_true, Nat.add_left_cancel_iff, Nat.reduceEqDiff, reduceIte] using i3
  · simpa only [rdI_, rdJ1, fdk, fmk, tj hj, ne_eq, not_false_eq_true, Nat.add_left_cancel_iff, Nat.reduceEqDiff, reduceIte] using i4
  · simpa only [rdI_, rdJ1, fdk, fmk, tj hj, ne_eq, not_false_eq_true, Nat.add_left_cancel_iff, Nat.reduceEqDiff, reduceIte] using i5
  · simpa only [rdI_, rdJ1, fdk, fmk, tj hj, ne_eq, not_false_eq_true, Nat.add_left_cancel_iff, Nat.reduceEqDiff, reduceIte] using i6
  · simpa only [rdI_, rdJ1, fdk, fmk, tj hj, ne_eq, not_false_eq_true, Nat.add_left_cancel_iff, Nat.reduceEqDiff, reduceIte] using i7
  · simpa only [rdI_, rdJ1, fdk, fmk, tj hj, ne_eq, not_false_eq_true, Nat.add_left_cancel_iff, Nat.reduceEqDiff, reduceIte] using i8
  · simpa only [rdI_, rdJ1, fdk, fmk, tj hj, ne_eq, not_false_eq_true, Nat.add_left_cancel_iff, Nat.reduceEqDiff, reduceIte] using i9
  · simpa only [rdI_, rdJ1, fdk, fmk, tj hj, ne_eq, not_false_eq_true, Nat.add_left_cancel_iff, Nat.reduceEqDiff, reduceIte] using i10
  · simpa only [rdI_, rdJ1, fdk, fmk, tj hj, ne_eq, not_false_eq_true, Nat.add_left_cancel_iff, Nat.reduceEqDiff, reduceIte] using i11
  · simpa only [rdI_, rdJ1, fdk, fmk, tj hj, ne_eq, not_false_eq_true, Nat.add_left_cancel_iff, Nat.reduceEqDiff, reduceIte] using i12
theorem ri_ho (hj : j < 4) (h : RI j σ τ) (v : Int32) : RI j (mmI σ (10 * j + 2) 11 v) (mmI τ 56 j v) := by
  obtain ⟨x0, x1, x2, x3, x4, x5, x6, x7, t0, t1, t2, t3, t4, s0, s1, s2, dv, he, w0, w1, w2, w3, i1, i2, i3, i4, i5, i6, i7, i8, i9, i10, i11, i12⟩ := h
  unfold RI
  refine ⟨?_, ?_, ?_, ?_, ?_, ?_, ?_, ?_, ?_, ?_, ?_, ?_, ?_, ?_, ?_, ?_, ?_, ?_, ?_, ?_, ?_, ?_, ?_, ?_, ?_, ?_, ?_, ?_, ?_, ?_, ?_, ?_, ?_, ?_⟩
  · simpa only [rdI_, rdJ1, fdk, fmk, tj hj, ne_eq, not_false_eq_true, Nat.add_left_cancel_iff, Nat.reduceEqDiff, reduceIte] using x0
  · simpa only [rdI_, rdJ1, fdk, fmk, tj hj, ne_eq, not_false_eq_true, Nat.add_left_cancel_iff, Nat.reduceEqDiff, reduceIte] using x1
  · simpa only [rdI_, rdJ1, fdk, fmk, tj hj, ne_eq, not_false_eq_true, Nat.add_left_cancel_iff, Nat.reduceEqDiff, reduceIte] using x2
  · simpa only [rdI_, rdJ1, fdk, fmk, tj hj, ne_eq, not_false_eq_true, Nat.add_left_cancel_iff, Nat.reduceEqDiff, reduceIte] using x3
  · simpa only [rdI_, rdJ1, fdk, fmk, tj hj, ne_eq, not_false_eq_true, Nat.add_left_cancel_iff, Nat.reduceEqDiff, reduceIte] using x4
  · simpa only [rdI_, rdJ1, fdk, fmk, tj hj, ne_eq, not_false_eq_true, Nat.add_left_cancel_iff, Nat.reduceEqDiff, reduceIte] using x5
  · simp only [rdI_, rdJ1, fdk, fmk, tj hj, ne_eq, not_false_eq_true, Nat.add_left_cancel_iff, Nat.reduceEqDiff, reduceIte]
  · simpa only [rdI_, rdJ1, fdk, fmk, tj hj, ne_eq, not_false_eq_true, Nat.add_left_cancel_iff, Nat.reduceEqDiff, reduceIte] using x7
  · simpa only [rdI_, rdJ1, fdk, fmk, tj hj, ne_eq, not_false_eq_true, Nat.add_left_cancel_iff, Nat.reduceEqDiff, reduceIte] using t0
  · simpa only [rdI_, rdJ1, fdk, fmk, tj hj, ne_eq, not_false_eq_true, Nat.add_left_cancel_iff, Nat.reduceEqDiff, reduceIte] using t1
  · simpa only [rdI_, rdJ1, fdk, fmk, tj hj, ne_eq, not_false_eq_true, Nat.add_left_cancel_iff, Nat.reduceEqDiff, reduceIte] using t2
  · simpa only [rdI_, rdJ1, fdk, fmk, tj hj, ne_eq, not_false_eq_true, Nat.add_left_cancel_iff, Nat.reduceEqDiff, reduceIte] using t3
  · simpa only [rdI_, rdJ1, fdk, fmk, tj hj, ne_eq, not_false_eq_true, Nat.add_left_cancel_iff, Nat.reduceEqDiff, reduceIte] using t4
  · simpa only [rdI_, rdJ1, fdk, fmk, tj hj, ne_eq, not_false_eq_true, Nat.add_left_cancel_iff, Nat.reduceEqDiff, reduceIte] using s0
  · simpa only [rdI_, rdJ1, fdk, fmk, tj hj, ne_eq, not_false_eq_true, Nat.add_left_cancel_iff, Nat.reduceEqDiff, reduceIte] using s1
  · simpa only [rdI_, rdJ1, fdk, fmk, tj hj, ne_eq, not_false_eq_true, Nat.add_left_cancel_iff, Nat.reduceEqDiff, reduceIte] using s2
  · simpa only [rdI_, rdJ1, fdk, fmk, tj hj, ne_eq, not_false_eq_true, Nat.add_left_cancel_iff, Nat.reduceEqDiff, reduceIte] using dv
  · simpa only [rdI_, rdJ1, fdk, fmk, tj hj, ne_eq, not_false_eq_true, Nat.add_left_cancel_iff, Nat.reduceEqDiff, reduceIte] using he
  · simpa only [rdI_, rdJ1, fdk, fmk, tj hj, ne_eq, not_false_eq_true, Nat.add_left_cancel_iff, Nat.reduceEqDiff, reduceIte] using w0
  · simpa only [rdI_, rdJ1, fdk, fmk, tj hj, ne_eq, not_false_eq_true, Nat.add_left_cancel_iff, Nat.reduceEqDiff, reduceIte] using w1
  · simpa only [rdI_, rdJ1, fdk, fmk, tj hj, ne_eq, not_false_eq_true, Nat.add_left_cancel_iff, Nat.reduceEqDiff, reduceIte] using w2
  · simpa only [rdI_, rdJ1, fdk, fmk, tj hj, ne_eq, not_false_eq_true, Nat.add_left_cancel_iff, Nat.reduceEqDiff, reduceIte] using w3
  · simpa only [rdI_, rdJ1, fdk, fmk, tj hj, ne_eq, not_false_eq_true, Nat.add_left_cancel_iff, Nat.reduceEqDiff, reduceIte] using i1
  · simpa only [rdI_, rdJ1, fdk, fmk, tj hj, ne_eq, not_false_eq_true, Nat.add_left_cancel_iff, Nat.reduceEqDiff, reduceIte] using i2
  · simpa only [rdI_, rdJ1, fdk, fmk, tj hj, ne_eq, not_false_eq_true, Nat.add_left_cancel_iff, Nat.reduceEqDiff, reduceIte] using i3
  · simpa only [rdI_, rdJ1, fdk, fmk, tj hj, ne_eq, not_false_eq_true, Nat.add_left_cancel_iff, Nat.reduceEqDiff, reduceIte] using i4
  · simpa only [rdI_, rdJ1, fdk, fmk, tj hj, ne_eq, not_false_eq_true, Nat.add_left_cancel_iff, Nat.reduceEqDiff, reduceIte] using i5
  · simpa only [rdI_, rdJ1, fdk, fmk, tj hj, ne_eq, not_false_eq_true, Nat.add_left_cancel_iff, Nat.reduceEqDiff, reduceIte] using i6
  · simpa only [rdI_, rdJ1, fdk, fmk, tj hj, ne_eq, not_false_eq_true, Nat.add_left_cancel_iff, Nat.reduceEqDiff, reduceIte] using i7
  · simpa only [rdI_, rdJ1, fdk, fmk, tj hj, ne_eq, not_false_eq_true, Nat.add_left_cancel_iff, Nat.reduceEqDiff, reduceIte] using i8
  · simpa only [rdI_, rdJ1, fdk, fmk, tj hj, ne_eq, not_false_eq_true, Nat.add_left_cancel_iff, Nat.reduceEqDiff, reduceIte] using i9
  · simpa only [rdI_, rdJ1, fdk, fmk, tj hj, ne_eq, not_false_eq_true, Nat.add_left_cancel_iff, Nat.reduceEqDiff, reduceIte] using i10
  · simpa only [rdI_, rdJ1, fdk, fmk, tj hj, ne_eq, not_false_eq_true, Nat.add_left_cancel_iff, Nat.reduceEqDiff, reduceIte] using i11
  · simpa only [rdI_, rdJ1, fdk, fmk, tj hj, ne_eq, not_false_eq_true, Nat.add_left_cancel_iff, Nat.reduceEqDiff, reduceIte] using i12
theorem ri_st4 (hj : j < 4) (h : RI j σ τ) (h4 : τ.1 44 j = 4) : RI j (mmI σ (10 * j + 2) 7 4) τ := by
  obtain ⟨x0, x1, x2, x3, x4, x5, x6, x7, t0, t1, t2, t3, t4, s0, s1, s2, dv, he, w0, w1, w2, w3, i1, i2, i3, i4, i5, i6, i7, i8, i9, i10, i11, i12⟩ := h
  unfold RI
  refine ⟨?_, ?_, ?_, ?_, ?_, ?_, ?_, ?_, ?_, ?_, ?_, ?_, ?_, ?_, ?_, ?_, ?_, ?_, ?_, ?_, ?_, ?_, ?_, ?_, ?_, ?_, ?_, ?_, ?_, ?_, ?_, ?_, ?_, ?_⟩
  · simpa only [rdI_, rdJ1, fdk, fmk, tj hj, ne_eq, not_false_eq_true, Nat.add_left_cancel_iff, Nat.reduceEqDiff, reduceIte] using x0
  · simpa only [rdI_, rdJ1, fdk, fmk, tj hj, ne_eq, not_false_eq_true, Nat.add_left_cancel_iff, Nat.reduceEqDiff, reduceIte] using x1
  · simp only [rdI_, rdJ1, fdk, fmk, tj hj, ne_eq, not_false_eq_true, Nat.add_left_cancel_iff, Nat.reduceEqDiff, reduceIte, h4]
  · simpa only [rdI_, rdJ1, fdk, fmk, tj hj, ne_eq, not_false_eq_true, Nat.add_left_cancel_iff, Nat.reduceEqDiff, reduceIte] using x3
  · simpa only [rdI_, rdJ1, fdk, fmk, tj hj, ne_eq, not_false_eq_true, Nat.add_left_cancel_iff, Nat.reduceEqDiff, reduceIte] using x4
  · simpa only [rdI_, rdJ1, fdk, fmk, tj hj, ne_eq, not_false_eq_true, Nat.add_left_cancel_iff, Nat.reduceEqDiff, reduceIte] using x5
  · simpa only [rdI_, rdJ1, fdk, fmk, tj hj, ne_eq, not_false_eq_true, Nat.add_left_cancel_iff, Nat.reduceEqDiff, reduceIte] using x6
  · simpa only [rdI_, rdJ1, fdk, fmk, tj hj, ne_eq, not_false_eq_true, Nat.add_left_cancel_iff, Nat.reduceEqDiff, reduceIte] using x7
  · simpa only [rdI_, rdJ1, fdk, fmk, tj hj, ne_eq, not_false_eq_true, Nat.add_left_cancel_iff, Nat.reduceEqDiff, reduceIte] using t0
  · simpa only [rdI_, rdJ1, fdk, fmk, tj hj, ne_eq, not_false_eq_true, Nat.add_left_cancel_iff, Nat.reduceEqDiff, reduceIte] using t1
  · simpa only [rdI_, rdJ1, fdk, fmk, tj hj, ne_eq, not_false_eq_true, Nat.add_left_cancel_iff, Nat.reduceEqDiff, reduceIte] using t2
  · simpa only [rdI_, rdJ1, fdk, fmk, tj hj, ne_eq, not_false_eq_true, Nat.add_left_cancel_iff, Nat.reduceEqDiff, reduceIte] using t3
  · simpa only [rdI_, rdJ1, fdk, fmk, tj hj, ne_eq, not_false_eq_true, Nat.add_left_cancel_iff, Nat.reduceEqDiff, reduceIte] using t4
  · simpa only [rdI_, rdJ1, fdk, fmk, tj hj, ne_eq, not_false_eq_true, Nat.add_left_cancel_iff, Nat.reduceEqDiff, reduceIte] using s0
  · simpa only [rdI_, rdJ1, fdk, fmk, tj hj, ne_eq, not_false_eq_true, Nat.add_left_cancel_iff, Nat.reduceEqDiff, reduceIte] using s1
  · simpa only [rdI_, rdJ1, fdk, fmk, tj hj, ne_eq, not_false_eq_true, Nat.add_left_cancel_iff, Nat.reduceEqDiff, reduceIte] using s2
  · simpa only [rdI_, rdJ1, fdk, fmk, tj hj, ne_eq, not_false_eq_true, Nat.add_left_cancel_iff, Nat.reduceEqDiff, reduceIte] using dv
  · simpa only [rdI_, rdJ1, fdk, fmk, tj hj, ne_eq, not_false_eq_true, Nat.add_left_cancel_iff, Nat.reduceEqDiff, reduceIte] using he
  · simpa only [rdI_, rdJ1, fdk, fmk, tj hj, ne_eq, not_false_eq_true, Nat.add_left_cancel_iff, Nat.reduceEqDiff, reduceIte] using w0
  · simpa only [rdI_, rdJ1, fdk, fmk, tj hj, ne_eq, not_false_eq_true, Nat.add_left_cancel_iff, Nat.reduceEqDiff, reduceIte] using w1
  · simpa only [rdI_, rdJ1, fdk, fmk, tj hj, ne_eq, not_false_eq_true, Nat.add_left_cancel_iff, Nat.reduceEqDiff, reduceIte] using w2
  · simpa only [rdI_, rdJ1, fdk, fmk, tj hj, ne_eq, not_false_eq_true, Nat.add_left_cancel_iff, Nat.reduceEqDiff, reduceIte] using w3
  · simpa only [rdI_, rdJ1, fdk, fmk, tj hj, ne_eq, not_false_eq_true, Nat.add_left_cancel_iff, Nat.reduceEqDiff, reduceIte] using i1
  · simpa only [rdI_, rdJ1, fdk, fmk, tj hj, ne_eq, not_false_eq_true, Nat.add_left_cancel_iff, Nat.reduceEqDiff, reduceIte] using i2
  · simpa only [rdI_, rdJ1, fdk, fmk, tj hj, ne_eq, not_false_eq_true, Nat.add_left_cancel_iff, Nat.reduceEqDiff, reduceIte] using i3
  · simpa only [rdI_, rdJ1, fdk, fmk, tj hj, ne_eq, not_false_eq_true, Nat.add_left_cancel_iff, Nat.reduceEqDiff, reduceIte] using i4
  · simpa only [rdI_, rdJ1, fdk, fmk, tj hj, ne_eq, not_false_eq_true, Nat.add_left_cancel_iff, Nat.reduceEqDiff, reduceIte] using i5
  · simpa only [rdI_, rdJ1, fdk, fmk, tj hj, ne_eq, not_false_eq_true, Nat.add_left_cancel_iff, Nat.reduceEqDiff, reduceIte] using i6
  · simpa only [rdI_, rdJ1, fdk, fmk, tj hj, ne_eq, not_false_eq_true, Nat.add_left_cancel_iff, Nat.reduceEqDiff, reduceIte] using i7
  · simpa only [rdI_, rdJ1, fdk, fmk, tj hj, ne_eq, not_false_eq_true, Nat.add_left_cancel_iff, Nat.reduceEqDiff, reduceIte] using i8
  · simpa only [rdI_, rdJ1, fdk, fmk, tj hj, ne_eq, not_false_eq_true, Nat.add_left_cancel_iff, Nat.reduceEqDiff, reduceIte] using i9
  · simpa only [rdI_, rdJ1, fdk, fmk, tj hj, ne_eq, not_false_eq_true, Nat.add_left_cancel_iff, Nat.reduceEqDiff, reduceIte] using i10
  · simpa only [rdI_, rdJ1, fdk, fmk, tj hj, ne_eq, not_false_eq_true, Nat.add_left_cancel_iff, Nat.reduceEqDiff, reduceIte] using i11
  · simpa only [rdI_, rdJ1, fdk, fmk, tj hj, ne_eq, not_false_eq_true, Nat.add_left_cancel_iff, Nat.reduceEqDiff, reduceIte] using i12
theorem hb_cs : sp_d_heardInBoth j σ = 0 ∨ sp_d_heardInBoth j σ = 1 ∨ sp_d_heardInBoth j σ = 2 ∨ sp_d_heardInBoth j σ = 3 ∨ sp_d_heardInBoth j σ = 4 := by
  unfold sp_d_heardInBoth sp_d_heardInBoth_L0 sp_d_heardInBoth_L1 sp_d_heardInBoth_L2 sp_d_heardInBoth_L3 sp_d_heardInBoth_L4
  generalize sp_d_hasBoth j 0 σ = a
  generalize sp_d_hasBoth j 1 σ = b
  generalize sp_d_hasBoth j 2 σ = c
  generalize sp_d_hasBoth j 3 σ = d
  by_cases h1 : a = 0 <;> by_cases h2 : b = 0 <;> by_cases h3 : c = 0 <;> by_cases h4 : d = 0 <;> simp only [h1, h2, h3, h4, if_true, if_false] <;> decide
theorem ri_decide (hj : j < 4) (h : RI j σ τ) : RI j (sp_n_reflect_21 j σ) (sp_m_decide (Int32.ofNat j) (sp_d_heardInBoth j σ) τ) := by
  have hH := hb_cs (j := j) (σ := σ)
  generalize hHd : sp_d_heardInBoth j σ = H at hH
  have h0 : H ≤ 0 ↔ H = 0 := by rcases hH with rfl | rfl | rfl | rfl | rfl <;> decide
  have e0 : σ.1 (10 * j + 2) 0 = Int32.ofNat j := h.1
  have e2 : σ.1 (10 * j + 2) 7 = τ.1 44 j := h.2.2.1
  have e4 : σ.1 (10 * j + 2) 9 = τ.1 54 j := h.2.2.2.2.1
  have e1 : σ.1 (10 * j + 3) 1 = τ.1 50 j := h.2.2.2.2.2.2.2.2.2.1
  have lst : (2 : Int32) ≤ Int32.ofNat j ↔ ¬ Int32.ofNat j < 2 := Int32.not_lt.symm
  unfold sp_n_reflect_21 sp_n_reflectLeading sp_n_reflectJoining sp_n_reflectAlone sp_n_isStarter sp_m_decide
  rw [hHd, tj hj, e0, e1, e2, e4]
  by_cases c2 : τ.1 44 j = 2
  · rw [if_pos c2, if_pos c2]
    by_cases c3 : H ≤ 0
    · rw [if_pos c3, if_pos c3]
      by_cases c4 : τ.1 50 j < 11
      · rw [if_pos c4, if_pos c4]; exact h
      · rw [if_neg c4, if_neg c4]; exact ri_listen hj h
    · rw [if_neg c3, if_neg c3]; exact ri_st hj h 4
  · rw [if_neg c2, if_neg c2]
    by_cases c3 : τ.1 44 j = 3
    · rw [if_pos c3, if_pos c3]
      by_cases c4 : τ.1 54 j = -1
      · rw [if_pos c4, if_pos c4]; exact ri_co hj h 0
      · rw [if_neg c4, if_neg c4]
        by_cases c5 : H = 0
        · rw [if_pos c5, if_pos c5]; exact ri_listen hj h
        · rw [if_neg c5, if_neg c5]
          have fin : RI j (if τ.1 54 j + 1 = 2 then mmI (mmI σ (10 * j + 2) 9 (τ.1 54 j + 1)) (10 * j + 2) 7 4 else mmI σ (10 * j + 2) 9 (τ.1 54 j + 1)) (if τ.1 54 j + 1 = 2 then mmI (mmI τ 54 j (τ.1 54 j + 1)) 44 j 4 else mmI τ 54 j (τ.1 54 j + 1)) := by
            by_cases c6 : τ.1 54 j + 1 = 2
            · rw [if_pos c6, if_pos c6]; exact ri_st hj (ri_co hj h _) 4
            · rw [if_neg c6, if_neg c6]; exact ri_co hj h _
          by_cases c7 : Int32.ofNat j < 2
          · rw [if_neg (fun z => lst.mp z c7), if_neg (by decide), if_pos c7]
            exact fin
          · rw [if_pos (lst.mpr c7), if_pos rfl, if_neg c7]
            by_cases c8 : H ≤ 1
            · rw [if_pos c8, if_pos c8]; exact h
            · rw [if_neg c8, if_neg c8]; exact fin
    · rw [if_neg c3, if_neg c3]
      by_cases c4 : τ.1 44 j = 4
      · by_cases c5 : H = 0
        · rw [if_pos (h0.mpr c5), if_pos c4, if_pos c4, if_pos c5]; exact ri_co hj (ri_st hj h 5) 1
        · rw [if_neg (fun z => c5 (h0.mp z)), if_pos c4, if_neg c5]; exact ri_st4 hj h c4
      · by_cases c5 : H ≤ 0
        · rw [if_pos c5, if_neg c4, if_neg c4, if_pos c5]
          by_cases c6 : τ.1 54 j + 1 = 3
          · rw [if_pos c6, if_pos c6]; exact ri_st hj (ri_co hj h _) 6
          · rw [if_neg c6, if_neg c6]; exact ri_co hj h _
        · rw [if_neg c5, if_neg c4, if_neg c5]; exact ri_st hj h 4
theorem mok60 {m c r o : Int32} (hm : m = 60) (h1 : rg r (-4) 4) (h2 : rg o (-6) 6) : mok m c r o := by
  subst hm
  obtain ⟨a1, a2⟩ := h1
  obtain ⟨b1, b2⟩ := h2
  have e : (60 : Int32).toInt = 60 := by decide
  refine ⟨by decide, ?_⟩
  rw [e]
  split <;> omega
theorem ri_corr (hj : j < 4) (h : RI j σ τ) (hm : σ.1 (10 * j + 3) 0 = 60) {x y : Int32} (hx : rg x (-4) 4) (hy : rg y (-6) 6) : RI j (mmI (mmI σ (10 * j + 3) 3 x) (10 * j + 3) 4 y) (mmI (mmI τ 53 j x) 52 j y) := by
  obtain ⟨x0, x1, x2, x3, x4, x5, x6, x7, t0, t1, t2, t3, t4, s0, s1, s2, dv, he, w0, w1, w2, w3, i1, i2, i3, i4, i5, i6, i7, i8, i9, i10, i11, i12⟩ := h
  unfold RI
  refine ⟨?_, ?_, ?_, ?_, ?_, ?_, ?_, ?_, ?_, ?_, ?_, ?_, ?_, ?_, ?_, ?_, ?_, ?_, ?_, ?_, ?_, ?_, ?_, ?_, ?_, ?_, ?_, ?_, ?_, ?_, ?_, ?_, ?_, ?_⟩
  · simpa only [rdI_, rdJ1, fdk, fmk, tj hj, ne_eq, not_false_eq_true, Nat.add_left_cancel_iff, Nat.reduceEqDiff, reduceIte] using x0
  · simpa only [rdI_, rdJ1, fdk, fmk, tj hj, ne_eq, not_false_eq_true, Nat.add_left_cancel_iff, Nat.reduceEqDiff, reduceIte] using x1
  · simpa only [rdI_, rdJ1, fdk, fmk, tj hj, ne_eq, not_false_eq_true, Nat.add_left_cancel_iff, Nat.reduceEqDiff, reduceIte] using x2
  · simpa only [rdI_, rdJ1, fdk, fmk, tj hj, ne_eq, not_false_eq_true, Nat.add_left_cancel_iff, Nat.reduceEqDiff, reduceIte] using x3
  · simpa only [rdI_, rdJ1, fdk, fmk, tj hj, ne_eq, not_false_eq_true, Nat.add_left_cancel_iff, Nat.reduceEqDiff, reduceIte] using x4
  · simpa only [rdI_, rdJ1, fdk, fmk, tj hj, ne_eq, not_false_eq_true, Nat.add_left_cancel_iff, Nat.reduceEqDiff, reduceIte] using x5
  · simpa only [rdI_, rdJ1, fdk, fmk, tj hj, ne_eq, not_false_eq_true, Nat.add_left_cancel_iff, Nat.reduceEqDiff, reduceIte] using x6
  · simpa only [rdI_, rdJ1, fdk, fmk, tj hj, ne_eq, not_false_eq_true, Nat.add_left_cancel_iff, Nat.reduceEqDiff, reduceIte] using x7
  · simpa only [rdI_, rdJ1, fdk, fmk, tj hj, ne_eq, not_false_eq_true, Nat.add_left_cancel_iff, Nat.reduceEqDiff, reduceIte] using t0
  · simpa only [rdI_, rdJ1, fdk, fmk, tj hj, ne_eq, not_false_eq_true, Nat.add_left_cancel_iff, Nat.reduceEqDiff, reduceIte] using t1
  · simpa only [rdI_, rdJ1, fdk, fmk, tj hj, ne_eq, not_false_eq_true, Nat.add_left_cancel_iff, Nat.reduceEqDiff, reduceIte] using t2
  · simp only [rdI_, rdJ1, fdk, fmk, tj hj, ne_eq, not_false_eq_true, Nat.add_left_cancel_iff, Nat.reduceEqDiff, reduceIte]
  · simp only [rdI_, rdJ1, fdk, fmk, tj hj, ne_eq, not_false_eq_true, Nat.add_left_cancel_iff, Nat.reduceEqDiff, reduceIte]
  · simpa only [rdI_, rdJ1, fdk, fmk, tj hj, ne_eq, not_false_eq_true, Nat.add_left_cancel_iff, Nat.reduceEqDiff, reduceIte] using s0
  · simpa only [rdI_, rdJ1, fdk, fmk, tj hj, ne_eq, not_false_eq_true, Nat.add_left_cancel_iff, Nat.reduceEqDiff, reduceIte] using s1
  · simpa only [rdI_, rdJ1, fdk, fmk, tj hj, ne_eq, not_false_eq_true, Nat.add_left_cancel_iff, Nat.reduceEqDiff, reduceIte] using s2
  · simpa only [rdI_, rdJ1, fdk, fmk, tj hj, ne_eq, not_false_eq_true, Nat.add_left_cancel_iff, Nat.reduceEqDiff, reduceIte] using dv
  · simpa only [rdI_, rdJ1, fdk, fmk, tj hj, ne_eq, not_false_eq_true, Nat.add_left_cancel_iff, Nat.reduceEqDiff, reduceIte] using he
  · simpa only [rdI_, rdJ1, fdk, fmk, tj hj, ne_eq, not_false_eq_true, Nat.add_left_cancel_iff, Nat.reduceEqDiff, reduceIte] using w0
  · simpa only [rdI_, rdJ1, fdk, fmk, tj hj, ne_eq, not_false_eq_true, Nat.add_left_cancel_iff, Nat.reduceEqDiff, reduceIte] using w1
  · simpa only [rdI_, rdJ1, fdk, fmk, tj hj, ne_eq, not_false_eq_true, Nat.add_left_cancel_iff, Nat.reduceEqDiff, reduceIte] using w2
  · simpa only [rdI_, rdJ1, fdk, fmk, tj hj, ne_eq, not_false_eq_true, Nat.add_left_cancel_iff, Nat.reduceEqDiff, reduceIte] using w3
  · simpa only [rdI_, rdJ1, fdk, fmk, tj hj, ne_eq, not_false_eq_true, Nat.add_left_cancel_iff, Nat.reduceEqDiff, reduceIte] using i1
  · simpa only [rdI_, rdJ1, fdk, fmk, tj hj, ne_eq, not_false_eq_true, Nat.add_left_cancel_iff, Nat.reduceEqDiff, reduceIte] using i2
  · simpa only [rdI_, rdJ1, fdk, fmk, tj hj, ne_eq, not_false_eq_true, Nat.add_left_cancel_iff, Nat.reduceEqDiff, reduceIte] using i3
  · simpa only [rdI_, rdJ1, fdk, fmk, tj hj, ne_eq, not_false_eq_true, Nat.add_left_cancel_iff, Nat.reduceEqDiff, reduceIte] using i4
  · simpa only [rdI_, rdJ1, fdk, fmk, tj hj, ne_eq, not_false_eq_true, Nat.add_left_cancel_iff, Nat.reduceEqDiff, reduceIte] using i5
  · simpa only [rdI_, rdJ1, fdk, fmk, tj hj, ne_eq, not_false_eq_true, Nat.add_left_cancel_iff, Nat.reduceEqDiff, reduceIte] using hx
  · simpa only [rdI_, rdJ1, fdk, fmk, tj hj, ne_eq, not_false_eq_true, Nat.add_left_cancel_iff, Nat.reduceEqDiff, reduceIte] using hy
  · simp only [rdI_, rdJ1, fdk, fmk, tj hj, ne_eq, not_false_eq_true, Nat.add_left_cancel_iff, Nat.reduceEqDiff, reduceIte]
    exact mok60 hm i5 hy
  · simpa only [rdI_, rdJ1, fdk, fmk, tj hj, ne_eq, not_false_eq_true, Nat.add_left_cancel_iff, Nat.reduceEqDiff, reduceIte] using i9
  · simpa only [rdI_, rdJ1, fdk, fmk, tj hj, ne_eq, not_false_eq_true, Nat.add_left_cancel_iff, Nat.reduceEqDiff, reduceIte] using i10
  · simpa only [rdI_, rdJ1, fdk, fmk, tj hj, ne_eq, not_false_eq_true, Nat.add_left_cancel_iff, Nat.reduceEqDiff, reduceIte] using i11
  · simpa only [rdI_, rdJ1, fdk, fmk, tj hj, ne_eq, not_false_eq_true, Nat.add_left_cancel_iff, Nat.reduceEqDiff, reduceIte] using i12
theorem ri_DV (h : RI j σ τ) : DV j σ τ := by
  obtain ⟨x0, x1, x2, x3, x4, x5, x6, x7, t0, t1, t2, t3, t4, s0, s1, s2, dv, he, w0, w1, w2, w3, i1, i2, i3, i4, i5, i6, i7, i8, i9, i10, i11, i12⟩ := h
  exact fun i hi => ⟨(i11 i hi).1, (i11 i hi).2, (dv i hi).1, (dv i hi).2⟩
theorem ri_reflect (hj : j < 4) (h : RI j σ τ) (hm : σ.1 (10 * j + 3) 0 = 60) : RI j (sp_n_reflect j σ) (sp_m_reflect (Int32.ofNat j) τ) := by
  have hr : σ.1 (10 * j + 3) 2 = τ.1 51 j := h.2.2.2.2.2.2.2.2.2.2.1
  have hC0 : eC j σ (sp_i_beginWithZero j σ) := eC_beg eC_refl
  have hK0 : eM τ (mmI (mmI τ 42 28 1) 64 0 0) := eM_64 (eM_42 eM_refl)
  have hM0 : MR j 1 (sp_i_beginWithZero j σ) (mmI (mmI τ 42 28 1) 64 0 0) := mr_beg (by rw [rdK (by decide), rdS]) rdS
  obtain ⟨n1, σ1, τ1, a1, a2, a3, a4, a5⟩ := mcA_0 hj hM0 (by decide) (DV_e (ri_DV h) hC0 hK0)
  have hC1 := eC_trans hC0 a4
  have hK1 := eM_trans hK0 a5
  have v1 := mr_ans a3
  have h1 : RI j σ1 τ1 := RI_e h hC1 hK1
  -- the new rate
  have hX : ∀ σ2 : mmS, σ2.1 (10 * j + 3) 2 = σ.1 (10 * j + 3) 2 → sp_b_limit (σ2.1 (10 * j + 3) 2 + sp_i_answer j σ1) 4 σ2 = sp_m_limit (τ1.1 51 j + sp_m_middle τ1) 4 τ1 := fun σ2 q => by
    rw [q, hr, hK1 51 (by decide) (by decide), v1]
    exact lim_eq
  have hC1b : eC j σ (sp_i_beginWithZero j σ1) := eC_beg hC1
  have hM1 : MR j 1 (sp_i_beginWithZero j σ1) (mmI (mmI τ1 53 j (sp_m_limit (τ1.1 51 j + sp_m_middle τ1) 4 τ1)) 42 28 1) := mr_beg rdS (by rw [rdK (by decide), rdK (by decide)]; exact a3.2.2.2.2.2.2.2)
  have hD1 : DV j (sp_i_beginWithZero j σ1) (mmI (mmI τ1 53 j (sp_m_limit (τ1.1 51 j + sp_m_middle τ1) 4 τ1)) 42 28 1) := by
    intro i hi
    rw [hC1b 6 (by decide) (by decide), hC1b 7 (by decide) (by decide), rdK (by decide), rdK (by decide), rdK (by decide), rdK (by decide), hK1 57 (by decide) (by decide), hK1 57 (by decide) (by decide)]
    exact ri_DV h i hi
  obtain ⟨n2, σ2, τ2, b1, b2, b3, b4, b5⟩ := mcB_0 hj hM1 (by decide) hD1
  have hC2 := eC_trans hC1b b4
  have v2 := mr_ans b3
  have hK2 : eM (mmI τ 53 j (sp_m_limit (τ1.1 51 j + sp_m_middle τ1) 4 τ1)) τ2 := fun k p q m => by
    rw [b5 k p q, rdK p, rdI_, rdI_, hK1 k p q]
  have eN : sp_n_reflect j σ = sp_n_reflect_21 j (sp_t_correct j (sp_i_answer j σ1) (sp_i_answer j σ2) σ2) := by
    have c1 : sp_d_middleChange j σ = (sp_i_answer j σ1, σ1) := a1
    have c2 : sp_d_middleInOdd j σ1 = (sp_i_answer j σ2, σ2) := b1
    unfold sp_n_reflect sp_n_reflect_11
    rw [c1, c2]
    rfl
  have hbt : sp_d_heardInBoth_L0 j 0 (sp_i_beginWithZero j σ) = sp_d_heardInBoth j (sp_t_correct j (sp_i_answer j σ1) (sp_i_answer j σ2) σ2) := by
    unfold sp_d_heardInBoth sp_t_correct
    refine (hb_0 (fun m => ?_) (fun m => ?_)).symm
    · rw [rdK (rdn (by decide)), rdK (rdn (by decide)), hC2 6 (by decide) (by decide), hC0 6 (by decide) (by decide)]
    · rw [rdK (rdn (by decide)), rdK (rdn (by decide)), hC2 7 (by decide) (by decide), hC0 7 (by decide) (by decide)]
  have eMd : sp_m_reflect (Int32.ofNat j) τ = sp_m_decide (Int32.ofNat j) (sp_d_heardInBoth j (sp_t_correct j (sp_i_answer j σ1) (sp_i_answer j σ2) σ2)) (mmI τ2 52 j (sp_m_limit (sp_m_middle τ2) 6 τ2)) := by
    unfold sp_m_reflect
    rw [a2 0]
    unfold sp_m_reflA_L4
    rw [tj hj, b2, hbt]
    unfold sp_m_reflB_L4
    rw [tj hj]
  rw [eN, eMd]
  refine ri_decide hj ?_
  have base := ri_corr (x := sp_m_limit (τ1.1 51 j + sp_m_middle τ1) 4 τ1) (y := sp_m_limit (sp_m_middle τ2) 6 τ2) hj h hm (by rw [← lim_eq (σ := σ)]; exact lim4) (by rw [← lim_eq6 (σ := σ)]; exact lim6)
  have eT : sp_t_correct j (sp_i_answer j σ1) (sp_i_answer j σ2) σ2 = mmI (mmI σ2 (10 * j + 3) 3 (sp_m_limit (τ1.1 51 j + sp_m_middle τ1) 4 τ1)) (10 * j + 3) 4 (sp_m_limit (sp_m_middle τ2) 6 τ2) := by
    unfold sp_t_correct
    rw [hX σ2 (hC2 3 (by decide) (by decide) 2), v2, lim_eq6 (τ := τ2)]
  rw [eT]
  refine RI_e base (fun c p q m => ?_) (fun k p q m => ?_)
  · rw [rdI_, rdI_, rdI_, rdI_, hC2 c p q]
  · rw [rdI_, rdI_, hK2 k p q]
/-- the stage behind the minislots -/
theorem ri_45 (hj : j < 4) (h : RI j σ τ) : ∃ τC, sp_m_passes_255 (Int32.ofNat j) (τ.1 49 j) τ = sp_m_passes_278 (Int32.ofNat j) τC ∧ RI j (sp_n_passInTime_45 j σ) τC := by
  have e0 : σ.1 (10 * j + 3) 0 = τ.1 49 j := h.2.2.2.2.2.2.2.2.1
  have e1 : σ.1 (10 * j + 3) 1 = τ.1 50 j := h.2.2.2.2.2.2.2.2.2.1
  unfold sp_m_passes_255 sp_n_passInTime_45 sp_t_isOdd
  rw [tj hj, e0, e1]
  by_cases c1 : τ.1 49 j = 60
  · rw [if_pos c1, if_pos c1]
    by_cases c2 : τ.1 50 j - τ.1 50 j / 2 * 2 = 1
    · rw [if_pos c2, if_pos c2, if_neg (by decide)]
      exact ⟨_, rfl, ri_reflect hj h (e0.trans c1)⟩
    · rw [if_neg c2, if_neg c2, if_pos rfl]
      exact ⟨_, rfl, h⟩
  · rw [if_neg c1, if_neg c1]
    exact ⟨_, rfl, h⟩
end RF
