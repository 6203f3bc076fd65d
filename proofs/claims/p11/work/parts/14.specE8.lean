section FR
theorem fc_b_carry_L1 {σ0 σ : mmS} {d : Int32} {z : Int32} (h : fC σ0 σ) : fC σ0 (sp_b_carry_L1 d z σ) := by
  unfold sp_b_carry_L1
  repeat' (with_reducible first | exact h | refine fc_b_carry_L2 ?_ | refine fC_n (by decide) ?_ (fn_n_hear (fN_refl _)) | refine fC_I (by decide) ?_ | refine fC_J (by decide) ?_ | refine fC_ite ?_ ?_)
theorem fc_b_carry_L0 {σ0 σ : mmS} {d : Int32} {z : Int32} (h : fC σ0 σ) : fC σ0 (sp_b_carry_L0 d z σ) := by
  unfold sp_b_carry_L0
  repeat' (with_reducible first | exact h | refine fc_b_carry_L1 ?_ | refine fC_n (by decide) ?_ (fn_n_hear (fN_refl _)) | refine fC_I (by decide) ?_ | refine fC_J (by decide) ?_ | refine fC_ite ?_ ?_)
theorem fc_b_carry {σ0 σ : mmS} {a0 : Int32} {a1 : Int64} (h : fC σ0 σ) : fC σ0 (sp_b_carry a0 a1 σ) := by
  unfold sp_b_carry
  repeat' (with_reducible first | exact h | refine fc_b_carry_L0 ?_ | refine fC_I (by decide) ?_ | refine fC_J (by decide) ?_ | refine fC_ite ?_ ?_)
theorem fc_b_passTick_L4 {σ0 σ : mmS} {s : Int32} {d : Int32} {w : Int64} (h : fC σ0 σ) : fC σ0 (sp_b_passTick_L4 s d w σ) := by
  unfold sp_b_passTick_L4
  repeat' (with_reducible first | exact h | refine fc_b_carry ?_ | refine fC_I (by decide) ?_ | refine fC_J (by decide) ?_ | refine fC_ite ?_ ?_)
theorem fc_b_passTick_L3 {σ0 σ : mmS} {s : Int32} {d : Int32} {w : Int64} (h : fC σ0 σ) : fC σ0 (sp_b_passTick_L3 s d w σ) := by
  first
    | (have h1 : fC σ0 (sp_n_passTick 3 σ).2 := fC_n (j := 3) (by decide) h (fn_n_passTick (fN_refl σ))
       unfold sp_b_passTick_L3
       generalize (sp_n_passTick 3 σ).2 = σ2 at h1 ⊢
       exact fC_ite (fc_b_passTick_L4 h1) (fc_b_passTick_L4 h1))
    | (unfold sp_b_passTick_L3
       repeat' (with_reducible first | exact h | refine fc_b_passTick_L4 ?_ | refine fC_n (by decide) ?_ (fn_n_passTick (fN_refl _)) | refine fC_I (by decide) ?_ | refine fC_J (by decide) ?_ | refine fC_ite ?_ ?_))
theorem fc_b_passTick_L2 {σ0 σ : mmS} {s : Int32} {d : Int32} {w : Int64} (h : fC σ0 σ) : fC σ0 (sp_b_passTick_L2 s d w σ) := by
  first
    | (have h1 : fC σ0 (sp_n_passTick 2 σ).2 := fC_n (j := 2) (by decide) h (fn_n_passTick (fN_refl σ))
       unfold sp_b_passTick_L2
       generalize (sp_n_passTick 2 σ).2 = σ2 at h1 ⊢
       exact fC_ite (fc_b_passTick_L3 h1) (fc_b_passTick_L3 h1))
    | (unfold sp_b_passTick_L2
       repeat' (with_reducible first | exact h | refine fc_b_passTick_L3 ?_ | refine fC_n (by decide) ?_ (fn_n_passTick (fN_refl _)) | refine fC_I (by decide) ?_ | refine fC_J (by decide) ?_ | refine fC_ite ?_ ?_))
theorem fc_b_passTick_L1 {σ0 σ : mmS} {s : Int32} {d : Int32} {w : Int64} (h : fC σ0 σ) : fC σ0 (sp_b_passTick_L1 s d w σ) := by
  first
    | (have h1 : fC σ0 (sp_n_passTick 1 σ).2 := fC_n (j := 1) (by decide) h (fn_n_passTick (fN_refl σ))
       unfold sp_b_passTick_L1
       generalize (sp_n_passTick 1 σ).2 = σ2 at h1 ⊢
       exact fC_ite (fc_b_passTick_L2 h1) (fc_b_passTick_L2 h1))
    | (unfold sp_b_passTick_L1
       repeat' (with_reducible first | exact h | refine fc_b_passTick_L2 ?_ | refine fC_n (by decide) ?_ (fn_n_passTick (fN_refl _)) | refine fC_I (by decide) ?_ | refine fC_J (by decide) ?_ | refine fC_ite ?_ ?_))
theorem fc_b_passTick_L0 {σ0 σ : mmS} {s : Int32} {d : Int32} {w : Int64} (h : fC σ0 σ) : fC σ0 (sp_b_passTick_L0 s d w σ) := by
  first
    | (have h1 : fC σ0 (sp_n_passTick 0 σ).2 := fC_n (j := 0) (by decide) h (fn_n_passTick (fN_refl σ))
       unfold sp_b_passTick_L0
       generalize (sp_n_passTick 0 σ).2 = σ2 at h1 ⊢
       exact fC_ite (fc_b_passTick_L1 h1) (fc_b_passTick_L1 h1))
    | (unfold sp_b_passTick_L0
       repeat' (with_reducible first | exact h | refine fc_b_passTick_L1 ?_ | refine fC_n (by decide) ?_ (fn_n_passTick (fN_refl _)) | refine fC_I (by decide) ?_ | refine fC_J (by decide) ?_ | refine fC_ite ?_ ?_))
end FR
