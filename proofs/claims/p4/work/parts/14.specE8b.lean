section FR
theorem fc_b_carry_L0 {σ0 σ : mmS} {d : Int32} {z : Int32} (h : fC σ0 σ) : fC σ0 (sp_b_carry_L0 d z σ) := by
  unfold sp_b_carry_L0
  repeat' (with_reducible first | exact h | refine fc_b_carry_L1 ?_ | refine fC_n (by decide) ?_ (fn_n_hear (fN_refl _)) | refine fC_I (by decide) ?_ | refine fC_J (by decide) ?_ | refine fC_ite ?_ ?_)
end FR
