section FR
theorem fc_b_passTick_L1 {σ0 σ : mmS} {s : Int32} {d : Int32} {w : Int64} (h : fC σ0 σ) : fC σ0 (sp_b_passTick_L1 s d w σ) := by
  unfold sp_b_passTick_L1
  repeat' (with_reducible first | exact h | refine fc_b_passTick_L2 ?_ | refine fC_n (by decide) ?_ (fn_n_passTick (fN_refl _)) | refine fC_I (by decide) ?_ | refine fC_J (by decide) ?_ | refine fC_ite ?_ ?_)
end FR
