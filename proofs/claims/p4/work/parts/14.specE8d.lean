section FR
theorem fc_b_passTick_L4 {σ0 σ : mmS} {s : Int32} {d : Int32} {w : Int64} (h : fC σ0 σ) : fC σ0 (sp_b_passTick_L4 s d w σ) := by
  unfold sp_b_passTick_L4
  repeat' (with_reducible first | exact h | refine fc_b_carry ?_ | refine fC_I (by decide) ?_ | refine fC_J (by decide) ?_ | refine fC_ite ?_ ?_)
end FR
