section FR
theorem fc_b_carry {σ0 σ : mmS} {a0 : Int32} {a1 : Int64} (h : fC σ0 σ) : fC σ0 (sp_b_carry a0 a1 σ) := by
  unfold sp_b_carry
  repeat' (with_reducible first | exact h | refine fc_b_carry_L0 ?_ | refine fC_I (by decide) ?_ | refine fC_J (by decide) ?_ | refine fC_ite ?_ ?_)
end FR
