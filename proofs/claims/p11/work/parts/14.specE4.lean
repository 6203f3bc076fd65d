section FR
theorem fn_d_middleChange_L1 {σ0 σ : mmS} {j : Nat} (h : fN j σ0 σ) : fN j σ0 (sp_d_middleChange_L1 j σ).2 := by
  unfold sp_d_middleChange_L1
  repeat' (with_reducible first | exact h | refine fn_d_middleChange_L2 ?_ | refine fn_i_add ?_ | refine fN_I (by decide) ?_ | refine fN_ite ?_ ?_ | refine fN_ite2 ?_ ?_)
theorem fn_d_middleChange_L0 {σ0 σ : mmS} {j : Nat} (h : fN j σ0 σ) : fN j σ0 (sp_d_middleChange_L0 j σ).2 := by
  unfold sp_d_middleChange_L0
  repeat' (with_reducible first | exact h | refine fn_d_middleChange_L1 ?_ | refine fn_i_add ?_ | refine fN_I (by decide) ?_ | refine fN_ite ?_ ?_ | refine fN_ite2 ?_ ?_)
theorem fn_d_middleChange {σ0 σ : mmS} {j : Nat} (h : fN j σ0 σ) : fN j σ0 (sp_d_middleChange j σ).2 := by
  unfold sp_d_middleChange
  repeat' (with_reducible first | exact h | refine fn_d_middleChange_L0 ?_ | refine fn_i_beginWithZero ?_ | refine fN_I (by decide) ?_ | refine fN_ite ?_ ?_ | refine fN_ite2 ?_ ?_)
theorem fn_d_middleInOdd_L4 {σ0 σ : mmS} {j : Nat} (h : fN j σ0 σ) : fN j σ0 (sp_d_middleInOdd_L4 j σ).2 := by
  unfold sp_d_middleInOdd_L4
  repeat' (with_reducible first | exact h | refine fN_I (by decide) ?_ | refine fN_ite ?_ ?_ | refine fN_ite2 ?_ ?_)
theorem fn_d_middleInOdd_L3 {σ0 σ : mmS} {j : Nat} (h : fN j σ0 σ) : fN j σ0 (sp_d_middleInOdd_L3 j σ).2 := by
  unfold sp_d_middleInOdd_L3
  repeat' (with_reducible first | exact h | refine fn_d_middleInOdd_L4 ?_ | refine fn_i_add ?_ | refine fN_I (by decide) ?_ | refine fN_ite ?_ ?_ | refine fN_ite2 ?_ ?_)
theorem fn_d_middleInOdd_L2 {σ0 σ : mmS} {j : Nat} (h : fN j σ0 σ) : fN j σ0 (sp_d_middleInOdd_L2 j σ).2 := by
  unfold sp_d_middleInOdd_L2
  repeat' (with_reducible first | exact h | refine fn_d_middleInOdd_L3 ?_ | refine fn_i_add ?_ | refine fN_I (by decide) ?_ | refine fN_ite ?_ ?_ | refine fN_ite2 ?_ ?_)
theorem fn_d_middleInOdd_L1 {σ0 σ : mmS} {j : Nat} (h : fN j σ0 σ) : fN j σ0 (sp_d_middleInOdd_L1 j σ).2 := by
  unfold sp_d_middleInOdd_L1
  repeat' (with_reducible first | exact h | refine fn_d_middleInOdd_L2 ?_ | refine fn_i_add ?_ | refine fN_I (by decide) ?_ | refine fN_ite ?_ ?_ | refine fN_ite2 ?_ ?_)
theorem fn_d_middleInOdd_L0 {σ0 σ : mmS} {j : Nat} (h : fN j σ0 σ) : fN j σ0 (sp_d_middleInOdd_L0 j σ).2 := by
  unfold sp_d_middleInOdd_L0
  repeat' (with_reducible first | exact h | refine fn_d_middleInOdd_L1 ?_ | refine fn_i_add ?_ | refine fN_I (by decide) ?_ | refine fN_ite ?_ ?_ | refine fN_ite2 ?_ ?_)
end FR
