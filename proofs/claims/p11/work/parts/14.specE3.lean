section FR
theorem fn_s_passMicrotick {σ0 σ : mmS} {j : Nat} (h : fN j σ0 σ) : fN j σ0 (sp_s_passMicrotick j σ) := by
  unfold sp_s_passMicrotick
  repeat' (with_reducible first | exact h | refine fN_I (by decide) ?_ | refine fN_ite ?_ ?_)
theorem fn_s_note {σ0 σ : mmS} {j : Nat} {a0 : Int32} {a1 : Int32} (h : fN j σ0 σ) : fN j σ0 (sp_s_note j a0 a1 σ) := by
  unfold sp_s_note
  repeat' (with_reducible first | exact h | refine fN_I (by decide) ?_ | refine fN_ite ?_ ?_)
theorem fn_i_beginWithZero {σ0 σ : mmS} {j : Nat} (h : fN j σ0 σ) : fN j σ0 (sp_i_beginWithZero j σ) := by
  unfold sp_i_beginWithZero
  repeat' (with_reducible first | exact h | refine fN_I (by decide) ?_ | refine fN_ite ?_ ?_)
theorem fn_i_add {σ0 σ : mmS} {j : Nat} {a0 : Int32} (h : fN j σ0 σ) : fN j σ0 (sp_i_add j a0 σ) := by
  unfold sp_i_add
  repeat' (with_reducible first | exact h | refine fN_addL _ ?_ | refine fN_I (by decide) ?_ | refine fN_ite ?_ ?_)
theorem fn_d_note {σ0 σ : mmS} {j : Nat} {a0 : Int32} {a1 : Int32} {a2 : Int32} (h : fN j σ0 σ) : fN j σ0 (sp_d_note j a0 a1 a2 σ) := by
  unfold sp_d_note
  repeat' (with_reducible first | exact h | refine fN_I (by decide) ?_ | refine fN_ite ?_ ?_)
theorem fn_d_middleChange_L4 {σ0 σ : mmS} {j : Nat} (h : fN j σ0 σ) : fN j σ0 (sp_d_middleChange_L4 j σ).2 := by
  unfold sp_d_middleChange_L4
  repeat' (with_reducible first | exact h | refine fN_I (by decide) ?_ | refine fN_ite ?_ ?_ | refine fN_ite2 ?_ ?_)
theorem fn_d_middleChange_L3 {σ0 σ : mmS} {j : Nat} (h : fN j σ0 σ) : fN j σ0 (sp_d_middleChange_L3 j σ).2 := by
  unfold sp_d_middleChange_L3
  repeat' (with_reducible first | exact h | refine fn_d_middleChange_L4 ?_ | refine fn_i_add ?_ | refine fN_I (by decide) ?_ | refine fN_ite ?_ ?_ | refine fN_ite2 ?_ ?_)
theorem fn_d_middleChange_L2 {σ0 σ : mmS} {j : Nat} (h : fN j σ0 σ) : fN j σ0 (sp_d_middleChange_L2 j σ).2 := by
  unfold sp_d_middleChange_L2
  repeat' (with_reducible first | exact h | refine fn_d_middleChange_L3 ?_ | refine fn_i_add ?_ | refine fN_I (by decide) ?_ | refine fN_ite ?_ ?_ | refine fN_ite2 ?_ ?_)
end FR
