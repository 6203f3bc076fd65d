section FR
theorem fn_n_passTick_74 {σ0 σ : mmS} {j : Nat} (h : fN j σ0 σ) : fN j σ0 (sp_n_passTick_74 j σ).2 := by
  unfold sp_n_passTick_74
  repeat' (with_reducible first | exact h | refine fn_n_wordToSend ?_ | refine fN_I (by decide) ?_ | refine fN_ite ?_ ?_ | refine fN_ite2 ?_ ?_)
theorem fn_n_passTick {σ0 σ : mmS} {j : Nat} (h : fN j σ0 σ) : fN j σ0 (sp_n_passTick j σ).2 := by
  unfold sp_n_passTick
  repeat' (with_reducible first | exact h | refine fn_n_passListening ?_ | refine fn_n_passTick_74 ?_ | refine fn_n_passInTime ?_ | refine fN_I (by decide) ?_ | refine fN_ite ?_ ?_ | refine fN_ite2 ?_ ?_)
theorem fn_n_hearListening {σ0 σ : mmS} {j : Nat} {a0 : Int32} {a1 : Int32} (h : fN j σ0 σ) : fN j σ0 (sp_n_hearListening j a0 a1 σ) := by
  unfold sp_n_hearListening
  repeat' (with_reducible first | exact h | refine fn_n_enterTime ?_ | refine fn_t_begin ?_ | refine fn_s_note ?_ | refine fN_I (by decide) ?_ | refine fN_ite ?_ ?_)
theorem fn_n_hearInTime {σ0 σ : mmS} {j : Nat} {a0 : Int64} (h : fN j σ0 σ) : fN j σ0 (sp_n_hearInTime j a0 σ) := by
  unfold sp_n_hearInTime
  repeat' (with_reducible first | exact h | refine fn_n_listen ?_ | refine fn_d_note ?_ | refine fN_I (by decide) ?_ | refine fN_ite ?_ ?_)
theorem fn_n_hear {σ0 σ : mmS} {j : Nat} {a0 : Int64} {a1 : Int32} (h : fN j σ0 σ) : fN j σ0 (sp_n_hear j a0 a1 σ) := by
  unfold sp_n_hear
  repeat' (with_reducible first | exact h | refine fn_n_hearListening ?_ | refine fn_n_hearInTime ?_ | refine fN_I (by decide) ?_ | refine fN_ite ?_ ?_)
theorem fc_b_carry_L4 {σ0 σ : mmS} {d : Int32} {z : Int32} (h : fC σ0 σ) : fC σ0 (sp_b_carry_L4 d z σ) := by
  unfold sp_b_carry_L4
  repeat' (with_reducible first | exact h | refine fC_I (by decide) ?_ | refine fC_J (by decide) ?_ | refine fC_ite ?_ ?_)
theorem fc_b_carry_L3 {σ0 σ : mmS} {d : Int32} {z : Int32} (h : fC σ0 σ) : fC σ0 (sp_b_carry_L3 d z σ) := by
  unfold sp_b_carry_L3
  repeat' (with_reducible first | exact h | refine fc_b_carry_L4 ?_ | refine fC_n (by decide) ?_ (fn_n_hear (fN_refl _)) | refine fC_I (by decide) ?_ | refine fC_J (by decide) ?_ | refine fC_ite ?_ ?_)
theorem fc_b_carry_L2 {σ0 σ : mmS} {d : Int32} {z : Int32} (h : fC σ0 σ) : fC σ0 (sp_b_carry_L2 d z σ) := by
  unfold sp_b_carry_L2
  repeat' (with_reducible first | exact h | refine fc_b_carry_L3 ?_ | refine fC_n (by decide) ?_ (fn_n_hear (fN_refl _)) | refine fC_I (by decide) ?_ | refine fC_J (by decide) ?_ | refine fC_ite ?_ ?_)
end FR
