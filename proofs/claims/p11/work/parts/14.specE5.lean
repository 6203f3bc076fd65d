section FR
theorem fn_d_middleInOdd {σ0 σ : mmS} {j : Nat} (h : fN j σ0 σ) : fN j σ0 (sp_d_middleInOdd j σ).2 := by
  unfold sp_d_middleInOdd
  repeat' (with_reducible first | exact h | refine fn_d_middleInOdd_L0 ?_ | refine fn_i_beginWithZero ?_ | refine fN_I (by decide) ?_ | refine fN_ite ?_ ?_ | refine fN_ite2 ?_ ?_)
theorem fn_n_enterTime {σ0 σ : mmS} {j : Nat} {a0 : Int32} {a1 : Int32} (h : fN j σ0 σ) : fN j σ0 (sp_n_enterTime j a0 a1 σ) := by
  unfold sp_n_enterTime
  repeat' (with_reducible first | exact h | refine fn_d_forget ?_ | refine fN_I (by decide) ?_ | refine fN_ite ?_ ?_)
theorem fn_n_passListening {σ0 σ : mmS} {j : Nat} (h : fN j σ0 σ) : fN j σ0 (sp_n_passListening j σ) := by
  unfold sp_n_passListening
  repeat' (with_reducible first | exact h | refine fn_s_passMicrotick ?_ | refine fn_n_enterTime ?_ | refine fn_t_begin ?_ | refine fN_I (by decide) ?_ | refine fN_ite ?_ ?_)
theorem fn_n_beginMinislot {σ0 σ : mmS} {j : Nat} (h : fN j σ0 σ) : fN j σ0 (sp_n_beginMinislot j σ) := by
  unfold sp_n_beginMinislot
  repeat' (with_reducible first | exact h | refine fN_I (by decide) ?_ | refine fN_ite ?_ ?_)
theorem fn_n_wordToSend {σ0 σ : mmS} {j : Nat} (h : fN j σ0 σ) : fN j σ0 (sp_n_wordToSend j σ).2 := by
  unfold sp_n_wordToSend
  repeat' (with_reducible first | exact h | refine fN_I (by decide) ?_ | refine fN_ite ?_ ?_ | refine fN_ite2 ?_ ?_)
theorem fn_n_reflectLeading {σ0 σ : mmS} {j : Nat} {a0 : Int32} (h : fN j σ0 σ) : fN j σ0 (sp_n_reflectLeading j a0 σ) := by
  unfold sp_n_reflectLeading
  repeat' (with_reducible first | exact h | refine fn_n_listen ?_ | refine fN_I (by decide) ?_ | refine fN_ite ?_ ?_)
theorem fn_n_reflectJoining {σ0 σ : mmS} {j : Nat} {a0 : Int32} (h : fN j σ0 σ) : fN j σ0 (sp_n_reflectJoining j a0 σ) := by
  unfold sp_n_reflectJoining
  repeat' (with_reducible first | exact h | refine fn_n_listen ?_ | refine fN_I (by decide) ?_ | refine fN_ite ?_ ?_)
theorem fn_n_reflectAlone {σ0 σ : mmS} {j : Nat} (h : fN j σ0 σ) : fN j σ0 (sp_n_reflectAlone j σ) := by
  unfold sp_n_reflectAlone
  repeat' (with_reducible first | exact h | refine fN_I (by decide) ?_ | refine fN_ite ?_ ?_)
end FR
