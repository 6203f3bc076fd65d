section FR
theorem fn_n_reflect_21 {σ0 σ : mmS} {j : Nat} (h : fN j σ0 σ) : fN j σ0 (sp_n_reflect_21 j σ) := by
  unfold sp_n_reflect_21
  repeat' (with_reducible first | exact h | refine fn_n_reflectLeading ?_ | refine fn_n_reflectJoining ?_ | refine fn_n_reflectAlone ?_ | refine fN_I (by decide) ?_ | refine fN_ite ?_ ?_)
theorem fn_n_reflect_18 {σ0 σ : mmS} {j : Nat} {s0 : Int32} {s1 : Int32} (h : fN j σ0 σ) : fN j σ0 (sp_n_reflect_18 j s0 s1 σ) := by
  unfold sp_n_reflect_18
  repeat' (with_reducible first | exact h | refine fn_n_reflect_21 ?_ | refine fn_t_correct ?_ | refine fN_I (by decide) ?_ | refine fN_ite ?_ ?_)
theorem fn_n_reflect_11 {σ0 σ : mmS} {j : Nat} {s0 : Int32} (h : fN j σ0 σ) : fN j σ0 (sp_n_reflect_11 j s0 σ) := by
  unfold sp_n_reflect_11
  repeat' (with_reducible first | exact h | refine fn_d_middleInOdd ?_ | refine fn_n_reflect_18 ?_ | refine fN_I (by decide) ?_ | refine fN_ite ?_ ?_)
theorem fn_n_reflect {σ0 σ : mmS} {j : Nat} (h : fN j σ0 σ) : fN j σ0 (sp_n_reflect j σ) := by
  unfold sp_n_reflect
  repeat' (with_reducible first | exact h | refine fn_d_middleChange ?_ | refine fn_n_reflect_11 ?_ | refine fN_I (by decide) ?_ | refine fN_ite ?_ ?_)
theorem fn_n_passInTime_45 {σ0 σ : mmS} {j : Nat} (h : fN j σ0 σ) : fN j σ0 (sp_n_passInTime_45 j σ) := by
  unfold sp_n_passInTime_45
  repeat' (with_reducible first | exact h | refine fn_n_reflect ?_ | refine fN_I (by decide) ?_ | refine fN_ite ?_ ?_)
theorem fn_n_passInTime_19 {σ0 σ : mmS} {j : Nat} (h : fN j σ0 σ) : fN j σ0 (sp_n_passInTime_19 j σ) := by
  unfold sp_n_passInTime_19
  repeat' (with_reducible first | exact h | refine fn_n_passInTime_45 ?_ | refine fn_n_beginMinislot ?_ | refine fN_I (by decide) ?_ | refine fN_ite ?_ ?_)
theorem fn_n_passInTime_7 {σ0 σ : mmS} {j : Nat} {s0 : Int32} (h : fN j σ0 σ) : fN j σ0 (sp_n_passInTime_7 j s0 σ) := by
  unfold sp_n_passInTime_7
  repeat' (with_reducible first | exact h | refine fn_n_passInTime_19 ?_ | refine fn_d_forget ?_ | refine fN_I (by decide) ?_ | refine fN_ite ?_ ?_)
theorem fn_n_passInTime {σ0 σ : mmS} {j : Nat} (h : fN j σ0 σ) : fN j σ0 (sp_n_passInTime j σ) := by
  unfold sp_n_passInTime
  repeat' (with_reducible first | exact h | refine fn_t_passMicrotick ?_ | refine fn_n_passInTime_7 ?_ | refine fN_I (by decide) ?_ | refine fN_ite ?_ ?_)
end FR
