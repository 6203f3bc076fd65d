section FR
theorem fn_s_begin {σ0 σ : mmS} {j : Nat} (h : fN j σ0 σ) : fN j σ0 (sp_s_begin j σ) := by
  unfold sp_s_begin
  repeat' (with_reducible first | exact h | refine fN_I (by decide) ?_ | refine fN_ite ?_ ?_)
theorem fn_d_forget {σ0 σ : mmS} {j : Nat} (h : fN j σ0 σ) : fN j σ0 (sp_d_forget j σ) := by
  unfold sp_d_forget
  repeat' (with_reducible first | exact h | refine fN_fill (by decide) ?_ | refine fN_I (by decide) ?_ | refine fN_ite ?_ ?_)
theorem fn_n_listen {σ0 σ : mmS} {j : Nat} (h : fN j σ0 σ) : fN j σ0 (sp_n_listen j σ) := by
  unfold sp_n_listen
  repeat' (with_reducible first | exact h | refine fn_d_forget ?_ | refine fn_s_begin ?_ | refine fN_I (by decide) ?_ | refine fN_ite ?_ ?_)
theorem fn_n_switchOn {σ0 σ : mmS} {j : Nat} (h : fN j σ0 σ) : fN j σ0 (sp_n_switchOn j σ) := by
  unfold sp_n_switchOn
  repeat' (with_reducible first | exact h | refine fn_n_listen ?_ | refine fN_fill (by decide) ?_ | refine fN_I (by decide) ?_ | refine fN_ite ?_ ?_)
theorem fn_g_put {σ0 σ : mmS} {j : Nat} {a0 : Int32} {a1 : Int32} {a2 : Int32} {a3 : Int32} (h : fN j σ0 σ) : fN j σ0 (sp_g_put j a0 a1 a2 a3 σ) := by
  unfold sp_g_put
  repeat' (with_reducible first | exact h | refine fN_I (by decide) ?_ | refine fN_ite ?_ ?_)
theorem fn_t_begin {σ0 σ : mmS} {j : Nat} {a0 : Int32} {a1 : Int32} {a2 : Int32} (h : fN j σ0 σ) : fN j σ0 (sp_t_begin j a0 a1 a2 σ) := by
  unfold sp_t_begin
  repeat' (with_reducible first | exact h | refine fN_I (by decide) ?_ | refine fN_ite ?_ ?_)
theorem fn_t_passMicrotick {σ0 σ : mmS} {j : Nat} (h : fN j σ0 σ) : fN j σ0 (sp_t_passMicrotick j σ).2 := by
  unfold sp_t_passMicrotick
  repeat' (with_reducible first | exact h | refine fN_I (by decide) ?_ | refine fN_ite ?_ ?_ | refine fN_ite2 ?_ ?_)
theorem fn_t_correct {σ0 σ : mmS} {j : Nat} {a0 : Int32} {a1 : Int32} (h : fN j σ0 σ) : fN j σ0 (sp_t_correct j a0 a1 σ) := by
  unfold sp_t_correct
  repeat' (with_reducible first | exact h | refine fN_I (by decide) ?_ | refine fN_ite ?_ ?_)
end FR
