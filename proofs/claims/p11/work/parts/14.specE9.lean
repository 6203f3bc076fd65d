section FR
theorem fc_b_passTick {σ0 σ : mmS}  (h : fC σ0 σ) : fC σ0 (sp_b_passTick σ) := by
  unfold sp_b_passTick
  repeat' (with_reducible first | exact h | refine fc_b_passTick_L0 ?_ | refine fC_I (by decide) ?_ | refine fC_J (by decide) ?_ | refine fC_ite ?_ ?_)
theorem fc_runB {σ0 : mmS} : ∀ (n : Nat) {σ : mmS}, fC σ0 σ → fC σ0 (runB n σ)
  | 0, _, h => h
  | n + 1, _, h => fc_runB n (fc_b_passTick h)
theorem jm_fC {σ0 σ : mmS} (h : fC σ0 σ) (hJ : Jm σ0) : Jm σ := by
  intro n hn
  rw [h.1 50 (by decide), h.1 60 (by decide), h.1 63 (by decide)]
  exact hJ n hn
end FR
