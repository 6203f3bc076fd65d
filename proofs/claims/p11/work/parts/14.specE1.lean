section FR
/-- nothing but the node's own cells has changed -/
def fN (j : Nat) (σ0 σ : mmS) : Prop := (∀ k, (k < 10 * j + 2 ∨ 10 * j + 12 ≤ k) → σ.1 k = σ0.1 k) ∧ σ.2 = σ0.2
theorem fN_refl {j : Nat} (σ : mmS) : fN j σ σ := ⟨fun _ _ => rfl, rfl⟩
theorem fN_I {j c i : Nat} {v : Int32} {σ0 σ : mmS} (hc : 2 ≤ c ∧ c < 12) (h : fN j σ0 σ) : fN j σ0 (mmI σ (10 * j + c) i v) := by
  refine ⟨fun k hk => ?_, h.2⟩
  show (if k = 10 * j + c then upd (σ.1 (10 * j + c)) i v else σ.1 k) = σ0.1 k
  rw [if_neg (by omega)]
  exact h.1 k hk
theorem fN_fill {j c a n : Nat} {v : Int32} {σ0 σ : mmS} (hc : 2 ≤ c ∧ c < 12) (h : fN j σ0 σ) : fN j σ0 (fillF (10 * j + c) a n v σ) := by
  refine ⟨fun k hk => ?_, h.2⟩
  show (if k = 10 * j + c then (fun i => if a ≤ i ∧ i < n then v else σ.1 (10 * j + c) i) else σ.1 k) = σ0.1 k
  rw [if_neg (by omega)]
  exact h.1 k hk
theorem fN_ite {j : Nat} {c : Prop} [Decidable c] {σ0 x y : mmS} (h1 : fN j σ0 x) (h2 : fN j σ0 y) : fN j σ0 (if c then x else y) := by
  by_cases h : c
  · rw [if_pos h]; exact h1
  · rw [if_neg h]; exact h2
theorem fN_ite2 {α : Type} {j : Nat} {c : Prop} [Decidable c] {σ0 : mmS} {x y : α × mmS} (h1 : fN j σ0 x.2) (h2 : fN j σ0 y.2) : fN j σ0 (if c then x else y).2 := by
  by_cases h : c
  · rw [if_pos h]; exact h1
  · rw [if_neg h]; exact h2
theorem fN_addL {j : Nat} {v : Int32} {σ0 : mmS} : ∀ (n : Nat) {σ : mmS}, fN j σ0 σ → fN j σ0 (addL j v n σ)
  | 0, σ, h => by
    unfold addL
    exact fN_I (by decide) (fN_I (by decide) h)
  | n + 1, σ, h => by
    unfold addL
    refine fN_ite ?_ ?_
    · exact fN_I (by decide) (fN_I (by decide) h)
    · exact fN_addL n (fN_I (by decide) h)
/-- nothing but the class's cells has changed -/
def fC (σ0 σ : mmS) : Prop := (∀ k, 42 ≤ k → σ.1 k = σ0.1 k) ∧ ∀ k, 42 ≤ k → σ.2 k = σ0.2 k
theorem fC_refl (σ : mmS) : fC σ σ := ⟨fun _ _ => rfl, fun _ _ => rfl⟩
theorem fC_trans {σ0 σ1 σ : mmS} (h1 : fC σ0 σ1) (h : fC σ1 σ) : fC σ0 σ := ⟨fun k hk => (h.1 k hk).trans (h1.1 k hk), fun k hk => (h.2 k hk).trans (h1.2 k hk)⟩
theorem fC_n {j : Nat} {σ0 σ1 σ : mmS} (hj : j < 4) (h1 : fC σ0 σ1) (h : fN j σ1 σ) : fC σ0 σ := fC_trans h1 ⟨fun k hk => h.1 k (Or.inr (by omega)), fun k _ => by rw [h.2]⟩
theorem fC_I {c i : Nat} {v : Int32} {σ0 σ : mmS} (hc : c < 42) (h : fC σ0 σ) : fC σ0 (mmI σ c i v) := by
  refine ⟨fun k hk => ?_, h.2⟩
  show (if k = c then upd (σ.1 c) i v else σ.1 k) = σ0.1 k
  rw [if_neg (by omega)]
  exact h.1 k hk
theorem fC_J {c i : Nat} {v : Int64} {σ0 σ : mmS} (hc : c < 42) (h : fC σ0 σ) : fC σ0 (mmJ σ c i v) := by
  refine ⟨h.1, fun k hk => ?_⟩
  show (if k = c then vp_updL (σ.2 c) i v else σ.2 k) = σ0.2 k
  rw [if_neg (by omega)]
  exact h.2 k hk
theorem fC_ite {c : Prop} [Decidable c] {σ0 x y : mmS} (h1 : fC σ0 x) (h2 : fC σ0 y) : fC σ0 (if c then x else y) := by
  by_cases h : c
  · rw [if_pos h]; exact h1
  · rw [if_neg h]; exact h2
theorem fC_ite2 {α : Type} {c : Prop} [Decidable c] {σ0 : mmS} {x y : α × mmS} (h1 : fC σ0 x.2) (h2 : fC σ0 y.2) : fC σ0 (if c then x else y).2 := by
  by_cases h : c
  · rw [if_pos h]; exact h1
  · rw [if_neg h]; exact h2
end FR
