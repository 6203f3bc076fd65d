section FR
/-- nothing but the node's own cells has changed -/
def fN (j : Nat) (σ0 σ : mmS) : Prop := (∀ k, (k < 10 * j + 2 ∨ 10 * j + 12 ≤ k) → σ.1 k = σ0.1 k) ∧ σ.2 = σ0.2
theorem fN_refl {j : Nat} (σ : mmS) : fN j σ σ := ⟨fun _ _ => rfl, rfl⟩
theorem fN_I {j c i : Nat} {v : Int32} {σ0 σ : mmS} (hc : 2 ≤ c ∧ c < 12) (h : fN j σ0 σ) : fN j σ0 (mmI σ (10 * j + c) i v) := by
  refine ⟨fun k hk => ?_, h.2⟩
  show (if k = 10 * j + c then upd (σ.1 (10 * j + c)) i v else σ.1 k) = σ0.1 k
  rw [if_neg (by omega)]
  exact h.1 k hk
theorem fN_fill {j c a n : Nat} {v : Int32} {σ0 σ : mmS} (hc : 2 ≤ c ∧ c < 12) (h : fN j σ0 σ) : fN j σ0 (fillF (10 * j + c) a n v σ) := by
  refine ⟨fun k hk => ?_, h.2⟩
  show (if k = 10 * j + c then (fun i => if a ≤ i ∧ i < n then v else σ.1 (10 * j + c) i) else σ.1 k) = σ0.1 k
  rw [if_neg (by omega)]
  exact h.1 k hk
theorem fN_ite {j : Nat} {c : Prop} [Decidable c] {σ0 x y : mmS} (h1 : fN j σ0 x) (h2 : fN j σ0 y) : fN j σ0 (if c then x else y) := by
  by_cases h : c
  · rw [if_pos h]; exact h1
  · rw [if_neg h]; exact h2
theorem fN_ite2 {α : Type} {j : Nat} {c : Prop} [Decidable c] {σ0 : mmS} {x y : α × mmS} (h1 : fN j σ0 x.2) (h2 : fN j σ0 y.2) : fN j σ0 (if c then x else y).2 := by
  by_cases h : c
  · rw [if_pos h]; exact h1
  · rw [if_neg h]; exact h2
theorem fN_addL {j : Nat} {v : Int32} {σ0 : mmS} : ∀ (n : Nat) {σ : mmS}, fN j σ0 σ → fN j σ0 (addL j v n σ)
  | 0, σ, h => by
    unfold addL
    exact fN_I (by decide) (fN_I (by decide) h)
  | n + 1, σ, h => by
    unfold addL
    refine fN_ite ?_ ?_
    · exact fN_I (by decide) (fN_I (by decide) h)
    · exact fN_addL n (fN_I (by decide) h)
/-- nothing but the class's cells has changed -/
def fC (σ0 σ : mmS) : Prop := (∀ k, 42 ≤ k → σ.1 k = σ0.1 k) ∧ ∀ k, 42 ≤ k → σ.2 k = σ0.2 k
theorem fC_refl (σ : mmS) : fC σ σ := ⟨fun _ _ => rfl, fun _ _ => rfl⟩
theorem fC_trans {σ0 σ1 σ : mmS} (h1 : fC σ0 σ1) (h : fC σ1 σ) : fC σ0 σ := ⟨fun k hk => (h.1 k hk).trans (h1.1 k hk), fun k hk => (h.2 k hk).trans (h1.2 k hk)⟩
theorem fC_n {j : Nat} {σ0 σ1 σ : mmS} (hj : j < 4) (h1 : fC σ0 σ1) (h : fN j σ1 σ) : fC σ0 σ := fC_trans h1 ⟨fun k hk => h.1 k (Or.inr (by omega)), fun k _ => by rw [h.2]⟩
theorem fC_I {c i : Nat} {v : Int32} {σ0 σ : mmS} (hc : c < 42) (h : fC σ0 σ) : fC σ0 (mmI σ c i v) := by
  refine ⟨fun k hk => ?_, h.2⟩
  show (if k = c then upd (σ.1 c) i v else σ.1 k) = σ0.1 k
  rw [if_neg (by omega)]
  exact h.1 k hk
theorem fC_J {c i : Nat} {v : Int64} {σ0 σ : mmS} (hc : c < 42) (h : fC σ0 σ) : fC σ0 (mmJ σ c i v) := by
  refine ⟨h.1, fun k hk => ?_⟩
  show (if k = c then vp_updL (σ.2 c) i v else σ.2 k) = σ0.2 k
  rw [if_neg (by omega)]
  exact h.2 k hk
theorem fC_ite {c : Prop} [Decidable c] {σ0 x y : mmS} (h1 : fC σ0 x) (h2 : fC σ0 y) : fC σ0 (if c then x else y) := by
  by_cases h : c
  · rw [if_pos h]; exact h1
  · rw [if_neg h]; exact h2
theorem fC_ite2 {α : Type} {c : Prop} [Decidable c] {σ0 : mmS} {x y : α × mmS} (h1 : fC σ0 x.2) (h2 : fC σ0 y.2) : fC σ0 (if c then x else y).2 := by
  by_cases h : c
  · rw [if_pos h]; exact h1
  · rw [if_neg h]; exact h2
theorem fn_s_begin {σ0 σ : mmS} {j : Nat} (h : fN j σ0 σ) : fN j σ0 (sp_s_begin j σ) := by
  unfold sp_s_begin
  repeat' (with_reducible first | exact h | refine fN_I (by decide) ?_ | refine fN_ite ?_ ?_)
theorem fn_d_forget {σ0 σ : mmS} {j : Nat} (h : fN j σ0 σ) : fN j σ0 (sp_d_forget j σ) := by
  unfold sp_d_forget
  repeat' (with_reducible first | exact h | refine fN_fill (by decide) ?_ | refine fN_I (by decide) ?_ | refine fN_ite ?_ ?_)
theorem fn_n_listen {σ0 σ : mmS} {j : Nat} (h : fN j σ0 σ) : fN j σ0 (sp_n_listen j σ) := by
  unfold sp_n_listen
  repeat' (with_reducible first | exact h | refine fn_d_forget ?_ | refine fn_s_begin ?_ | refine fN_I (by decide) ?_ | refine fN_ite ?_ ?_)
theorem fn_n_switchOn {σ0 σ : mmS} {j : Nat} (h : fN j σ0 σ) : fN j σ0 (sp_n_switchOn j σ) := by
  unfold sp_n_switchOn
  repeat' (with_reducible first | exact h | refine fn_n_listen ?_ | refine fN_fill (by decide) ?_ | refine fN_I (by decide) ?_ | refine fN_ite ?_ ?_)
theorem fn_g_put {σ0 σ : mmS} {j : Nat} {a0 : Int32} {a1 : Int32} {a2 : Int32} {a3 : Int32} (h : fN j σ0 σ) : fN j σ0 (sp_g_put j a0 a1 a2 a3 σ) := by
  unfold sp_g_put
  repeat' (with_reducible first | exact h | refine fN_I (by decide) ?_ | refine fN_ite ?_ ?_)
theorem fn_t_begin {σ0 σ : mmS} {j : Nat} {a0 : Int32} {a1 : Int32} {a2 : Int32} (h : fN j σ0 σ) : fN j σ0 (sp_t_begin j a0 a1 a2 σ) := by
  unfold sp_t_begin
  repeat' (with_reducible first | exact h | refine fN_I (by decide) ?_ | refine fN_ite ?_ ?_)
theorem fn_t_passMicrotick {σ0 σ : mmS} {j : Nat} (h : fN j σ0 σ) : fN j σ0 (sp_t_passMicrotick j σ).2 := by
  unfold sp_t_passMicrotick
  repeat' (with_reducible first | exact h | refine fN_I (by decide) ?_ | refine fN_ite ?_ ?_ | refine fN_ite2 ?_ ?_)
theorem fn_t_correct {σ0 σ : mmS} {j : Nat} {a0 : Int32} {a1 : Int32} (h : fN j σ0 σ) : fN j σ0 (sp_t_correct j a0 a1 σ) := by
  unfold sp_t_correct
  repeat' (with_reducible first | exact h | refine fN_I (by decide) ?_ | refine fN_ite ?_ ?_)
theorem fn_s_passMicrotick {σ0 σ : mmS} {j : Nat} (h : fN j σ0 σ) : fN j σ0 (sp_s_passMicrotick j σ) := by
  unfold sp_s_passMicrotick
  repeat' (with_reducible first | exact h | refine fN_I (by decide) ?_ | refine fN_ite ?_ ?_)
theorem fn_s_note {σ0 σ : mmS} {j : Nat} {a0 : Int32} {a1 : Int32} (h : fN j σ0 σ) : fN j σ0 (sp_s_note j a0 a1 σ) := by
  unfold sp_s_note
  repeat' (with_reducible first | exact h | refine fN_I (by decide) ?_ | refine fN_ite ?_ ?_)
theorem fn_i_beginWithZero {σ0 σ : mmS} {j : Nat} (h : fN j σ0 σ) : fN j σ0 (sp_i_beginWithZero j σ) := by
  unfold sp_i_beginWithZero
  repeat' (with_reducible first | exact h | refine fN_I (by decide) ?_ | refine fN_ite ?_ ?_)
theorem fn_i_add {σ0 σ : mmS} {j : Nat} {a0 : Int32} (h : fN j σ0 σ) : fN j σ0 (sp_i_add j a0 σ) := by
  unfold sp_i_add
  repeat' (with_reducible first | exact h | refine fN_addL _ ?_ | refine fN_I (by decide) ?_ | refine fN_ite ?_ ?_)
theorem fn_d_note {σ0 σ : mmS} {j : Nat} {a0 : Int32} {a1 : Int32} {a2 : Int32} (h : fN j σ0 σ) : fN j σ0 (sp_d_note j a0 a1 a2 σ) := by
  unfold sp_d_note
  repeat' (with_reducible first | exact h | refine fN_I (by decide) ?_ | refine fN_ite ?_ ?_)
theorem fn_d_middleChange_L4 {σ0 σ : mmS} {j : Nat} (h : fN j σ0 σ) : fN j σ0 (sp_d_middleChange_L4 j σ).2 := by
  unfold sp_d_middleChange_L4
  repeat' (with_reducible first | exact h | refine fN_I (by decide) ?_ | refine fN_ite ?_ ?_ | refine fN_ite2 ?_ ?_)
theorem fn_d_middleChange_L3 {σ0 σ : mmS} {j : Nat} (h : fN j σ0 σ) : fN j σ0 (sp_d_middleChange_L3 j σ).2 := by
  unfold sp_d_middleChange_L3
  repeat' (with_reducible first | exact h | refine fn_d_middleChange_L4 ?_ | refine fn_i_add ?_ | refine fN_I (by decide) ?_ | refine fN_ite ?_ ?_ | refine fN_ite2 ?_ ?_)
theorem fn_d_middleChange_L2 {σ0 σ : mmS} {j : Nat} (h : fN j σ0 σ) : fN j σ0 (sp_d_middleChange_L2 j σ).2 := by
  unfold sp_d_middleChange_L2
  repeat' (with_reducible first | exact h | refine fn_d_middleChange_L3 ?_ | refine fn_i_add ?_ | refine fN_I (by decide) ?_ | refine fN_ite ?_ ?_ | refine fN_ite2 ?_ ?_)
theorem fn_d_middleChange_L1 {σ0 σ : mmS} {j : Nat} (h : fN j σ0 σ) : fN j σ0 (sp_d_middleChange_L1 j σ).2 := by
  unfold sp_d_middleChange_L1
  repeat' (with_reducible first | exact h | refine fn_d_middleChange_L2 ?_ | refine fn_i_add ?_ | refine fN_I (by decide) ?_ | refine fN_ite ?_ ?_ | refine fN_ite2 ?_ ?_)
theorem fn_d_middleChange_L0 {σ0 σ : mmS} {j : Nat} (h : fN j σ0 σ) : fN j σ0 (sp_d_middleChange_L0 j σ).2 := by
  unfold sp_d_middleChange_L0
  repeat' (with_reducible first | exact h | refine fn_d_middleChange_L1 ?_ | refine fn_i_add ?_ | refine fN_I (by decide) ?_ | refine fN_ite ?_ ?_ | refine fN_ite2 ?_ ?_)
theorem fn_d_middleChange {σ0 σ : mmS} {j : Nat} (h : fN j σ0 σ) : fN j σ0 (sp_d_middleChange j σ).2 := by
  unfold sp_d_middleChange
  repeat' (with_reducible first | exact h | refine fn_d_middleChange_L0 ?_ | refine fn_i_beginWithZero ?_ | refine fN_I (by decide) ?_ | refine fN_ite ?_ ?_ | refine fN_ite2 ?_ ?_)
theorem fn_d_middleInOdd_L4 {σ0 σ : mmS} {j : Nat} (h : fN j σ0 σ) : fN j σ0 (sp_d_middleInOdd_L4 j σ).2 := by
  unfold sp_d_middleInOdd_L4
  repeat' (with_reducible first | exact h | refine fN_I (by decide) ?_ | refine fN_ite ?_ ?_ | refine fN_ite2 ?_ ?_)
theorem fn_d_middleInOdd_L3 {σ0 σ : mmS} {j : Nat} (h : fN j σ0 σ) : fN j σ0 (sp_d_middleInOdd_L3 j σ).2 := by
  unfold sp_d_middleInOdd_L3
  repeat' (with_reducible first | exact h | refine fn_d_middleInOdd_L4 ?_ | refine fn_i_add ?_ | refine fN_I (by decide) ?_ | refine fN_ite ?_ ?_ | refine fN_ite2 ?_ ?_)
theorem fn_d_middleInOdd_L2 {σ0 σ : mmS} {j : Nat} (h : fN j σ0 σ) : fN j σ0 (sp_d_middleInOdd_L2 j σ).2 := by
  unfold sp_d_middleInOdd_L2
  repeat' (with_reducible first | exact h | refine fn_d_middleInOdd_L3 ?_ | refine fn_i_add ?_ | refine fN_I (by decide) ?_ | refine fN_ite ?_ ?_ | refine fN_ite2 ?_ ?_)
theorem fn_d_middleInOdd_L1 {σ0 σ : mmS} {j : Nat} (h : fN j σ0 σ) : fN j σ0 (sp_d_middleInOdd_L1 j σ).2 := by
  unfold sp_d_middleInOdd_L1
  repeat' (with_reducible first | exact h | refine fn_d_middleInOdd_L2 ?_ | refine fn_i_add ?_ | refine fN_I (by decide) ?_ | refine fN_ite ?_ ?_ | refine fN_ite2 ?_ ?_)
theorem fn_d_middleInOdd_L0 {σ0 σ : mmS} {j : Nat} (h : fN j σ0 σ) : fN j σ0 (sp_d_middleInOdd_L0 j σ).2 := by
  unfold sp_d_middleInOdd_L0
  repeat' (with_reducible first | exact h | refine fn_d_middleInOdd_L1 ?_ | refine fn_i_add ?_ | refine fN_I (by decide) ?_ | refine fN_ite ?_ ?_ | refine fN_ite2 ?_ ?_)
theorem fn_d_middleInOdd {σ0 σ : mmS} {j : Nat} (h : fN j σ0 σ) : fN j σ0 (sp_d_middleInOdd j σ).2 := by
  unfold sp_d_middleInOdd
  repeat' (with_reducible first | exact h | refine fn_d_middleInOdd_L0 ?_ | refine fn_i_beginWithZero ?_ | refine fN_I (by decide) ?_ | refine fN_ite ?_ ?_ | refine fN_ite2 ?_ ?_)
theorem fn_n_enterTime {σ0 σ : mmS} {j : Nat} {a0 : Int32} {a1 : Int32} (h : fN j σ0 σ) : fN j σ0 (sp_n_enterTime j a0 a1 σ) := by
  unfold sp_n_enterTime
  repeat' (with_reducible first | exact h | refine fn_d_forget ?_ | refine fN_I (by decide) ?_ | refine fN_ite ?_ ?_)
theorem fn_n_passListening {σ0 σ : mmS} {j : Nat} (h : fN j σ0 σ) : fN j σ0 (sp_n_passListening j σ) := by
  unfold sp_n_passListening
  repeat' (with_reducible first | exact h | refine fn_s_passMicrotick ?_ | refine fn_n_enterTime ?_ | refine fn_t_begin ?_ | refine fN_I (by decide) ?_ | refine fN_ite ?_ ?_)
theorem fn_n_beginMinislot {σ0 σ : mmS} {j : Nat} (h : fN j σ0 σ) : fN j σ0 (sp_n_beginMinislot j σ) := by
  unfold sp_n_beginMinislot
  repeat' (with_reducible first | exact h | refine fN_I (by decide) ?_ | refine fN_ite ?_ ?_)
theorem fn_n_wordToSend {σ0 σ : mmS} {j : Nat} (h : fN j σ0 σ) : fN j σ0 (sp_n_wordToSend j σ).2 := by
  unfold sp_n_wordToSend
  repeat' (with_reducible first | exact h | refine fN_I (by decide) ?_ | refine fN_ite ?_ ?_ | refine fN_ite2 ?_ ?_)
theorem fn_n_reflectLeading {σ0 σ : mmS} {j : Nat} {a0 : Int32} (h : fN j σ0 σ) : fN j σ0 (sp_n_reflectLeading j a0 σ) := by
  unfold sp_n_reflectLeading
  repeat' (with_reducible first | exact h | refine fn_n_listen ?_ | refine fN_I (by decide) ?_ | refine fN_ite ?_ ?_)
theorem fn_n_reflectJoining {σ0 σ : mmS} {j : Nat} {a0 : Int32} (h : fN j σ0 σ) : fN j σ0 (sp_n_reflectJoining j a0 σ) := by
  unfold sp_n_reflectJoining
  repeat' (with_reducible first | exact h | refine fn_n_listen ?_ | refine fN_I (by decide) ?_ | refine fN_ite ?_ ?_)
theorem fn_n_reflectAlone {σ0 σ : mmS} {j : Nat} (h : fN j σ0 σ) : fN j σ0 (sp_n_reflectAlone j σ) := by
  unfold sp_n_reflectAlone
  repeat' (with_reducible first | exact h | refine fN_I (by decide) ?_ | refine fN_ite ?_ ?_)
theorem fn_n_reflect_21 {σ0 σ : mmS} {j : Nat} (h : fN j σ0 σ) : fN j σ0 (sp_n_reflect_21 j σ) := by
  unfold sp_n_reflect_21
  repeat' (with_reducible first | exact h | refine fn_n_reflectLeading ?_ | refine fn_n_reflectJoining ?_ | refine fn_n_reflectAlone ?_ | refine fN_I (by decide) ?_ | refine fN_ite ?_ ?_)
theorem fn_n_reflect_18 {σ0 σ : mmS} {j : Nat} {s0 : Int32} {s1 : Int32} (h : fN j σ0 σ) : fN j σ0 (sp_n_reflect_18 j s0 s1 σ) := by
  unfold sp_n_reflect_18
  repeat' (with_reducible first | exact h | refine fn_n_reflect_21 ?_ | refine fn_t_correct ?_ | refine fN_I (by decide) ?_ | refine fN_ite ?_ ?_)
theorem fn_n_reflect_11 {σ0 σ : mmS} {j : Nat} {s0 : Int32} (h : fN j σ0 σ) : fN j σ0 (sp_n_reflect_11 j s0 σ) := by
  unfold sp_n_reflect_11
  repeat' (with_reducible first | exact h | refine fn_d_middleInOdd ?_ | refine fn_n_reflect_18 ?_ | refine fN_I (by decide) ?_ | refine fN_ite ?_ ?_)
theorem fn_n_reflect {σ0 σ : mmS} {j : Nat} (h : fN j σ0 σ) : fN j σ0 (sp_n_reflect j σ) := by
  unfold sp_n_reflect
  repeat' (with_reducible first | exact h | refine fn_d_middleChange ?_ | refine fn_n_reflect_11 ?_ | refine fN_I (by decide) ?_ | refine fN_ite ?_ ?_)
theorem fn_n_passInTime_45 {σ0 σ : mmS} {j : Nat} (h : fN j σ0 σ) : fN j σ0 (sp_n_passInTime_45 j σ) := by
  unfold sp_n_passInTime_45
  repeat' (with_reducible first | exact h | refine fn_n_reflect ?_ | refine fN_I (by decide) ?_ | refine fN_ite ?_ ?_)
theorem fn_n_passInTime_19 {σ0 σ : mmS} {j : Nat} (h : fN j σ0 σ) : fN j σ0 (sp_n_passInTime_19 j σ) := by
  unfold sp_n_passInTime_19
  repeat' (with_reducible first | exact h | refine fn_n_passInTime_45 ?_ | refine fn_n_beginMinislot ?_ | refine fN_I (by decide) ?_ | refine fN_ite ?_ ?_)
theorem fn_n_passInTime_7 {σ0 σ : mmS} {j : Nat} {s0 : Int32} (h : fN j σ0 σ) : fN j σ0 (sp_n_passInTime_7 j s0 σ) := by
  unfold sp_n_passInTime_7
  repeat' (with_reducible first | exact h | refine fn_n_passInTime_19 ?_ | refine fn_d_forget ?_ | refine fN_I (by decide) ?_ | refine fN_ite ?_ ?_)
theorem fn_n_passInTime {σ0 σ : mmS} {j : Nat} (h : fN j σ0 σ) : fN j σ0 (sp_n_passInTime j σ) := by
  unfold sp_n_passInTime
  repeat' (with_reducible first | exact h | refine fn_t_passMicrotick ?_ | refine fn_n_passInTime_7 ?_ | refine fN_I (by decide) ?_ | refine fN_ite ?_ ?_)
theorem fn_n_passTick_74 {σ0 σ : mmS} {j : Nat} (h : fN j σ0 σ) : fN j σ0 (sp_n_passTick_74 j σ).2 := by
  unfold sp_n_passTick_74
  repeat' (with_reducible first | exact h | refine fn_n_wordToSend ?_ | refine fN_I (by decide) ?_ | refine fN_ite ?_ ?_ | refine fN_ite2 ?_ ?_)
theorem fn_n_passTick {σ0 σ : mmS} {j : Nat} (h : fN j σ0 σ) : fN j σ0 (sp_n_passTick j σ).2 := by
  unfold sp_n_passTick
  repeat' (with_reducible first | exact h | refine fn_n_passListening ?_ | refine fn_n_passTick_74 ?_ | refine fn_n_passInTime ?_ | refine fN_I (by decide) ?_ | refine fN_ite ?_ ?_ | refine fN_ite2 ?_ ?_)
theorem fn_n_hearListening {σ0 σ : mmS} {j : Nat} {a0 : Int32} {a1 : Int32} (h : fN j σ0 σ) : fN j σ0 (sp_n_hearListening j a0 a1 σ) := by
  unfold sp_n_hearListening
  repeat' (with_reducible first | exact h | refine fn_n_enterTime ?_ | refine fn_t_begin ?_ | refine fn_s_note ?_ | refine fN_I (by decide) ?_ | refine fN_ite ?_ ?_)
theorem fn_n_hearInTime {σ0 σ : mmS} {j : Nat} {a0 : Int64} (h : fN j σ0 σ) : fN j σ0 (sp_n_hearInTime j a0 σ) := by
  unfold sp_n_hearInTime
  repeat' (with_reducible first | exact h | refine fn_n_listen ?_ | refine fn_d_note ?_ | refine fN_I (by decide) ?_ | refine fN_ite ?_ ?_)
theorem fn_n_hear {σ0 σ : mmS} {j : Nat} {a0 : Int64} {a1 : Int32} (h : fN j σ0 σ) : fN j σ0 (sp_n_hear j a0 a1 σ) := by
  unfold sp_n_hear
  repeat' (with_reducible first | exact h | refine fn_n_hearListening ?_ | refine fn_n_hearInTime ?_ | refine fN_I (by decide) ?_ | refine fN_ite ?_ ?_)
theorem fc_b_carry_L4 {σ0 σ : mmS} {d : Int32} {z : Int32} (h : fC σ0 σ) : fC σ0 (sp_b_carry_L4 d z σ) := by
  unfold sp_b_carry_L4
  repeat' (with_reducible first | exact h | refine fC_I (by decide) ?_ | refine fC_J (by decide) ?_ | refine fC_ite ?_ ?_)
theorem fc_b_carry_L3 {σ0 σ : mmS} {d : Int32} {z : Int32} (h : fC σ0 σ) : fC σ0 (sp_b_carry_L3 d z σ) := by
  unfold sp_b_carry_L3
  repeat' (with_reducible first | exact h | refine fc_b_carry_L4 ?_ | refine fC_n (by decide) ?_ (fn_n_hear (fN_refl _)) | refine fC_I (by decide) ?_ | refine fC_J (by decide) ?_ | refine fC_ite ?_ ?_)
theorem fc_b_carry_L2 {σ0 σ : mmS} {d : Int32} {z : Int32} (h : fC σ0 σ) : fC σ0 (sp_b_carry_L2 d z σ) := by
  unfold sp_b_carry_L2
  repeat' (with_reducible first | exact h | refine fc_b_carry_L3 ?_ | refine fC_n (by decide) ?_ (fn_n_hear (fN_refl _)) | refine fC_I (by decide) ?_ | refine fC_J (by decide) ?_ | refine fC_ite ?_ ?_)
theorem fc_b_carry_L1 {σ0 σ : mmS} {d : Int32} {z : Int32} (h : fC σ0 σ) : fC σ0 (sp_b_carry_L1 d z σ) := by
  unfold sp_b_carry_L1
  repeat' (with_reducible first | exact h | refine fc_b_carry_L2 ?_ | refine fC_n (by decide) ?_ (fn_n_hear (fN_refl _)) | refine fC_I (by decide) ?_ | refine fC_J (by decide) ?_ | refine fC_ite ?_ ?_)
theorem fc_b_carry_L0 {σ0 σ : mmS} {d : Int32} {z : Int32} (h : fC σ0 σ) : fC σ0 (sp_b_carry_L0 d z σ) := by
  unfold sp_b_carry_L0
  repeat' (with_reducible first | exact h | refine fc_b_carry_L1 ?_ | refine fC_n (by decide) ?_ (fn_n_hear (fN_refl _)) | refine fC_I (by decide) ?_ | refine fC_J (by decide) ?_ | refine fC_ite ?_ ?_)
theorem fc_b_carry {σ0 σ : mmS} {a0 : Int32} {a1 : Int64} (h : fC σ0 σ) : fC σ0 (sp_b_carry a0 a1 σ) := by
  unfold sp_b_carry
  repeat' (with_reducible first | exact h | refine fc_b_carry_L0 ?_ | refine fC_I (by decide) ?_ | refine fC_J (by decide) ?_ | refine fC_ite ?_ ?_)
theorem fc_b_passTick_L4 {σ0 σ : mmS} {s : Int32} {d : Int32} {w : Int64} (h : fC σ0 σ) : fC σ0 (sp_b_passTick_L4 s d w σ) := by
  unfold sp_b_passTick_L4
  repeat' (with_reducible first | exact h | refine fc_b_carry ?_ | refine fC_I (by decide) ?_ | refine fC_J (by decide) ?_ | refine fC_ite ?_ ?_)
theorem fc_b_passTick_L3 {σ0 σ : mmS} {s : Int32} {d : Int32} {w : Int64} (h : fC σ0 σ) : fC σ0 (sp_b_passTick_L3 s d w σ) := by
  unfold sp_b_passTick_L3
  repeat' (with_reducible first | exact h | refine fc_b_passTick_L4 ?_ | refine fC_n (by decide) ?_ (fn_n_passTick (fN_refl _)) | refine fC_I (by decide) ?_ | refine fC_J (by decide) ?_ | refine fC_ite ?_ ?_)
theorem fc_b_passTick_L2 {σ0 σ : mmS} {s : Int32} {d : Int32} {w : Int64} (h : fC σ0 σ) : fC σ0 (sp_b_passTick_L2 s d w σ) := by
  unfold sp_b_passTick_L2
  repeat' (with_reducible first | exact h | refine fc_b_passTick_L3 ?_ | refine fC_n (by decide) ?_ (fn_n_passTick (fN_refl _)) | refine fC_I (by decide) ?_ | refine fC_J (by decide) ?_ | refine fC_ite ?_ ?_)
theorem fc_b_passTick_L1 {σ0 σ : mmS} {s : Int32} {d : Int32} {w : Int64} (h : fC σ0 σ) : fC σ0 (sp_b_passTick_L1 s d w σ) := by
  unfold sp_b_passTick_L1
  repeat' (with_reducible first | exact h | refine fc_b_passTick_L2 ?_ | refine fC_n (by decide) ?_ (fn_n_passTick (fN_refl _)) | refine fC_I (by decide) ?_ | refine fC_J (by decide) ?_ | refine fC_ite ?_ ?_)
theorem fc_b_passTick_L0 {σ0 σ : mmS} {s : Int32} {d : Int32} {w : Int64} (h : fC σ0 σ) : fC σ0 (sp_b_passTick_L0 s d w σ) := by
  unfold sp_b_passTick_L0
  repeat' (with_reducible first | exact h | refine fc_b_passTick_L1 ?_ | refine fC_n (by decide) ?_ (fn_n_passTick (fN_refl _)) | refine fC_I (by decide) ?_ | refine fC_J (by decide) ?_ | refine fC_ite ?_ ?_)
theorem fc_b_passTick {σ0 σ : mmS}  (h : fC σ0 σ) : fC σ0 (sp_b_passTick σ) := by
  unfold sp_b_passTick
  repeat' (with_reducible first | exact h | refine fc_b_passTick_L0 ?_ | refine fC_I (by decide) ?_ | refine fC_J (by decide) ?_ | refine fC_ite ?_ ?_)
theorem fc_runB {σ0 : mmS} : ∀ (n : Nat) {σ : mmS}, fC σ0 σ → fC σ0 (runB n σ)
  | 0, _, h => h
  | n + 1, _, h => fc_runB n (fc_b_passTick h)
theorem jm_fC {σ0 σ : mmS} (h : fC σ0 σ) (hJ : Jm σ0) : Jm σ := by
  intro n hn
  rw [h.1 50 (by decide), h.1 60 (by decide), h.1 63 (by decide)]
  exact hJ n hn
end FR
