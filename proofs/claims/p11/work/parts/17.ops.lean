section OC
variable {N L : Nat} {xs : Nat → Int32}
theorem ite_P {α : Type} (P : α → Prop) {c : Prop} [Decidable c] {x y : α} (h1 : c → P x) (h2 : ¬ c → P y) : P (if c then x else y) := by
  by_cases h : c
  · rw [if_pos h]; exact h1 h
  · rw [if_neg h]; exact h2 h
def fI (σ0 σ : mmS) : Prop := ∀ k, 42 ≤ k → σ.1 k = σ0.1 k
theorem fI_refl (σ : mmS) : fI σ σ := fun _ _ => rfl
theorem fI_I {c i : Nat} {v : Int32} {σ : mmS} (hc : c < 42) : fI σ (mmI σ c i v) := (fC_I hc (fC_refl σ)).1
theorem fI_n {j : Nat} {σ σ' : mmS} (hj : j < 4) (h : fN j σ σ') : fI σ σ' := (fC_n hj (fC_refl σ) h).1
theorem jm_fI {σ0 σ : mmS} (h : fI σ0 σ) (hJ : Jm σ0) : Jm σ := by
  intro n hn
  rw [h 50 (by decide), h 60 (by decide), h 63 (by decide)]
  exact hJ n hn
theorem nd_lt {a : Int32} {σ : mmS} (h : ¬ cx_b_requireNode a σ) : 10 * a.toNatClampNeg + 2 < 42 := by
  have := n4_lt (vn_of h)
  omega
theorem oc_power (a0 : Int32) (σ : mmS) : (fun r : mmR => (∃ σ1, r = (.inl none, σ1) ∧ fI σ σ1) ∨ r = (.inr "java/lang/IllegalArgumentException", σ) ∨ r = (.inr "java/lang/IllegalStateException", σ)) (sp_b_power a0 σ) := by
  unfold sp_b_power
  repeat' (with_reducible first | refine ite_P (fun r : mmR => (∃ σ1, r = (.inl none, σ1) ∧ fI σ σ1) ∨ r = (.inr "java/lang/IllegalArgumentException", σ) ∨ r = (.inr "java/lang/IllegalStateException", σ)) (fun _ => ?_) (fun _ => ?_))
  all_goals first | exact Or.inl ⟨_, rfl, fI_n (n4_lt (vn_of (by assumption))) (fn_n_switchOn (fN_refl _))⟩ | exact Or.inr (Or.inl rfl) | exact Or.inr (Or.inr rfl)
theorem oe_power (hN : 66 ≤ N) (a0 : Int32) (σ : mmS) : ∃ k σ1, Ev N L xs (3, 0, lv_args 0 [.ref 0, .int a0], [], 0, σ) (mmSI (k, σ1)) ∧ fI σ σ1 := by
  rcases oc_power a0 σ with ⟨σ1, h, hf⟩ | h | h
  · exact ⟨_, _, lw_power_ok hN a0 σ σ1 h, hf⟩
  · exact ⟨_, _, lw_power_1 hN a0 σ σ h, fI_refl σ⟩
  · exact ⟨_, _, lw_power_2 hN a0 σ σ h, fI_refl σ⟩
theorem oc_off (a0 : Int32) (σ : mmS) : (fun r : mmR => (∃ v σ1, r = (.inl (some (.int v)), σ1) ∧ fI σ σ1) ∨ r = (.inr "java/lang/IllegalArgumentException", σ)) (sp_b_off a0 σ) := by
  unfold sp_b_off
  repeat' (with_reducible first | refine ite_P (fun r : mmR => (∃ v σ1, r = (.inl (some (.int v)), σ1) ∧ fI σ σ1) ∨ r = (.inr "java/lang/IllegalArgumentException", σ)) (fun _ => ?_) (fun _ => ?_))
  all_goals first | exact Or.inl ⟨_, _, rfl, fI_I (nd_lt (by assumption))⟩ | exact Or.inr rfl
theorem oe_off (hN : 66 ≤ N) (a0 : Int32) (σ : mmS) : ∃ k σ1, Ev N L xs (12, 0, lv_args 0 [.ref 0, .int a0, .ref 65], [], 0, σ) (mmSI (k, σ1)) ∧ fI σ σ1 := by
  rcases oc_off a0 σ with ⟨v, σ1, h, hf⟩ | h
  · exact ⟨_, _, lw_off_ok hN a0 σ σ1 v h, hf⟩
  · exact ⟨_, _, lw_off_1 hN a0 σ σ h, fI_refl σ⟩
theorem oc_run (a0 : Int32) (σ : mmS) : (fun r : mmR => (∃ v σ1, r = (.inl (some (.int v)), σ1) ∧ fI σ σ1) ∨ r = (.inr "java/lang/IllegalArgumentException", σ)) (sp_b_run a0 σ) := by
  unfold sp_b_run
  repeat' (with_reducible first | refine ite_P (fun r : mmR => (∃ v σ1, r = (.inl (some (.int v)), σ1) ∧ fI σ σ1) ∨ r = (.inr "java/lang/IllegalArgumentException", σ)) (fun _ => ?_) (fun _ => ?_))
  all_goals first | exact Or.inl ⟨_, _, rfl, (fc_runB _ (fC_refl _)).1⟩ | exact Or.inr rfl
theorem oe_run (hN : 66 ≤ N) (a0 : Int32) (σ : mmS) : ∃ k σ1, Ev N L xs (14, 0, lv_args 0 [.ref 0, .int a0, .ref 65], [], 0, σ) (mmSI (k, σ1)) ∧ fI σ σ1 := by
  rcases oc_run a0 σ with ⟨v, σ1, h, hf⟩ | h
  · exact ⟨_, _, lw_run_ok hN a0 σ σ1 v h, hf⟩
  · exact ⟨_, _, lw_run_1 hN a0 σ σ h, fI_refl σ⟩
theorem oc_value (a0 : Int32) (a1 : Int32) (σ : mmS) : (fun r : mmR => (∃ σ1, r = (.inl none, σ1) ∧ fI σ σ1) ∨ r = (.inr "java/lang/IllegalArgumentException", σ) ∨ r = (.inr "java/lang/IllegalStateException", σ)) (sp_b_value a0 a1 σ) := by
  unfold sp_b_value
  repeat' (with_reducible first | refine ite_P (fun r : mmR => (∃ σ1, r = (.inl none, σ1) ∧ fI σ σ1) ∨ r = (.inr "java/lang/IllegalArgumentException", σ) ∨ r = (.inr "java/lang/IllegalStateException", σ)) (fun _ => ?_) (fun _ => ?_))
  all_goals first | exact Or.inl ⟨_, rfl, fI_I (nd_lt (by assumption))⟩ | exact Or.inr (Or.inl rfl) | exact Or.inr (Or.inr rfl)
theorem oe_value (hN : 66 ≤ N) (a0 : Int32) (a1 : Int32) (σ : mmS) : ∃ k σ1, Ev N L xs (66, 0, lv_args 0 [.ref 0, .int a0, .int a1], [], 0, σ) (mmSI (k, σ1)) ∧ fI σ σ1 := by
  rcases oc_value a0 a1 σ with ⟨σ1, h, hf⟩ | h | h
  · exact ⟨_, _, lw_value_ok hN a0 a1 σ σ1 h, hf⟩
  · exact ⟨_, _, lw_value_1 hN a0 a1 σ σ h, fI_refl σ⟩
  · exact ⟨_, _, lw_value_2 hN a0 a1 σ σ h, fI_refl σ⟩
theorem oc_post (a0 : Int32) (a1 : Int32) (a2 : Int32) (a3 : Int32) (a4 : Int32) (σ : mmS) : (fun r : mmR => (∃ σ1, r = (.inl none, σ1) ∧ fI σ σ1) ∨ r = (.inr "java/lang/IllegalArgumentException", σ) ∨ r = (.inr "java/lang/IllegalStateException", σ)) (sp_b_post a0 a1 a2 a3 a4 σ) := by
  unfold sp_b_post
  repeat' (with_reducible first | refine ite_P (fun r : mmR => (∃ σ1, r = (.inl none, σ1) ∧ fI σ σ1) ∨ r = (.inr "java/lang/IllegalArgumentException", σ) ∨ r = (.inr "java/lang/IllegalStateException", σ)) (fun _ => ?_) (fun _ => ?_))
  all_goals first | exact Or.inl ⟨_, rfl, fI_n (n4_lt (vn_of (by assumption))) (fn_g_put (fN_refl _))⟩ | exact Or.inr (Or.inl rfl) | exact Or.inr (Or.inr rfl)
theorem oe_post (hN : 66 ≤ N) (a0 : Int32) (a1 : Int32) (a2 : Int32) (a3 : Int32) (a4 : Int32) (σ : mmS) : ∃ k σ1, Ev N L xs (69, 0, lv_args 0 [.ref 0, .int a0, .int a1, .int a2, .int a3, .int a4], [], 0, σ) (mmSI (k, σ1)) ∧ fI σ σ1 := by
  rcases oc_post a0 a1 a2 a3 a4 σ with ⟨σ1, h, hf⟩ | h | h
  · exact ⟨_, _, lw_post_ok hN a0 a1 a2 a3 a4 σ σ1 h, hf⟩
  · exact ⟨_, _, lw_post_1 hN a0 a1 a2 a3 a4 σ σ h, fI_refl σ⟩
  · exact ⟨_, _, lw_post_2 hN a0 a1 a2 a3 a4 σ σ h, fI_refl σ⟩
theorem oc_disturb (a0 : Int64) (σ : mmS) : (fun r : mmR => (∃ σ1, r = (.inl none, σ1) ∧ fI σ σ1) ∨ r = (.inr "java/lang/IllegalArgumentException", σ)) (sp_b_disturb a0 σ) := by
  unfold sp_b_disturb
  repeat' (with_reducible first | refine ite_P (fun r : mmR => (∃ σ1, r = (.inl none, σ1) ∧ fI σ σ1) ∨ r = (.inr "java/lang/IllegalArgumentException", σ)) (fun _ => ?_) (fun _ => ?_))
  all_goals first | exact Or.inl ⟨_, rfl, fI_refl _⟩ | exact Or.inr rfl
theorem oe_disturb (hN : 66 ≤ N) (a0 : Int64) (σ : mmS) : ∃ k σ1, Ev N L xs (72, 0, lv_args 0 [.ref 0, .long a0], [], 0, σ) (mmSI (k, σ1)) ∧ fI σ σ1 := by
  rcases oc_disturb a0 σ with ⟨σ1, h, hf⟩ | h
  · exact ⟨_, _, lw_disturb_ok hN a0 σ σ1 h, hf⟩
  · exact ⟨_, _, lw_disturb_1 hN a0 σ σ h, fI_refl σ⟩
theorem oc_lose (a0 : Int32) (σ : mmS) : (fun r : mmR => (∃ v σ1, r = (.inl (some (.int v)), σ1) ∧ fI σ σ1) ∨ r = (.inr "java/lang/IllegalArgumentException", σ)) (sp_b_lose a0 σ) := by
  unfold sp_b_lose
  repeat' (with_reducible first | refine ite_P (fun r : mmR => (∃ v σ1, r = (.inl (some (.int v)), σ1) ∧ fI σ σ1) ∨ r = (.inr "java/lang/IllegalArgumentException", σ)) (fun _ => ?_) (fun _ => ?_))
  all_goals first | exact Or.inl ⟨_, _, rfl, fI_I (by decide)⟩ | exact Or.inr rfl
theorem oe_lose (hN : 66 ≤ N) (a0 : Int32) (σ : mmS) : ∃ k σ1, Ev N L xs (75, 0, lv_args 0 [.ref 0, .int a0, .ref 65], [], 0, σ) (mmSI (k, σ1)) ∧ fI σ σ1 := by
  rcases oc_lose a0 σ with ⟨v, σ1, h, hf⟩ | h
  · exact ⟨_, _, lw_lose_ok hN a0 σ σ1 v h, hf⟩
  · exact ⟨_, _, lw_lose_1 hN a0 σ σ h, fI_refl σ⟩
theorem oc_state (a0 : Int32) (σ : mmS) : (fun r : mmR => (∃ v σ1, r = (.inl (some (.int v)), σ1) ∧ fI σ σ1) ∨ r = (.inr "java/lang/IllegalArgumentException", σ)) (sp_b_state a0 σ) := by
  unfold sp_b_state
  repeat' (with_reducible first | refine ite_P (fun r : mmR => (∃ v σ1, r = (.inl (some (.int v)), σ1) ∧ fI σ σ1) ∨ r = (.inr "java/lang/IllegalArgumentException", σ)) (fun _ => ?_) (fun _ => ?_))
  all_goals first | exact Or.inl ⟨_, _, rfl, fI_refl _⟩ | exact Or.inr rfl
theorem oe_state (hN : 66 ≤ N) (a0 : Int32) (σ : mmS) : ∃ k σ1, Ev N L xs (77, 0, lv_args 0 [.ref 0, .int a0, .ref 65], [], 0, σ) (mmSI (k, σ1)) ∧ fI σ σ1 := by
  rcases oc_state a0 σ with ⟨v, σ1, h, hf⟩ | h
  · exact ⟨_, _, lw_state_ok hN a0 σ σ1 v h, hf⟩
  · exact ⟨_, _, lw_state_1 hN a0 σ σ h, fI_refl σ⟩
theorem oc_clock (a0 : Int32) (a1 : Int32) (σ : mmS) : (fun r : mmR => (∃ v σ1, r = (.inl (some (.int v)), σ1) ∧ fI σ σ1) ∨ r = (.inr "java/lang/IllegalArgumentException", σ) ∨ r = (.inr "java/lang/IllegalStateException", σ)) (sp_b_clock a0 a1 σ) := by
  unfold sp_b_clock
  repeat' (with_reducible first | refine ite_P (fun r : mmR => (∃ v σ1, r = (.inl (some (.int v)), σ1) ∧ fI σ σ1) ∨ r = (.inr "java/lang/IllegalArgumentException", σ) ∨ r = (.inr "java/lang/IllegalStateException", σ)) (fun _ => ?_) (fun _ => ?_))
  all_goals first | exact Or.inl ⟨_, _, rfl, fI_refl _⟩ | exact Or.inr (Or.inl rfl) | exact Or.inr (Or.inr rfl)
theorem oe_clock (hN : 66 ≤ N) (a0 : Int32) (a1 : Int32) (σ : mmS) : ∃ k σ1, Ev N L xs (79, 0, lv_args 0 [.ref 0, .int a0, .int a1, .ref 65], [], 0, σ) (mmSI (k, σ1)) ∧ fI σ σ1 := by
  rcases oc_clock a0 a1 σ with ⟨v, σ1, h, hf⟩ | h | h
  · exact ⟨_, _, lw_clock_ok hN a0 a1 σ σ1 v h, hf⟩
  · exact ⟨_, _, lw_clock_1 hN a0 a1 σ σ h, fI_refl σ⟩
  · exact ⟨_, _, lw_clock_2 hN a0 a1 σ σ h, fI_refl σ⟩
theorem oc_deviation (a0 : Int32) (a1 : Int32) (a2 : Int32) (σ : mmS) : (fun r : mmR => (∃ v σ1, r = (.inl (some (.int v)), σ1) ∧ fI σ σ1) ∨ r = (.inr "java/lang/IllegalArgumentException", σ) ∨ r = (.inr "java/util/NoSuchElementException", σ)) (sp_b_deviation a0 a1 a2 σ) := by
  unfold sp_b_deviation
  repeat' (with_reducible first | refine ite_P (fun r : mmR => (∃ v σ1, r = (.inl (some (.int v)), σ1) ∧ fI σ σ1) ∨ r = (.inr "java/lang/IllegalArgumentException", σ) ∨ r = (.inr "java/util/NoSuchElementException", σ)) (fun _ => ?_) (fun _ => ?_))
  all_goals first | exact Or.inl ⟨_, _, rfl, fI_refl _⟩ | exact Or.inr (Or.inl rfl) | exact Or.inr (Or.inr rfl)
theorem oe_deviation (hN : 66 ≤ N) (a0 : Int32) (a1 : Int32) (a2 : Int32) (σ : mmS) : ∃ k σ1, Ev N L xs (82, 0, lv_args 0 [.ref 0, .int a0, .int a1, .int a2, .ref 65], [], 0, σ) (mmSI (k, σ1)) ∧ fI σ σ1 := by
  rcases oc_deviation a0 a1 a2 σ with ⟨v, σ1, h, hf⟩ | h | h
  · exact ⟨_, _, lw_deviation_ok hN a0 a1 a2 σ σ1 v h, hf⟩
  · exact ⟨_, _, lw_deviation_1 hN a0 a1 a2 σ σ h, fI_refl σ⟩
  · exact ⟨_, _, lw_deviation_2 hN a0 a1 a2 σ σ h, fI_refl σ⟩
theorem oc_got (a0 : Int32) (a1 : Int32) (σ : mmS) : (fun r : mmR => (∃ v σ1, r = (.inl (some (.int v)), σ1) ∧ fI σ σ1) ∨ r = (.inr "java/lang/IllegalArgumentException", σ) ∨ r = (.inr "java/util/NoSuchElementException", σ)) (sp_b_got a0 a1 σ) := by
  unfold sp_b_got
  repeat' (with_reducible first | refine ite_P (fun r : mmR => (∃ v σ1, r = (.inl (some (.int v)), σ1) ∧ fI σ σ1) ∨ r = (.inr "java/lang/IllegalArgumentException", σ) ∨ r = (.inr "java/util/NoSuchElementException", σ)) (fun _ => ?_) (fun _ => ?_))
  all_goals first | exact Or.inl ⟨_, _, rfl, fI_refl _⟩ | exact Or.inr (Or.inl rfl) | exact Or.inr (Or.inr rfl)
theorem oe_got (hN : 66 ≤ N) (a0 : Int32) (a1 : Int32) (σ : mmS) : ∃ k σ1, Ev N L xs (86, 0, lv_args 0 [.ref 0, .int a0, .int a1, .ref 65], [], 0, σ) (mmSI (k, σ1)) ∧ fI σ σ1 := by
  rcases oc_got a0 a1 σ with ⟨v, σ1, h, hf⟩ | h | h
  · exact ⟨_, _, lw_got_ok hN a0 a1 σ σ1 v h, hf⟩
  · exact ⟨_, _, lw_got_1 hN a0 a1 σ σ h, fI_refl σ⟩
  · exact ⟨_, _, lw_got_2 hN a0 a1 σ σ h, fI_refl σ⟩
theorem oc_last  (σ : mmS) : (fun r : mmR => (∃ v σ1, r = (.inl (some (.long v)), σ1) ∧ fI σ σ1) ∨ r = (.inr "java/util/NoSuchElementException", σ)) (sp_b_last  σ) := by
  unfold sp_b_last
  repeat' (with_reducible first | refine ite_P (fun r : mmR => (∃ v σ1, r = (.inl (some (.long v)), σ1) ∧ fI σ σ1) ∨ r = (.inr "java/util/NoSuchElementException", σ)) (fun _ => ?_) (fun _ => ?_))
  all_goals first | exact Or.inl ⟨_, _, rfl, fI_refl _⟩ | exact Or.inr rfl
theorem oe_last (hN : 66 ≤ N)  (σ : mmS) : ∃ k σ1, Ev N L xs (88, 0, lv_args 0 [.ref 0, .ref 65], [], 0, σ) (mmSI (k, σ1)) ∧ fI σ σ1 := by
  rcases oc_last  σ with ⟨v, σ1, h, hf⟩ | h
  · exact ⟨_, _, lw_last_ok hN  σ σ1 v h, hf⟩
  · exact ⟨_, _, lw_last_1 hN  σ σ h, fI_refl σ⟩
theorem oc_encode (a0 : Int32) (a1 : Int32) (a2 : Int32) (a3 : Int32) (σ : mmS) : (fun r : mmR => (∃ v σ1, r = (.inl (some (.long v)), σ1) ∧ fI σ σ1) ∨ r = (.inr "java/lang/IllegalArgumentException", σ)) (sp_b_encode a0 a1 a2 a3 σ) := by
  unfold sp_b_encode
  repeat' (with_reducible first | refine ite_P (fun r : mmR => (∃ v σ1, r = (.inl (some (.long v)), σ1) ∧ fI σ σ1) ∨ r = (.inr "java/lang/IllegalArgumentException", σ)) (fun _ => ?_) (fun _ => ?_))
  all_goals first | exact Or.inl ⟨_, _, rfl, fI_refl _⟩ | exact Or.inr rfl
theorem oe_encode (hN : 66 ≤ N) (a0 : Int32) (a1 : Int32) (a2 : Int32) (a3 : Int32) (σ : mmS) : ∃ k σ1, Ev N L xs (90, 0, lv_args 0 [.ref 0, .int a0, .int a1, .int a2, .int a3, .ref 65], [], 0, σ) (mmSI (k, σ1)) ∧ fI σ σ1 := by
  rcases oc_encode a0 a1 a2 a3 σ with ⟨v, σ1, h, hf⟩ | h
  · exact ⟨_, _, lw_encode_ok hN a0 a1 a2 a3 σ σ1 v h, hf⟩
  · exact ⟨_, _, lw_encode_1 hN a0 a1 a2 a3 σ σ h, fI_refl σ⟩
theorem oc_decode (a0 : Int64) (σ : mmS) : (fun r : mmR => (∃ v σ1, r = (.inl (some (.int v)), σ1) ∧ fI σ σ1) ∨ r = (.inr "java/lang/IllegalArgumentException", σ) ∨ r = (.inr "java/lang/IllegalStateException", σ)) (sp_b_decode a0 σ) := by
  unfold sp_b_decode
  repeat' (with_reducible first | refine ite_P (fun r : mmR => (∃ v σ1, r = (.inl (some (.int v)), σ1) ∧ fI σ σ1) ∨ r = (.inr "java/lang/IllegalArgumentException", σ) ∨ r = (.inr "java/lang/IllegalStateException", σ)) (fun _ => ?_) (fun _ => ?_))
  all_goals first | exact Or.inl ⟨_, _, rfl, fI_refl _⟩ | exact Or.inr (Or.inl rfl) | exact Or.inr (Or.inr rfl)
theorem oe_decode (hN : 66 ≤ N) (a0 : Int64) (σ : mmS) : ∃ k σ1, Ev N L xs (92, 0, lv_args 0 [.ref 0, .long a0, .ref 65], [], 0, σ) (mmSI (k, σ1)) ∧ fI σ σ1 := by
  rcases oc_decode a0 σ with ⟨v, σ1, h, hf⟩ | h | h
  · exact ⟨_, _, lw_decode_ok hN a0 σ σ1 v h, hf⟩
  · exact ⟨_, _, lw_decode_1 hN a0 σ σ h, fI_refl σ⟩
  · exact ⟨_, _, lw_decode_2 hN a0 σ σ h, fI_refl σ⟩
theorem jm_iteC {c : Prop} [Decidable c] {x y : mmS} (h1 : c → Jm x) (h2 : ¬ c → Jm y) : Jm (if c then x else y) := ite_P Jm h1 h2
theorem jm_iteC2 {α : Type} {c : Prop} [Decidable c] {x y : α × mmS} (h1 : c → Jm x.2) (h2 : ¬ c → Jm y.2) : Jm (if c then x else y).2 := ite_P (fun q : α × mmS => Jm q.2) h1 h2
theorem jm_p63 {σ : mmS} {i : Nat} {a b c v : Int32} (hv : ¬ v = 0) (hJ : Jm σ) : Jm (mmI (mmI (mmI (mmI σ 60 i a) 61 i b) 62 i c) 63 i v) := by
  intro n hn
  refine ⟨?_, (hJ n hn).2⟩
  show upd (σ.1 60) i a n = 0 ∨ ¬ upd (σ.1 63) i v n = 0
  by_cases h : n = i
  · subst h; right; rw [pk_us]; exact hv
  · rw [pk_un h, pk_un h]; exact (hJ n hn).1
theorem ne1 {a : Int32} (h : a = 1) : ¬ a = 0 := by rw [h]; decide
theorem ne2 {a : Int32} (h : a = 2) : ¬ a = 0 := by rw [h]; decide
theorem ne4 {a : Int32} (h : a = 4) : ¬ a = 0 := by rw [h]; decide
theorem jm_m_fail {σ : mmS} {a : Int32} (hJ : Jm σ) : Jm (sp_m_fail a σ).2 := jm_I (by decide) hJ
theorem jm_m_power {σ : mmS} {a0 : Int32} (hJ : Jm σ) : Jm (sp_m_power a0 σ) := by
  unfold sp_m_power
  repeat' (with_reducible first | exact hJ | refine jm_w ?_ | refine jm_listen ?_ | refine jm_I (by decide) ?_ | refine jm_m_fail ?_ | refine jm_J ?_ | refine jm_iteC (fun _ => ?_) (fun _ => ?_) | refine jm_iteC2 (fun _ => ?_) (fun _ => ?_))
theorem jm_m_off {σ : mmS} {a0 : Int32} (hJ : Jm σ) : Jm (sp_m_off a0 σ).2 := by
  unfold sp_m_off
  repeat' (with_reducible first | exact hJ | refine jm_I (by decide) ?_ | refine jm_m_fail ?_ | refine jm_J ?_ | refine jm_iteC (fun _ => ?_) (fun _ => ?_) | refine jm_iteC2 (fun _ => ?_) (fun _ => ?_))
theorem jm_m_run {σ : mmS} {a0 : Int32} (hJ : Jm σ) : Jm (sp_m_run a0 σ).2 := by
  unfold sp_m_run
  repeat' (with_reducible first | exact hJ | refine jm_run _ ?_ | refine jm_I (by decide) ?_ | refine jm_m_fail ?_ | refine jm_J ?_ | refine jm_iteC (fun _ => ?_) (fun _ => ?_) | refine jm_iteC2 (fun _ => ?_) (fun _ => ?_))
theorem jm_m_value {σ : mmS} {a0 : Int32} {a1 : Int32} (hJ : Jm σ) : Jm (sp_m_value a0 a1 σ) := by
  unfold sp_m_value
  repeat' (with_reducible first | exact hJ | refine jm_I (by decide) ?_ | refine jm_m_fail ?_ | refine jm_J ?_ | refine jm_iteC (fun _ => ?_) (fun _ => ?_) | refine jm_iteC2 (fun _ => ?_) (fun _ => ?_))
theorem jm_m_post {σ : mmS} {a0 : Int32} {a1 : Int32} {a2 : Int32} {a3 : Int32} {a4 : Int32} (hJ : Jm σ) : Jm (sp_m_post a0 a1 a2 a3 a4 σ) := by
  unfold sp_m_post
  repeat' (with_reducible first | exact hJ | refine jm_p63 (ne1 (by assumption)) ?_ | refine jm_p63 (ne2 (by assumption)) ?_ | refine jm_p63 (ne4 (by assumption)) ?_ | refine jm_I (by decide) ?_ | refine jm_m_fail ?_ | refine jm_J ?_ | refine jm_iteC (fun _ => ?_) (fun _ => ?_) | refine jm_iteC2 (fun _ => ?_) (fun _ => ?_))
theorem jm_m_disturb {σ : mmS} {a0 : Int64} (hJ : Jm σ) : Jm (sp_m_disturb a0 σ) := by
  unfold sp_m_disturb
  repeat' (with_reducible first | exact hJ | refine jm_I (by decide) ?_ | refine jm_m_fail ?_ | refine jm_J ?_ | refine jm_iteC (fun _ => ?_) (fun _ => ?_) | refine jm_iteC2 (fun _ => ?_) (fun _ => ?_))
theorem jm_m_lose {σ : mmS} {a0 : Int32} (hJ : Jm σ) : Jm (sp_m_lose a0 σ).2 := by
  unfold sp_m_lose
  repeat' (with_reducible first | exact hJ | refine jm_I (by decide) ?_ | refine jm_m_fail ?_ | refine jm_J ?_ | refine jm_iteC (fun _ => ?_) (fun _ => ?_) | refine jm_iteC2 (fun _ => ?_) (fun _ => ?_))
theorem jm_m_state {σ : mmS} {a0 : Int32} (hJ : Jm σ) : Jm (sp_m_state a0 σ).2 := by
  unfold sp_m_state
  repeat' (with_reducible first | exact hJ | refine jm_I (by decide) ?_ | refine jm_m_fail ?_ | refine jm_J ?_ | refine jm_iteC (fun _ => ?_) (fun _ => ?_) | refine jm_iteC2 (fun _ => ?_) (fun _ => ?_))
theorem jm_m_clock {σ : mmS} {a0 : Int32} {a1 : Int32} (hJ : Jm σ) : Jm (sp_m_clock a0 a1 σ).2 := by
  unfold sp_m_clock
  repeat' (with_reducible first | exact hJ | refine jm_I (by decide) ?_ | refine jm_m_fail ?_ | refine jm_J ?_ | refine jm_iteC (fun _ => ?_) (fun _ => ?_) | refine jm_iteC2 (fun _ => ?_) (fun _ => ?_))
theorem jm_m_deviation {σ : mmS} {a0 : Int32} {a1 : Int32} {a2 : Int32} (hJ : Jm σ) : Jm (sp_m_deviation a0 a1 a2 σ).2 := by
  unfold sp_m_deviation
  repeat' (with_reducible first | exact hJ | refine jm_I (by decide) ?_ | refine jm_m_fail ?_ | refine jm_J ?_ | refine jm_iteC (fun _ => ?_) (fun _ => ?_) | refine jm_iteC2 (fun _ => ?_) (fun _ => ?_))
theorem jm_m_got {σ : mmS} {a0 : Int32} {a1 : Int32} (hJ : Jm σ) : Jm (sp_m_got a0 a1 σ).2 := by
  unfold sp_m_got
  repeat' (with_reducible first | exact hJ | refine jm_I (by decide) ?_ | refine jm_m_fail ?_ | refine jm_J ?_ | refine jm_iteC (fun _ => ?_) (fun _ => ?_) | refine jm_iteC2 (fun _ => ?_) (fun _ => ?_))
theorem jm_m_frames {σ : mmS}  (hJ : Jm σ) : Jm (sp_m_frames  σ).2 := by
  unfold sp_m_frames
  repeat' (with_reducible first | exact hJ | refine jm_I (by decide) ?_ | refine jm_m_fail ?_ | refine jm_J ?_ | refine jm_iteC (fun _ => ?_) (fun _ => ?_) | refine jm_iteC2 (fun _ => ?_) (fun _ => ?_))
theorem jm_m_last {σ : mmS}  (hJ : Jm σ) : Jm (sp_m_last  σ).2 := by
  unfold sp_m_last
  repeat' (with_reducible first | exact hJ | refine jm_I (by decide) ?_ | refine jm_m_fail ?_ | refine jm_J ?_ | refine jm_iteC (fun _ => ?_) (fun _ => ?_) | refine jm_iteC2 (fun _ => ?_) (fun _ => ?_))
theorem jm_m_encode {σ : mmS} {a0 : Int32} {a1 : Int32} {a2 : Int32} {a3 : Int32} (hJ : Jm σ) : Jm (sp_m_encode a0 a1 a2 a3 σ).2 := by
  unfold sp_m_encode
  repeat' (with_reducible first | exact hJ | refine jm_I (by decide) ?_ | refine jm_m_fail ?_ | refine jm_J ?_ | refine jm_iteC (fun _ => ?_) (fun _ => ?_) | refine jm_iteC2 (fun _ => ?_) (fun _ => ?_))
theorem jm_m_decode {σ : mmS} {a0 : Int64} (hJ : Jm σ) : Jm (sp_m_decode a0 σ).2 := by
  unfold sp_m_decode
  repeat' (with_reducible first | exact hJ | refine jm_I (by decide) ?_ | refine jm_m_fail ?_ | refine jm_J ?_ | refine jm_iteC (fun _ => ?_) (fun _ => ?_) | refine jm_iteC2 (fun _ => ?_) (fun _ => ?_))
end OC
