/-! what a node leaves alone in the reference; the four nodes and the bus; a tick, a run -/
section BU
/-- of the reference's cells only those of node n (and the scratch ones) have changed -/
def gM (n : Nat) (τ0 τ : mmS) : Prop :=
  (∀ k, (43 ≤ k ∧ k ≤ 63 ∧ k ≠ 57 ∧ k ≠ 58) → ∀ i, i ≠ n → τ.1 k i = τ0.1 k i) ∧ (∀ i, (i < 8 * n ∨ 8 * n + 8 ≤ i) → τ.1 57 i = τ0.1 57 i) ∧ (∀ i, (i < 10 * n ∨ 10 * n + 10 ≤ i) → τ.1 58 i = τ0.1 58 i) ∧ (∀ i, i ≠ 28 → τ.1 42 i = τ0.1 42 i) ∧ (∀ i, i ≠ 23 → τ.2 42 i = τ0.2 42 i)
theorem gM_refl {n : Nat} (τ : mmS) : gM n τ τ := ⟨fun _ _ _ _ => rfl, fun _ _ => rfl, fun _ _ => rfl, fun _ _ => rfl, fun _ _ => rfl⟩
theorem gM_I {n k : Nat} {v : Int32} {τ0 τ : mmS} (hk : 43 ≤ k ∧ k ≤ 63 ∧ k ≠ 57 ∧ k ≠ 58) (h : gM n τ0 τ) : gM n τ0 (mmI τ k n v) := by
  obtain ⟨h1, h2, h3, h4, h5⟩ := h
  refine ⟨fun q hq i hi => ?_, fun i hi => ?_, fun i hi => ?_, fun i hi => ?_, h5⟩
  · rw [← h1 q hq i hi]
    by_cases z : q = k
    · subst z; exact rdI hi
    · exact rdK z
  · rw [rdK (by omega)]; exact h2 i hi
  · rw [rdK (by omega)]; exact h3 i hi
  · rw [rdK (by omega)]; exact h4 i hi
theorem gM_57 {n m : Nat} {v : Int32} {τ0 τ : mmS} (hm : m < 8) (h : gM n τ0 τ) : gM n τ0 (mmI τ 57 (8 * n + m) v) := by
  obtain ⟨h1, h2, h3, h4, h5⟩ := h
  refine ⟨fun q hq i hi => ?_, fun i hi => ?_, fun i hi => ?_, fun i hi => ?_, h5⟩
  · rw [rdK (by omega)]; exact h1 q hq i hi
  · rw [rdI (by omega)]; exact h2 i hi
  · rw [rdK (by omega)]; exact h3 i hi
  · rw [rdK (by omega)]; exact h4 i hi
theorem gM_58 {n m : Nat} {v : Int32} {τ0 τ : mmS} (hm : m < 10) (h : gM n τ0 τ) : gM n τ0 (mmI τ 58 (10 * n + m) v) := by
  obtain ⟨h1, h2, h3, h4, h5⟩ := h
  refine ⟨fun q hq i hi => ?_, fun i hi => ?_, fun i hi => ?_, fun i hi => ?_, h5⟩
  · rw [rdK (by omega)]; exact h1 q hq i hi
  · rw [rdK (by omega)]; exact h2 i hi
  · rw [rdI (by omega)]; exact h3 i hi
  · rw [rdK (by omega)]; exact h4 i hi
theorem gM_42 {n : Nat} {v : Int32} {τ0 τ : mmS} (h : gM n τ0 τ) : gM n τ0 (mmI τ 42 28 v) := by
  obtain ⟨h1, h2, h3, h4, h5⟩ := h
  refine ⟨fun q hq i hi => ?_, fun i hi => ?_, fun i hi => ?_, fun i hi => ?_, h5⟩
  · rw [rdK (by omega)]; exact h1 q hq i hi
  · rw [rdK (by omega)]; exact h2 i hi
  · rw [rdK (by omega)]; exact h3 i hi
  · rw [rdI hi]; exact h4 i hi
theorem gM_64 {n m : Nat} {v : Int32} {τ0 τ : mmS} (h : gM n τ0 τ) : gM n τ0 (mmI τ 64 m v) := by
  obtain ⟨h1, h2, h3, h4, h5⟩ := h
  refine ⟨fun q hq i hi => ?_, fun i hi => ?_, fun i hi => ?_, fun i hi => ?_, h5⟩
  · rw [rdK (by omega)]; exact h1 q hq i hi
  · rw [rdK (by omega)]; exact h2 i hi
  · rw [rdK (by omega)]; exact h3 i hi
  · rw [rdK (by omega)]; exact h4 i hi
theorem rdJ2 {τ : mmS} {a i k m : Nat} {v : Int64} (h : ¬ (k = a ∧ m = i)) : (mmJ τ a i v).2 k m = τ.2 k m := by
  show (if k = a then vp_updL (τ.2 a) i v else τ.2 k) m = τ.2 k m
  by_cases q : k = a
  · subst q
    rw [if_pos rfl]
    unfold vp_updL
    exact if_neg (fun z => h ⟨rfl, z⟩)
  · rw [if_neg q]
theorem rdJS {τ : mmS} {a i : Nat} {v : Int64} : (mmJ τ a i v).2 a i = v := by
  show (if a = a then vp_updL (τ.2 a) i v else τ.2 a) i = v
  rw [if_pos rfl]
  unfold vp_updL
  exact if_pos rfl
theorem gM_J {n : Nat} {v : Int64} {τ0 τ : mmS} (h : gM n τ0 τ) : gM n τ0 (mmJ τ 42 23 v) := by
  obtain ⟨h1, h2, h3, h4, h5⟩ := h
  refine ⟨h1, h2, h3, h4, fun i hi => ?_⟩
  rw [rdJ2 (fun z => hi z.2)]
  exact h5 i hi
theorem gM_ite {n : Nat} {c : Prop} [Decidable c] {τ0 x y : mmS} (h1 : c → gM n τ0 x) (h2 : ¬ c → gM n τ0 y) : gM n τ0 (if c then x else y) := ite_P (gM n τ0) h1 h2
theorem gM_ite2 {α : Type} {n : Nat} {c : Prop} [Decidable c] {τ0 : mmS} {x y : α × mmS} (h1 : c → gM n τ0 x.2) (h2 : ¬ c → gM n τ0 y.2) : gM n τ0 (if c then x else y).2 := ite_P (fun q : α × mmS => gM n τ0 q.2) h1 h2
variable {j : Nat} {σ τ : mmS}
theorem gm_forget {τ0 : mmS}  (hj : j < 4) (h : gM j τ0 τ) : gM j τ0 (sp_m_forget (Int32.ofNat j) τ) := by
  unfold sp_m_forget
  try simp only [tj hj, t8_0 hj, t8_1 hj, t8_2 hj, t8_3 hj, t8_4 hj, t8_5 hj, t8_6 hj, t8_7 hj, t8_01 hj, t8_21 hj, t8_41 hj, t8_61 hj]
  repeat' (with_reducible first | exact h | refine gM_I (by decide) ?_ | refine gM_57 (by decide) ?_ | refine gM_42 ?_ | refine gM_64 ?_ | refine gM_J ?_ | refine gM_ite (fun _ => ?_) (fun _ => ?_))
theorem gm_listen {τ0 : mmS}  (hj : j < 4) (h : gM j τ0 τ) : gM j τ0 (sp_m_listen (Int32.ofNat j) τ) := by
  unfold sp_m_listen
  try simp only [tj hj, t8_0 hj, t8_1 hj, t8_2 hj, t8_3 hj, t8_4 hj, t8_5 hj, t8_6 hj, t8_7 hj, t8_01 hj, t8_21 hj, t8_41 hj, t8_61 hj]
  repeat' (with_reducible first | exact h | refine gm_forget hj ?_ | refine gM_I (by decide) ?_ | refine gM_57 (by decide) ?_ | refine gM_42 ?_ | refine gM_64 ?_ | refine gM_J ?_ | refine gM_ite (fun _ => ?_) (fun _ => ?_))
theorem gm_begin {τ0 : mmS} {a1 : Int32} {a2 : Int32} {a3 : Int32} {a4 : Int32} {a5 : Int32} (hj : j < 4) (h : gM j τ0 τ) : gM j τ0 (sp_m_begin (Int32.ofNat j) a1 a2 a3 a4 a5 τ) := by
  unfold sp_m_begin
  try simp only [tj hj, t8_0 hj, t8_1 hj, t8_2 hj, t8_3 hj, t8_4 hj, t8_5 hj, t8_6 hj, t8_7 hj, t8_01 hj, t8_21 hj, t8_41 hj, t8_61 hj]
  repeat' (with_reducible first | exact h | refine gm_forget hj ?_ | refine gM_I (by decide) ?_ | refine gM_57 (by decide) ?_ | refine gM_42 ?_ | refine gM_64 ?_ | refine gM_J ?_ | refine gM_ite (fun _ => ?_) (fun _ => ?_))
theorem gm_decide {τ0 : mmS} {a1 : Int32} (hj : j < 4) (h : gM j τ0 τ) : gM j τ0 (sp_m_decide (Int32.ofNat j) a1 τ) := by
  unfold sp_m_decide
  try simp only [tj hj, t8_0 hj, t8_1 hj, t8_2 hj, t8_3 hj, t8_4 hj, t8_5 hj, t8_6 hj, t8_7 hj, t8_01 hj, t8_21 hj, t8_41 hj, t8_61 hj]
  repeat' (with_reducible first | exact h | refine gm_listen hj ?_ | refine gM_I (by decide) ?_ | refine gM_57 (by decide) ?_ | refine gM_42 ?_ | refine gM_64 ?_ | refine gM_J ?_ | refine gM_ite (fun _ => ?_) (fun _ => ?_))
theorem gm_reflB_L4 {τ0 : mmS} {b : Int32} (hj : j < 4) (h : gM j τ0 τ) : gM j τ0 (sp_m_reflB_L4 (Int32.ofNat j) b τ) := by
  unfold sp_m_reflB_L4
  try simp only [tj hj, t8_0 hj, t8_1 hj, t8_2 hj, t8_3 hj, t8_4 hj, t8_5 hj, t8_6 hj, t8_7 hj, t8_01 hj, t8_21 hj, t8_41 hj, t8_61 hj]
  repeat' (with_reducible first | exact h | refine gm_decide hj ?_ | refine gM_I (by decide) ?_ | refine gM_57 (by decide) ?_ | refine gM_42 ?_ | refine gM_64 ?_ | refine gM_J ?_ | refine gM_ite (fun _ => ?_) (fun _ => ?_))
theorem gm_reflB_L3 {τ0 : mmS} {b : Int32} (hj : j < 4) (h : gM j τ0 τ) : gM j τ0 (sp_m_reflB_L3 (Int32.ofNat j) b τ) := by
  unfold sp_m_reflB_L3
  try simp only [tj hj, t8_0 hj, t8_1 hj, t8_2 hj, t8_3 hj, t8_4 hj, t8_5 hj, t8_6 hj, t8_7 hj, t8_01 hj, t8_21 hj, t8_41 hj, t8_61 hj]
  repeat' (with_reducible first | exact h | refine gm_reflB_L4 hj ?_ | refine gM_I (by decide) ?_ | refine gM_57 (by decide) ?_ | refine gM_42 ?_ | refine gM_64 ?_ | refine gM_J ?_ | refine gM_ite (fun _ => ?_) (fun _ => ?_))
theorem gm_reflB_L2 {τ0 : mmS} {b : Int32} (hj : j < 4) (h : gM j τ0 τ) : gM j τ0 (sp_m_reflB_L2 (Int32.ofNat j) b τ) := by
  unfold sp_m_reflB_L2
  try simp only [tj hj, t8_0 hj, t8_1 hj, t8_2 hj, t8_3 hj, t8_4 hj, t8_5 hj, t8_6 hj, t8_7 hj, t8_01 hj, t8_21 hj, t8_41 hj, t8_61 hj]
  repeat' (with_reducible first | exact h | refine gm_reflB_L3 hj ?_ | refine gM_I (by decide) ?_ | refine gM_57 (by decide) ?_ | refine gM_42 ?_ | refine gM_64 ?_ | refine gM_J ?_ | refine gM_ite (fun _ => ?_) (fun _ => ?_))
theorem gm_reflB_L1 {τ0 : mmS} {b : Int32} (hj : j < 4) (h : gM j τ0 τ) : gM j τ0 (sp_m_reflB_L1 (Int32.ofNat j) b τ) := by
  unfold sp_m_reflB_L1
  try simp only [tj hj, t8_0 hj, t8_1 hj, t8_2 hj, t8_3 hj, t8_4 hj, t8_5 hj, t8_6 hj, t8_7 hj, t8_01 hj, t8_21 hj, t8_41 hj, t8_61 hj]
  repeat' (with_reducible first | exact h | refine gm_reflB_L2 hj ?_ | refine gM_I (by decide) ?_ | refine gM_57 (by decide) ?_ | refine gM_42 ?_ | refine gM_64 ?_ | refine gM_J ?_ | refine gM_ite (fun _ => ?_) (fun _ => ?_))
theorem gm_reflB_L0 {τ0 : mmS} {b : Int32} (hj : j < 4) (h : gM j τ0 τ) : gM j τ0 (sp_m_reflB_L0 (Int32.ofNat j) b τ) := by
  unfold sp_m_reflB_L0
  try simp only [tj hj, t8_0 hj, t8_1 hj, t8_2 hj, t8_3 hj, t8_4 hj, t8_5 hj, t8_6 hj, t8_7 hj, t8_01 hj, t8_21 hj, t8_41 hj, t8_61 hj]
  repeat' (with_reducible first | exact h | refine gm_reflB_L1 hj ?_ | refine gM_I (by decide) ?_ | refine gM_57 (by decide) ?_ | refine gM_42 ?_ | refine gM_64 ?_ | refine gM_J ?_ | refine gM_ite (fun _ => ?_) (fun _ => ?_))
theorem gm_reflA_L4 {τ0 : mmS} {b : Int32} (hj : j < 4) (h : gM j τ0 τ) : gM j τ0 (sp_m_reflA_L4 (Int32.ofNat j) b τ) := by
  unfold sp_m_reflA_L4
  try simp only [tj hj, t8_0 hj, t8_1 hj, t8_2 hj, t8_3 hj, t8_4 hj, t8_5 hj, t8_6 hj, t8_7 hj, t8_01 hj, t8_21 hj, t8_41 hj, t8_61 hj]
  repeat' (with_reducible first | exact h | refine gm_reflB_L0 hj ?_ | refine gM_I (by decide) ?_ | refine gM_57 (by decide) ?_ | refine gM_42 ?_ | refine gM_64 ?_ | refine gM_J ?_ | refine gM_ite (fun _ => ?_) (fun _ => ?_))
theorem gm_reflA_L3 {τ0 : mmS} {b : Int32} (hj : j < 4) (h : gM j τ0 τ) : gM j τ0 (sp_m_reflA_L3 (Int32.ofNat j) b τ) := by
  unfold sp_m_reflA_L3
  try simp only [tj hj, t8_0 hj, t8_1 hj, t8_2 hj, t8_3 hj, t8_4 hj, t8_5 hj, t8_6 hj, t8_7 hj, t8_01 hj, t8_21 hj, t8_41 hj, t8_61 hj]
  repeat' (with_reducible first | exact h | refine gm_reflA_L4 hj ?_ | refine gM_I (by decide) ?_ | refine gM_57 (by decide) ?_ | refine gM_42 ?_ | refine gM_64 ?_ | refine gM_J ?_ | refine gM_ite (fun _ => ?_) (fun _ => ?_))
theorem gm_reflA_L2 {τ0 : mmS} {b : Int32} (hj : j < 4) (h : gM j τ0 τ) : gM j τ0 (sp_m_reflA_L2 (Int32.ofNat j) b τ) := by
  unfold sp_m_reflA_L2
  try simp only [tj hj, t8_0 hj, t8_1 hj, t8_2 hj, t8_3 hj, t8_4 hj, t8_5 hj, t8_6 hj, t8_7 hj, t8_01 hj, t8_21 hj, t8_41 hj, t8_61 hj]
  repeat' (with_reducible first | exact h | refine gm_reflA_L3 hj ?_ | refine gM_I (by decide) ?_ | refine gM_57 (by decide) ?_ | refine gM_42 ?_ | refine gM_64 ?_ | refine gM_J ?_ | refine gM_ite (fun _ => ?_) (fun _ => ?_))
theorem gm_reflA_L1 {τ0 : mmS} {b : Int32} (hj : j < 4) (h : gM j τ0 τ) : gM j τ0 (sp_m_reflA_L1 (Int32.ofNat j) b τ) := by
  unfold sp_m_reflA_L1
  try simp only [tj hj, t8_0 hj, t8_1 hj, t8_2 hj, t8_3 hj, t8_4 hj, t8_5 hj, t8_6 hj, t8_7 hj, t8_01 hj, t8_21 hj, t8_41 hj, t8_61 hj]
  repeat' (with_reducible first | exact h | refine gm_reflA_L2 hj ?_ | refine gM_I (by decide) ?_ | refine gM_57 (by decide) ?_ | refine gM_42 ?_ | refine gM_64 ?_ | refine gM_J ?_ | refine gM_ite (fun _ => ?_) (fun _ => ?_))
theorem gm_reflA_L0 {τ0 : mmS} {b : Int32} (hj : j < 4) (h : gM j τ0 τ) : gM j τ0 (sp_m_reflA_L0 (Int32.ofNat j) b τ) := by
  unfold sp_m_reflA_L0
  try simp only [tj hj, t8_0 hj, t8_1 hj, t8_2 hj, t8_3 hj, t8_4 hj, t8_5 hj, t8_6 hj, t8_7 hj, t8_01 hj, t8_21 hj, t8_41 hj, t8_61 hj]
  repeat' (with_reducible first | exact h | refine gm_reflA_L1 hj ?_ | refine gM_I (by decide) ?_ | refine gM_57 (by decide) ?_ | refine gM_42 ?_ | refine gM_64 ?_ | refine gM_J ?_ | refine gM_ite (fun _ => ?_) (fun _ => ?_))
theorem gm_reflect {τ0 : mmS}  (hj : j < 4) (h : gM j τ0 τ) : gM j τ0 (sp_m_reflect (Int32.ofNat j) τ) := by
  unfold sp_m_reflect
  try simp only [tj hj, t8_0 hj, t8_1 hj, t8_2 hj, t8_3 hj, t8_4 hj, t8_5 hj, t8_6 hj, t8_7 hj, t8_01 hj, t8_21 hj, t8_41 hj, t8_61 hj]
  repeat' (with_reducible first | exact h | refine gm_reflA_L0 hj ?_ | refine gM_I (by decide) ?_ | refine gM_57 (by decide) ?_ | refine gM_42 ?_ | refine gM_64 ?_ | refine gM_J ?_ | refine gM_ite (fun _ => ?_) (fun _ => ?_))
theorem gm_sends {τ0 : mmS}  (hj : j < 4) (h : gM j τ0 τ) : gM j τ0 (sp_m_sends (Int32.ofNat j) τ).2 := by
  unfold sp_m_sends
  try simp only [tj hj, t8_0 hj, t8_1 hj, t8_2 hj, t8_3 hj, t8_4 hj, t8_5 hj, t8_6 hj, t8_7 hj, t8_01 hj, t8_21 hj, t8_41 hj, t8_61 hj]
  repeat' (with_reducible first | exact h | refine gM_I (by decide) ?_ | refine gM_57 (by decide) ?_ | refine gM_42 ?_ | refine gM_64 ?_ | refine gM_J ?_ | refine gM_ite (fun _ => ?_) (fun _ => ?_) | refine gM_ite2 (fun _ => ?_) (fun _ => ?_))
theorem gm_passes_278 {τ0 : mmS}  (hj : j < 4) (h : gM j τ0 τ) : gM j τ0 (sp_m_passes_278 (Int32.ofNat j) τ).2 := by
  unfold sp_m_passes_278
  try simp only [tj hj, t8_0 hj, t8_1 hj, t8_2 hj, t8_3 hj, t8_4 hj, t8_5 hj, t8_6 hj, t8_7 hj, t8_01 hj, t8_21 hj, t8_41 hj, t8_61 hj]
  repeat' (with_reducible first | exact h | refine gm_sends hj ?_ | refine gM_I (by decide) ?_ | refine gM_57 (by decide) ?_ | refine gM_42 ?_ | refine gM_64 ?_ | refine gM_J ?_ | refine gM_ite (fun _ => ?_) (fun _ => ?_) | refine gM_ite2 (fun _ => ?_) (fun _ => ?_))
theorem gm_passes_255 {τ0 : mmS} {i3 : Int32} (hj : j < 4) (h : gM j τ0 τ) : gM j τ0 (sp_m_passes_255 (Int32.ofNat j) i3 τ).2 := by
  unfold sp_m_passes_255
  try simp only [tj hj, t8_0 hj, t8_1 hj, t8_2 hj, t8_3 hj, t8_4 hj, t8_5 hj, t8_6 hj, t8_7 hj, t8_01 hj, t8_21 hj, t8_41 hj, t8_61 hj]
  repeat' (with_reducible first | exact h | refine gm_passes_278 hj ?_ | refine gm_reflect hj ?_ | refine gM_I (by decide) ?_ | refine gM_57 (by decide) ?_ | refine gM_42 ?_ | refine gM_64 ?_ | refine gM_J ?_ | refine gM_ite (fun _ => ?_) (fun _ => ?_) | refine gM_ite2 (fun _ => ?_) (fun _ => ?_))
theorem gm_passes_168 {τ0 : mmS}  (hj : j < 4) (h : gM j τ0 τ) : gM j τ0 (sp_m_passes_168 (Int32.ofNat j) τ).2 := by
  unfold sp_m_passes_168
  try simp only [tj hj, t8_0 hj, t8_1 hj, t8_2 hj, t8_3 hj, t8_4 hj, t8_5 hj, t8_6 hj, t8_7 hj, t8_01 hj, t8_21 hj, t8_41 hj, t8_61 hj]
  repeat' (with_reducible first | exact h | refine gm_passes_255 hj ?_ | refine gM_I (by decide) ?_ | refine gM_57 (by decide) ?_ | refine gM_42 ?_ | refine gM_64 ?_ | refine gM_J ?_ | refine gM_ite (fun _ => ?_) (fun _ => ?_) | refine gM_ite2 (fun _ => ?_) (fun _ => ?_))
theorem gm_passes {τ0 : mmS}  (hj : j < 4) (h : gM j τ0 τ) : gM j τ0 (sp_m_passes (Int32.ofNat j) τ).2 := by
  unfold sp_m_passes
  try simp only [tj hj, t8_0 hj, t8_1 hj, t8_2 hj, t8_3 hj, t8_4 hj, t8_5 hj, t8_6 hj, t8_7 hj, t8_01 hj, t8_21 hj, t8_41 hj, t8_61 hj]
  repeat' (with_reducible first | exact h | refine gm_passes_168 hj ?_ | refine gm_forget hj ?_ | refine gm_begin hj ?_ | refine gM_I (by decide) ?_ | refine gM_57 (by decide) ?_ | refine gM_42 ?_ | refine gM_64 ?_ | refine gM_J ?_ | refine gM_ite (fun _ => ?_) (fun _ => ?_) | refine gM_ite2 (fun _ => ?_) (fun _ => ?_))
theorem gm_notice {τ0 : mmS} {a1 : Int32} {a2 : Int32} (hj : j < 4) (h : gM j τ0 τ) : gM j τ0 (sp_m_notice (Int32.ofNat j) a1 a2 τ) := by
  unfold sp_m_notice
  try simp only [tj hj, t8_0 hj, t8_1 hj, t8_2 hj, t8_3 hj, t8_4 hj, t8_5 hj, t8_6 hj, t8_7 hj, t8_01 hj, t8_21 hj, t8_41 hj, t8_61 hj]
  repeat' (with_reducible first | exact h | refine gm_begin hj ?_ | refine gM_I (by decide) ?_ | refine gM_57 (by decide) ?_ | refine gM_42 ?_ | refine gM_64 ?_ | refine gM_J ?_ | refine gM_ite (fun _ => ?_) (fun _ => ?_))
theorem gM_57x {τ0 : mmS} {v d c : Int32} (hj : j < 4) (h1 : ¬ d < 1) (h4 : d ≤ 4) (hc : c = 0 ∨ c = 1) (h : gM j τ0 τ) : gM j τ0 (mmI τ 57 ((((8 : Int32) * Int32.ofNat j) + ((2 : Int32) * (d - (1 : Int32)))) + c).toNatClampNeg v) := by
  have hd : idok d := ⟨h1, fun z => by rw [Int32.lt_iff_toInt_lt] at z; rw [Int32.le_iff_toInt_le] at h4; have e9 : (9 : Int32).toInt = 9 := by decide
                                       have e4 : (4 : Int32).toInt = 4 := by decide
                                       omega⟩
  obtain ⟨k, hk, rfl⟩ := id14 hd h4
  rw [(dix hj hk hc).1]
  refine gM_57 ?_ h
  have : c.toNatClampNeg ≤ 1 := by rcases hc with rfl | rfl <;> decide
  omega
theorem id_lt10 {d : Int32} (h : idok d) : d.toNatClampNeg < 10 := Nat.not_le.mp fun q => id10 h (Or.inr q)
theorem gM_58x {τ0 : mmS} {v d : Int32} (hj : j < 4) (h1 : ¬ d < 1) (h9 : ¬ 9 < d) (h : gM j τ0 τ) : gM j τ0 (mmI τ 58 ((10 * Int32.ofNat j) + d).toNatClampNeg v) := by
  rw [t10 hj ⟨h1, h9⟩]
  exact gM_58 (id_lt10 ⟨h1, h9⟩) h
theorem gm_hear {τ0 : mmS} {w : Int64} (hj : j < 4) (hO : τ.1 50 j - τ.1 50 j / 2 * 2 = 0 ∨ τ.1 50 j - τ.1 50 j / 2 * 2 = 1) (h : gM j τ0 τ) : gM j τ0 (sp_m_hear (Int32.ofNat j) w τ) := by
  unfold sp_m_hear
  rw [tj hj]
  repeat' (with_reducible first | exact h | refine gm_listen hj ?_ | refine gm_notice hj ?_ | refine gM_I (by decide) ?_ | refine gM_57x hj (by assumption) (by assumption) hO ?_ | refine gM_58x hj (by assumption) (by assumption) ?_ | refine gM_ite (fun _ => ?_) (fun _ => ?_))
theorem RI_frame {i : Nat} {σ' τ' : mmS} (hij : i ≠ j) (h : RI i σ τ) (hC : fN j σ σ') (hM : gM j τ τ') : RI i σ' τ' := by
  obtain ⟨x0, x1, x2, x3, x4, x5, x6, x7, t0, t1, t2, t3, t4, s0, s1, s2, dv, he, w0, w1, w2, w3, i1, i2, i3, i4, i5, i6, i7, i8, i9, i10, i11, i12⟩ := h
  obtain ⟨m1, m2, m3, m4, m5⟩ := hM
  have c2 : ∀ m, σ'.1 (10 * i + 2) m = σ.1 (10 * i + 2) m := fun m => by rw [hC.1 (10 * i + 2) (by omega)]
  have c3 : ∀ m, σ'.1 (10 * i + 3) m = σ.1 (10 * i + 3) m := fun m => by rw [hC.1 (10 * i + 3) (by omega)]
  have c4 : ∀ m, σ'.1 (10 * i + 4) m = σ.1 (10 * i + 4) m := fun m => by rw [hC.1 (10 * i + 4) (by omega)]
  have c6 : ∀ m, σ'.1 (10 * i + 6) m = σ.1 (10 * i + 6) m := fun m => by rw [hC.1 (10 * i + 6) (by omega)]
  have c7 : ∀ m, σ'.1 (10 * i + 7) m = σ.1 (10 * i + 7) m := fun m => by rw [hC.1 (10 * i + 7) (by omega)]
  have c10 : ∀ m, σ'.1 (10 * i + 10) m = σ.1 (10 * i + 10) m := fun m => by rw [hC.1 (10 * i + 10) (by omega)]
  have c11 : ∀ m, σ'.1 (10 * i + 11) m = σ.1 (10 * i + 11) m := fun m => by rw [hC.1 (10 * i + 11) (by omega)]
  have k43 : τ'.1 43 i = τ.1 43 i := m1 43 (by decide) i hij
  have k44 : τ'.1 44 i = τ.1 44 i := m1 44 (by decide) i hij
  have k45 : τ'.1 45 i = τ.1 45 i := m1 45 (by decide) i hij
  have k54 : τ'.1 54 i = τ.1 54 i := m1 54 (by decide) i hij
  have k55 : τ'.1 55 i = τ.1 55 i := m1 55 (by decide) i hij
  have k56 : τ'.1 56 i = τ.1 56 i := m1 56 (by decide) i hij
  have k59 : τ'.1 59 i = τ.1 59 i := m1 59 (by decide) i hij
  have k49 : τ'.1 49 i = τ.1 49 i := m1 49 (by decide) i hij
  have k50 : τ'.1 50 i = τ.1 50 i := m1 50 (by decide) i hij
  have k51 : τ'.1 51 i = τ.1 51 i := m1 51 (by decide) i hij
  have k53 : τ'.1 53 i = τ.1 53 i := m1 53 (by decide) i hij
  have k52 : τ'.1 52 i = τ.1 52 i := m1 52 (by decide) i hij
  have k46 : τ'.1 46 i = τ.1 46 i := m1 46 (by decide) i hij
  have k47 : τ'.1 47 i = τ.1 47 i := m1 47 (by decide) i hij
  have k48 : τ'.1 48 i = τ.1 48 i := m1 48 (by decide) i hij
  have k60 : τ'.1 60 i = τ.1 60 i := m1 60 (by decide) i hij
  have k61 : τ'.1 61 i = τ.1 61 i := m1 61 (by decide) i hij
  have k62 : τ'.1 62 i = τ.1 62 i := m1 62 (by decide) i hij
  have k63 : τ'.1 63 i = τ.1 63 i := m1 63 (by decide) i hij
  unfold RI
  simp only [c2, c3, c4, c6, c7, c10, c11, k43, k44, k45, k54, k55, k56, k59, k49, k50, k51, k53, k52, k46, k47, k48, k60, k61, k62, k63]
  refine ⟨x0, x1, x2, x3, x4, x5, x6, x7, t0, t1, t2, t3, t4, s0, s1, s2, fun q hq => ?_, fun q hq => ?_, w0, w1, w2, w3, i1, i2, i3, i4, i5, i6, i7, i8, i9, i10, i11, i12⟩
  · rw [m2 (8 * i + 2 * q) (by omega), m2 (8 * i + (2 * q + 1)) (by omega)]; exact dv q hq
  · rw [m3 (10 * i + q) (by omega)]; exact he q hq
/-- the bus -/
def BI (σ τ : mmS) : Prop := σ.1 0 2 = τ.1 42 27 ∧ rg (σ.1 0 2) 0 1000 ∧ σ.1 0 3 = τ.1 42 22 ∧ (∃ d, d < 2 ^ 57 ∧ σ.2 0 1 = lN d ∧ τ.2 42 26 = lN d) ∧ ((σ.2 0 4 = -1 ∧ τ.1 42 25 = 0) ∨ (τ.1 42 25 = 1 ∧ ∃ q, q < 2 ^ 57 ∧ σ.2 0 4 = lN q ∧ τ.2 42 24 = lN q))
def RB (σ τ : mmS) : Prop := (∀ j, j < 4 → RI j σ τ) ∧ BI σ τ
theorem BI_frame {σ' τ' : mmS} (h : BI σ τ) (hC : fN j σ σ') (hM : gM j τ τ') : BI σ' τ' := by
  have c0 : σ'.1 0 = σ.1 0 := hC.1 0 (by omega)
  obtain ⟨-, -, -, m4, m5⟩ := hM
  unfold BI
  rw [c0, hC.2, m4 27 (by decide), m4 22 (by decide), m4 25 (by decide), m5 26 (by decide), m5 24 (by decide)]
  exact h
theorem RB_node {σ' τ' : mmS} (h : RB σ τ) (hC : fN j σ σ') (hM : gM j τ τ') (hR : RI j σ' τ') : RB σ' τ' := by
  refine ⟨fun i hi => ?_, BI_frame h.2 hC hM⟩
  by_cases q : i = j
  · subst q; exact hR
  · exact RI_frame q (h.1 i hi) hC hM
theorem lg_m1 : lg_cmp (-1) (-1) = 0 := lgS _
theorem lg_ne {q : Nat} (hq : q < 2 ^ 57) : ¬ lg_cmp (lN q) (-1) = 0 := by
  have hgt : (-1 : Int64) < lN q := by
    rw [Int64.lt_iff_toInt_lt]
    have e1 : (-1 : Int64).toInt = -1 := by decide
    have e2 : (lN q).toInt = q := by
      show (lN q).toBitVec.toInt = _
      rw [BitVec.toInt_eq_toNat_cond, wb_tn (by omega), if_pos (by omega)]
    rw [e1, e2]
    omega
  unfold lg_cmp
  rw [if_pos hgt]
  decide
/-- who has sent so far: the class's and the reference's notes -/
def TL (s d : Int32) (w : Int64) (s' d' : Int32) (w' : Int64) : Prop := s = s' ∧ True ∧ (s = 0 ∨ (d = d' ∧ w = w' ∧ ∃ q, q < 2 ^ 57 ∧ w = lN q))
theorem cl_4 {q : Nat} {z d : Int32} {σn : mmS} (hz : z = sp_w_isNoise (lN q) σn) (hq : q < 2 ^ 57) (h : RB σ τ) (hs : σ.2 0 4 = lN q) (ht : τ.2 42 24 = lN q) : RB (sp_b_carry_L4 d z σ) (sp_m_tickB_L4 d τ) := by
  unfold sp_b_carry_L4 sp_m_tickB_L4
  exact h
theorem cl_3 {q : Nat} {z d : Int32} {σn : mmS} (hz : z = sp_w_isNoise (lN q) σn) (hq : q < 2 ^ 57) (h : RB σ τ) (hs : σ.2 0 4 = lN q) (ht : τ.2 42 24 = lN q) : RB (sp_b_carry_L3 d z σ) (sp_m_tickB_L3 d τ) := by
  have hr := h.1 3 (by decide)
  have hw : sp_m_works (3 : Int32) τ = sp_n_isAwake 3 σ := ri_works (j := 3) (by decide) hr
  unfold sp_b_carry_L3 sp_m_tickB_L3
  by_cases c1 : (3 : Int32) = d
  · rw [if_pos c1, if_pos c1]
    exact cl_4 hz hq h hs ht
  · rw [if_neg c1, if_neg c1, hw]
    by_cases c2 : sp_n_isAwake 3 σ = 0
    · rw [if_pos c2, if_pos c2]
      exact cl_4 hz hq h hs ht
    · rw [if_neg c2, if_neg c2, hs, ht, hz]
      have hO : τ.1 50 3 - τ.1 50 3 / 2 * 2 = 0 ∨ τ.1 50 3 - τ.1 50 3 / 2 * 2 = 1 := by
        have e1 : σ.1 (10 * 3 + 3) 1 = τ.1 50 3 := hr.2.2.2.2.2.2.2.2.2.1
        rw [← e1]
        exact od_cs hr.2.2.2.2.2.2.2.2.2.2.2.2.2.2.2.2.2.2.2.2.2.2.2.2.2.1
      have hC : fN 3 σ (sp_n_hear 3 (lN q) (sp_w_isNoise (lN q) σn) σ) := fn_n_hear (fN_refl σ)
      have hM : gM 3 τ (sp_m_hear (3 : Int32) (lN q) τ) := gm_hear (j := 3) (by decide) hO (gM_refl τ)
      refine cl_4 rfl hq (RB_node h hC hM (ri_hear (j := 3) (by decide) hr hq σn)) ?_ ?_
      · rw [hC.2]; exact hs
      · rw [hM.2.2.2.2 24 (by decide)]; exact ht
theorem cl_2 {q : Nat} {z d : Int32} {σn : mmS} (hz : z = sp_w_isNoise (lN q) σn) (hq : q < 2 ^ 57) (h : RB σ τ) (hs : σ.2 0 4 = lN q) (ht : τ.2 42 24 = lN q) : RB (sp_b_carry_L2 d z σ) (sp_m_tickB_L2 d τ) := by
  have hr := h.1 2 (by decide)
  have hw : sp_m_works (2 : Int32) τ = sp_n_isAwake 2 σ := ri_works (j := 2) (by decide) hr
  unfold sp_b_carry_L2 sp_m_tickB_L2
  by_cases c1 : (2 : Int32) = d
  · rw [if_pos c1, if_pos c1]
    exact cl_3 hz hq h hs ht
  · rw [if_neg c1, if_neg c1, hw]
    by_cases c2 : sp_n_isAwake 2 σ = 0
    · rw [if_pos c2, if_pos c2]
      exact cl_3 hz hq h hs ht
    · rw [if_neg c2, if_neg c2, hs, ht, hz]
      have hO : τ.1 50 2 - τ.1 50 2 / 2 * 2 = 0 ∨ τ.1 50 2 - τ.1 50 2 / 2 * 2 = 1 := by
        have e1 : σ.1 (10 * 2 + 3) 1 = τ.1 50 2 := hr.2.2.2.2.2.2.2.2.2.1
        rw [← e1]
        exact od_cs hr.2.2.2.2.2.2.2.2.2.2.2.2.2.2.2.2.2.2.2.2.2.2.2.2.2.1
      have hC : fN 2 σ (sp_n_hear 2 (lN q) (sp_w_isNoise (lN q) σn) σ) := fn_n_hear (fN_refl σ)
      have hM : gM 2 τ (sp_m_hear (2 : Int32) (lN q) τ) := gm_hear (j := 2) (by decide) hO (gM_refl τ)
      refine cl_3 rfl hq (RB_node h hC hM (ri_hear (j := 2) (by decide) hr hq σn)) ?_ ?_
      · rw [hC.2]; exact hs
      · rw [hM.2.2.2.2 24 (by decide)]; exact ht
theorem cl_1 {q : Nat} {z d : Int32} {σn : mmS} (hz : z = sp_w_isNoise (lN q) σn) (hq : q < 2 ^ 57) (h : RB σ τ) (hs : σ.2 0 4 = lN q) (ht : τ.2 42 24 = lN q) : RB (sp_b_carry_L1 d z σ) (sp_m_tickB_L1 d τ) := by
  have hr := h.1 1 (by decide)
  have hw : sp_m_works (1 : Int32) τ = sp_n_isAwake 1 σ := ri_works (j := 1) (by decide) hr
  unfold sp_b_carry_L1 sp_m_tickB_L1
  by_cases c1 : (1 : Int32) = d
  · rw [if_pos c1, if_pos c1]
    exact cl_2 hz hq h hs ht
  · rw [if_neg c1, if_neg c1, hw]
    by_cases c2 : sp_n_isAwake 1 σ = 0
    · rw [if_pos c2, if_pos c2]
      exact cl_2 hz hq h hs ht
    · rw [if_neg c2, if_neg c2, hs, ht, hz]
      have hO : τ.1 50 1 - τ.1 50 1 / 2 * 2 = 0 ∨ τ.1 50 1 - τ.1 50 1 / 2 * 2 = 1 := by
        have e1 : σ.1 (10 * 1 + 3) 1 = τ.1 50 1 := hr.2.2.2.2.2.2.2.2.2.1
        rw [← e1]
        exact od_cs hr.2.2.2.2.2.2.2.2.2.2.2.2.2.2.2.2.2.2.2.2.2.2.2.2.2.1
      have hC : fN 1 σ (sp_n_hear 1 (lN q) (sp_w_isNoise (lN q) σn) σ) := fn_n_hear (fN_refl σ)
      have hM : gM 1 τ (sp_m_hear (1 : Int32) (lN q) τ) := gm_hear (j := 1) (by decide) hO (gM_refl τ)
      refine cl_2 rfl hq (RB_node h hC hM (ri_hear (j := 1) (by decide) hr hq σn)) ?_ ?_
      · rw [hC.2]; exact hs
      · rw [hM.2.2.2.2 24 (by decide)]; exact ht
theorem cl_0 {q : Nat} {z d : Int32} {σn : mmS} (hz : z = sp_w_isNoise (lN q) σn) (hq : q < 2 ^ 57) (h : RB σ τ) (hs : σ.2 0 4 = lN q) (ht : τ.2 42 24 = lN q) : RB (sp_b_carry_L0 d z σ) (sp_m_tickB_L0 d τ) := by
  have hr := h.1 0 (by decide)
  have hw : sp_m_works (0 : Int32) τ = sp_n_isAwake 0 σ := ri_works (j := 0) (by decide) hr
  unfold sp_b_carry_L0 sp_m_tickB_L0
  by_cases c1 : (0 : Int32) = d
  · rw [if_pos c1, if_pos c1]
    exact cl_1 hz hq h hs ht
  · rw [if_neg c1, if_neg c1, hw]
    by_cases c2 : sp_n_isAwake 0 σ = 0
    · rw [if_pos c2, if_pos c2]
      exact cl_1 hz hq h hs ht
    · rw [if_neg c2, if_neg c2, hs, ht, hz]
      have hO : τ.1 50 0 - τ.1 50 0 / 2 * 2 = 0 ∨ τ.1 50 0 - τ.1 50 0 / 2 * 2 = 1 := by
        have e1 : σ.1 (10 * 0 + 3) 1 = τ.1 50 0 := hr.2.2.2.2.2.2.2.2.2.1
        rw [← e1]
        exact od_cs hr.2.2.2.2.2.2.2.2.2.2.2.2.2.2.2.2.2.2.2.2.2.2.2.2.2.1
      have hC : fN 0 σ (sp_n_hear 0 (lN q) (sp_w_isNoise (lN q) σn) σ) := fn_n_hear (fN_refl σ)
      have hM : gM 0 τ (sp_m_hear (0 : Int32) (lN q) τ) := gm_hear (j := 0) (by decide) hO (gM_refl τ)
      refine cl_1 rfl hq (RB_node h hC hM (ri_hear (j := 0) (by decide) hr hq σn)) ?_ ?_
      · rw [hC.2]; exact hs
      · rw [hM.2.2.2.2 24 (by decide)]; exact ht
theorem xor57 {a b : Nat} (ha : a < 2 ^ 57) (hb : b < 2 ^ 57) : a ^^^ b < 2 ^ 57 := Nat.xor_lt_two_pow ha hb
theorem rb_sent {s : Int32} (h : RB σ τ) : RB (mmI σ 0 3 (σ.1 0 3 + s)) (mmI τ 42 22 (τ.1 42 22 + s)) := by
  have hC : ∀ i, i < 4 → RI i (mmI σ 0 3 (σ.1 0 3 + s)) (mmI τ 42 22 (τ.1 42 22 + s)) := fun i hi => by
    have hr := h.1 i hi
    unfold RI at hr ⊢
    have z : ∀ c m, 2 ≤ c → (mmI σ 0 3 (σ.1 0 3 + s)).1 (10 * i + c) m = σ.1 (10 * i + c) m := fun c m hc => rdK (by omega)
    have y : ∀ k m, k ≠ 42 → (mmI τ 42 22 (τ.1 42 22 + s)).1 k m = τ.1 k m := fun k m hk => rdK hk
    simpa only [z, y, Nat.reduceLeDiff, ne_eq, Nat.reduceEqDiff, not_false_eq_true] using hr
  obtain ⟨b1, b2, b3, b4, b5⟩ := h.2
  refine ⟨hC, ?_, ?_, ?_, b4, ?_⟩
  · rw [rdI (by decide), rdI (by decide)]; exact b1
  · rw [rdI (by decide)]; exact b2
  · rw [rdS, rdS, b3]
  · rw [rdI (by decide)]; exact b5
theorem rb_RI {σ' τ' : mmS} (hs : σ'.1 = σ.1) (ht : ∀ k m, k ≠ 42 → τ'.1 k m = τ.1 k m) {i : Nat} (hr : RI i σ τ) : RI i σ' τ' := by
  unfold RI at hr ⊢
  rw [hs]
  simpa only [ht, ne_eq, Nat.reduceEqDiff, not_false_eq_true] using hr
theorem tk_4 {s d d' : Int32} {w w' : Int64} {s' : Int32} (hT : TL s d w s' d' w') (h : RB σ τ) : RB (sp_b_passTick_L4 s d w σ) (sp_m_tickA_L4 s' d' w' τ) := by
  obtain ⟨rfl, -, hT⟩ := hT
  have h1 := rb_sent (s := s) h
  unfold sp_b_passTick_L4 sp_m_tickA_L4
  by_cases c1 : s = 1
  · rw [if_pos c1, if_pos c1]
    obtain ⟨rfl, rfl, q, hq, rfl⟩ := hT.resolve_left (fun z => by rw [z] at c1; exact absurd c1 (by decide))
    generalize mmI σ 0 3 (σ.1 0 3 + s) = σ at h1
    generalize mmI τ 42 22 (τ.1 42 22 + s) = τ at h1
    obtain ⟨hR, b1, b2, b3, ⟨e, he, e1, e2⟩, b5⟩ := h1
    have hx : lN q ^^^ lN e = lN (q ^^^ e) := lN_xor (by omega) (by omega)
    have hxl := xor57 hq he
    unfold sp_b_carry
    rw [e1, e2, hx]
    have f1 : (mmJ (mmJ σ 0 4 (lN (q ^^^ e))) 0 1 0).1 = σ.1 := rfl
    have f2 : ∀ k m, k ≠ 42 → (mmJ (mmI (mmJ τ 42 24 (lN (q ^^^ e))) 42 25 1) 42 26 0).1 k m = τ.1 k m := fun k m hk => by rw [rdJ1, rdK hk]; rfl
    have f3 : (mmJ (mmI (mmJ τ 42 24 (lN (q ^^^ e))) 42 25 1) 42 26 0).1 42 27 = τ.1 42 27 := by rw [rdJ1, rdI (by decide)]; rfl
    have g1 : (mmJ (mmJ σ 0 4 (lN (q ^^^ e))) 0 1 0).2 0 4 = lN (q ^^^ e) := by rw [rdJ2 (by decide), rdJS]
    have g2 : (mmJ (mmI (mmJ τ 42 24 (lN (q ^^^ e))) 42 25 1) 42 26 0).2 42 24 = lN (q ^^^ e) := by
      rw [rdJ2 (by decide)]
      show (mmJ τ 42 24 (lN (q ^^^ e))).2 42 24 = lN (q ^^^ e)
      exact rdJS
    have hb : BI (mmJ (mmJ σ 0 4 (lN (q ^^^ e))) 0 1 0) (mmJ (mmI (mmJ τ 42 24 (lN (q ^^^ e))) 42 25 1) 42 26 0) := by
      refine ⟨?_, ?_, ?_, ⟨0, by decide, rdJS, rdJS⟩, Or.inr ⟨?_, q ^^^ e, hxl, g1, g2⟩⟩
      · rw [f1, f3]; exact b1
      · rw [f1]; exact b2
      · rw [f1, rdJ1, rdI (by decide)]; exact b3
      · rw [rdJ1, rdS]
    have hB : RB (mmJ (mmJ σ 0 4 (lN (q ^^^ e))) 0 1 0) (mmJ (mmI (mmJ τ 42 24 (lN (q ^^^ e))) 42 25 1) 42 26 0) := ⟨fun i hi => rb_RI f1 f2 (hR i hi), hb⟩
    rw [f3, f1, b1]
    by_cases c2 : τ.1 42 27 ≤ 0
    · rw [if_pos c2, if_pos c2, g1]
      exact cl_0 rfl hxl hB g1 g2
    · rw [if_neg c2, if_neg c2]
      have hl : rg (τ.1 42 27 - 1) 0 1000 := by
        rw [b1] at b2
        rw [Int32.le_iff_toInt_le] at c2
        obtain ⟨p1, p2⟩ := b2
        have ei : (1 : Int32).toInt = 1 := by decide
        unfold rg
        rw [ti_sub (by omega) (by omega) (by decide) (by decide), ei]
        rw [i0] at c2
        omega
      refine ⟨fun i hi => ?_, ?_, ?_, ?_, hb.2.2.2.1, ?_⟩
      · have hr := hB.1 i hi
        unfold RI at hr ⊢
        have z : ∀ c m, 2 ≤ c → (mmI (mmJ (mmJ σ 0 4 (lN (q ^^^ e))) 0 1 0) 0 2 (τ.1 42 27 - 1)).1 (10 * i + c) m = (mmJ (mmJ σ 0 4 (lN (q ^^^ e))) 0 1 0).1 (10 * i + c) m := fun c m hc => rdK (by omega)
        have y : ∀ k m, k ≠ 42 → (mmI (mmJ (mmI (mmJ τ 42 24 (lN (q ^^^ e))) 42 25 1) 42 26 0) 42 27 (τ.1 42 27 - 1)).1 k m = (mmJ (mmI (mmJ τ 42 24 (lN (q ^^^ e))) 42 25 1) 42 26 0).1 k m := fun k m hk => rdK hk
        simpa only [z, y, Nat.reduceLeDiff, ne_eq, Nat.reduceEqDiff, not_false_eq_true] using hr
      · rw [rdS, rdS]
      · rw [rdS]; exact hl
      · rw [rdI (by decide), rdI (by decide)]; exact hb.2.2.1
      · rw [rdI (by decide)]; exact hb.2.2.2.2
  · rw [if_neg c1, if_neg c1]
    exact h1
def TLk (k : Nat) (s d : Int32) (w : Int64) (s' d' : Int32) (w' : Int64) : Prop := s = s' ∧ (∃ n, n ≤ k ∧ s = Int32.ofNat n) ∧ (s = 0 ∨ (d = d' ∧ w = w' ∧ ∃ q, q < 2 ^ 57 ∧ w = lN q))
theorem tlk_same {k : Nat} {s d s' d' : Int32} {w w' : Int64} (h : TLk k s d w s' d' w') : TLk (k + 1) s d w s' d' w' := by
  obtain ⟨a, ⟨n, b, c⟩, e⟩ := h
  exact ⟨a, ⟨n, by omega, c⟩, e⟩
theorem tlk_up {k : Nat} {s d s' d' z : Int32} {w w' y : Int64} (h : TLk k s d w s' d' w') (hq : ∃ q, q < 2 ^ 57 ∧ y = lN q) : TLk (k + 1) (s + Int32.ofInt 1) z y (s' + Int32.ofInt 1) z y := by
  obtain ⟨rfl, ⟨n, b, rfl⟩, -⟩ := h
  exact ⟨rfl, ⟨n + 1, by omega, (li_add n 1).symm⟩, Or.inr ⟨rfl, rfl, hq⟩⟩
theorem tl_of {k : Nat} {s d s' d' : Int32} {w w' : Int64} (h : TLk k s d w s' d' w') : TL s d w s' d' w' := ⟨h.1, trivial, h.2.2⟩
theorem tk_3 {s d d' : Int32} {w w' : Int64} {s' : Int32} (hT : TLk 3 s d w s' d' w') (h : RB σ τ) : RB (sp_b_passTick_L3 s d w σ) (sp_m_tickA_L3 s' d' w' τ) := by
  have hr := h.1 3 (by decide)
  have hC : fN 3 σ (sp_n_passTick 3 σ).2 := fn_n_passTick (fN_refl σ)
  unfold sp_b_passTick_L3 sp_m_tickA_L3
  have hstep := ri_ptick (j := 3) (by decide) hr
  rcases hstep with ⟨a1, a2⟩ | ⟨a1, a2, a3, a4⟩ | ⟨a1, a2, a3, a4⟩
  · have a1 : sp_m_works (3 : Int32) τ = 0 := a1
    rw [a2, if_pos lg_m1, if_pos a1]
    exact tk_4 (tl_of (tlk_same hT)) h
  · have a1 : ¬ sp_m_works (3 : Int32) τ = 0 := a1
    have hM : gM 3 τ (mmI (mmI τ 45 3 ((τ.1 45 3 + 1000) - τ.1 43 3)) 45 3 ((τ.1 45 3 + 1000) - τ.1 43 3)) := gM_I (by decide) (gM_I (by decide) (gM_refl τ))
    rw [a3, if_pos lg_m1, if_neg a1, if_pos a2]
    exact tk_4 (tl_of (tlk_same hT)) (RB_node h hC hM a4)
  · have a1 : ¬ sp_m_works (3 : Int32) τ = 0 := a1
    have hM : gM 3 τ (sp_m_passes (3 : Int32) (mmI (mmI τ 45 3 ((τ.1 45 3 + 1000) - τ.1 43 3)) 45 3 (((τ.1 45 3 + 1000) - τ.1 43 3) - 1000))).2 := gm_passes (j := 3) (by decide) (gM_I (by decide) (gM_I (by decide) (gM_refl τ)))
    have hB := RB_node h hC hM a3
    rw [if_neg a1, if_neg a2]
    rcases a4 with ⟨b1, b2⟩ | ⟨b1, b2, q, hq, b3⟩
    · have b2 : (sp_m_passes (3 : Int32) (mmI (mmI τ 45 3 ((τ.1 45 3 + 1000) - τ.1 43 3)) 45 3 (((τ.1 45 3 + 1000) - τ.1 43 3) - 1000))).1 = 0 := b2
      rw [b1, if_pos lg_m1, if_pos b2]
      exact tk_4 (tl_of (tlk_same hT)) hB
    · have b1 : (sp_m_passes (3 : Int32) (mmI (mmI τ 45 3 ((τ.1 45 3 + 1000) - τ.1 43 3)) 45 3 (((τ.1 45 3 + 1000) - τ.1 43 3) - 1000))).1 = 1 := b1
      have b2 : (sp_m_passes (3 : Int32) (mmI (mmI τ 45 3 ((τ.1 45 3 + 1000) - τ.1 43 3)) 45 3 (((τ.1 45 3 + 1000) - τ.1 43 3) - 1000))).2.2 42 23 = (sp_n_passTick 3 σ).1 := b2
      rw [if_neg (by rw [b3]; exact lg_ne hq), if_neg (by rw [b1]; decide), b2]
      exact tk_4 (tl_of (tlk_up hT ⟨q, hq, b3⟩)) hB
theorem tk_2 {s d d' : Int32} {w w' : Int64} {s' : Int32} (hT : TLk 2 s d w s' d' w') (h : RB σ τ) : RB (sp_b_passTick_L2 s d w σ) (sp_m_tickA_L2 s' d' w' τ) := by
  have hr := h.1 2 (by decide)
  have hC : fN 2 σ (sp_n_passTick 2 σ).2 := fn_n_passTick (fN_refl σ)
  unfold sp_b_passTick_L2 sp_m_tickA_L2
  have hstep := ri_ptick (j := 2) (by decide) hr
  rcases hstep with ⟨a1, a2⟩ | ⟨a1, a2, a3, a4⟩ | ⟨a1, a2, a3, a4⟩
  · have a1 : sp_m_works (2 : Int32) τ = 0 := a1
    rw [a2, if_pos lg_m1, if_pos a1]
    exact tk_3 (tlk_same hT) h
  · have a1 : ¬ sp_m_works (2 : Int32) τ = 0 := a1
    have hM : gM 2 τ (mmI (mmI τ 45 2 ((τ.1 45 2 + 1000) - τ.1 43 2)) 45 2 ((τ.1 45 2 + 1000) - τ.1 43 2)) := gM_I (by decide) (gM_I (by decide) (gM_refl τ))
    rw [a3, if_pos lg_m1, if_neg a1, if_pos a2]
    exact tk_3 (tlk_same hT) (RB_node h hC hM a4)
  · have a1 : ¬ sp_m_works (2 : Int32) τ = 0 := a1
    have hM : gM 2 τ (sp_m_passes (2 : Int32) (mmI (mmI τ 45 2 ((τ.1 45 2 + 1000) - τ.1 43 2)) 45 2 (((τ.1 45 2 + 1000) - τ.1 43 2) - 1000))).2 := gm_passes (j := 2) (by decide) (gM_I (by decide) (gM_I (by decide) (gM_refl τ)))
    have hB := RB_node h hC hM a3
    rw [if_neg a1, if_neg a2]
    rcases a4 with ⟨b1, b2⟩ | ⟨b1, b2, q, hq, b3⟩
    · have b2 : (sp_m_passes (2 : Int32) (mmI (mmI τ 45 2 ((τ.1 45 2 + 1000) - τ.1 43 2)) 45 2 (((τ.1 45 2 + 1000) - τ.1 43 2) - 1000))).1 = 0 := b2
      rw [b1, if_pos lg_m1, if_pos b2]
      exact tk_3 (tlk_same hT) hB
    · have b1 : (sp_m_passes (2 : Int32) (mmI (mmI τ 45 2 ((τ.1 45 2 + 1000) - τ.1 43 2)) 45 2 (((τ.1 45 2 + 1000) - τ.1 43 2) - 1000))).1 = 1 := b1
      have b2 : (sp_m_passes (2 : Int32) (mmI (mmI τ 45 2 ((τ.1 45 2 + 1000) - τ.1 43 2)) 45 2 (((τ.1 45 2 + 1000) - τ.1 43 2) - 1000))).2.2 42 23 = (sp_n_passTick 2 σ).1 := b2
      rw [if_neg (by rw [b3]; exact lg_ne hq), if_neg (by rw [b1]; decide), b2]
      exact tk_3 (tlk_up hT ⟨q, hq, b3⟩) hB
theorem tk_1 {s d d' : Int32} {w w' : Int64} {s' : Int32} (hT : TLk 1 s d w s' d' w') (h : RB σ τ) : RB (sp_b_passTick_L1 s d w σ) (sp_m_tickA_L1 s' d' w' τ) := by
  have hr := h.1 1 (by decide)
  have hC : fN 1 σ (sp_n_passTick 1 σ).2 := fn_n_passTick (fN_refl σ)
  unfold sp_b_passTick_L1 sp_m_tickA_L1
  have hstep := ri_ptick (j := 1) (by decide) hr
  rcases hstep with ⟨a1, a2⟩ | ⟨a1, a2, a3, a4⟩ | ⟨a1, a2, a3, a4⟩
  · have a1 : sp_m_works (1 : Int32) τ = 0 := a1
    rw [a2, if_pos lg_m1, if_pos a1]
    exact tk_2 (tlk_same hT) h
  · have a1 : ¬ sp_m_works (1 : Int32) τ = 0 := a1
    have hM : gM 1 τ (mmI (mmI τ 45 1 ((τ.1 45 1 + 1000) - τ.1 43 1)) 45 1 ((τ.1 45 1 + 1000) - τ.1 43 1)) := gM_I (by decide) (gM_I (by decide) (gM_refl τ))
    rw [a3, if_pos lg_m1, if_neg a1, if_pos a2]
    exact tk_2 (tlk_same hT) (RB_node h hC hM a4)
  · have a1 : ¬ sp_m_works (1 : Int32) τ = 0 := a1
    have hM : gM 1 τ (sp_m_passes (1 : Int32) (mmI (mmI τ 45 1 ((τ.1 45 1 + 1000) - τ.1 43 1)) 45 1 (((τ.1 45 1 + 1000) - τ.1 43 1) - 1000))).2 := gm_passes (j := 1) (by decide) (gM_I (by decide) (gM_I (by decide) (gM_refl τ)))
    have hB := RB_node h hC hM a3
    rw [if_neg a1, if_neg a2]
    rcases a4 with ⟨b1, b2⟩ | ⟨b1, b2, q, hq, b3⟩
    · have b2 : (sp_m_passes (1 : Int32) (mmI (mmI τ 45 1 ((τ.1 45 1 + 1000) - τ.1 43 1)) 45 1 (((τ.1 45 1 + 1000) - τ.1 43 1) - 1000))).1 = 0 := b2
      rw [b1, if_pos lg_m1, if_pos b2]
      exact tk_2 (tlk_same hT) hB
    · have b1 : (sp_m_passes (1 : Int32) (mmI (mmI τ 45 1 ((τ.1 45 1 + 1000) - τ.1 43 1)) 45 1 (((τ.1 45 1 + 1000) - τ.1 43 1) - 1000))).1 = 1 := b1
      have b2 : (sp_m_passes (1 : Int32) (mmI (mmI τ 45 1 ((τ.1 45 1 + 1000) - τ.1 43 1)) 45 1 (((τ.1 45 1 + 1000) - τ.1 43 1) - 1000))).2.2 42 23 = (sp_n_passTick 1 σ).1 := b2
      rw [if_neg (by rw [b3]; exact lg_ne hq), if_neg (by rw [b1]; decide), b2]
      exact tk_2 (tlk_up hT ⟨q, hq, b3⟩) hB
theorem tk_0 {s d d' : Int32} {w w' : Int64} {s' : Int32} (hT : TLk 0 s d w s' d' w') (h : RB σ τ) : RB (sp_b_passTick_L0 s d w σ) (sp_m_tickA_L0 s' d' w' τ) := by
  have hr := h.1 0 (by decide)
  have hC : fN 0 σ (sp_n_passTick 0 σ).2 := fn_n_passTick (fN_refl σ)
  unfold sp_b_passTick_L0 sp_m_tickA_L0
  have hstep := ri_ptick (j := 0) (by decide) hr
  rcases hstep with ⟨a1, a2⟩ | ⟨a1, a2, a3, a4⟩ | ⟨a1, a2, a3, a4⟩
  · have a1 : sp_m_works (0 : Int32) τ = 0 := a1
    rw [a2, if_pos lg_m1, if_pos a1]
    exact tk_1 (tlk_same hT) h
  · have a1 : ¬ sp_m_works (0 : Int32) τ = 0 := a1
    have hM : gM 0 τ (mmI (mmI τ 45 0 ((τ.1 45 0 + 1000) - τ.1 43 0)) 45 0 ((τ.1 45 0 + 1000) - τ.1 43 0)) := gM_I (by decide) (gM_I (by decide) (gM_refl τ))
    rw [a3, if_pos lg_m1, if_neg a1, if_pos a2]
    exact tk_1 (tlk_same hT) (RB_node h hC hM a4)
  · have a1 : ¬ sp_m_works (0 : Int32) τ = 0 := a1
    have hM : gM 0 τ (sp_m_passes (0 : Int32) (mmI (mmI τ 45 0 ((τ.1 45 0 + 1000) - τ.1 43 0)) 45 0 (((τ.1 45 0 + 1000) - τ.1 43 0) - 1000))).2 := gm_passes (j := 0) (by decide) (gM_I (by decide) (gM_I (by decide) (gM_refl τ)))
    have hB := RB_node h hC hM a3
    rw [if_neg a1, if_neg a2]
    rcases a4 with ⟨b1, b2⟩ | ⟨b1, b2, q, hq, b3⟩
    · have b2 : (sp_m_passes (0 : Int32) (mmI (mmI τ 45 0 ((τ.1 45 0 + 1000) - τ.1 43 0)) 45 0 (((τ.1 45 0 + 1000) - τ.1 43 0) - 1000))).1 = 0 := b2
      rw [b1, if_pos lg_m1, if_pos b2]
      exact tk_1 (tlk_same hT) hB
    · have b1 : (sp_m_passes (0 : Int32) (mmI (mmI τ 45 0 ((τ.1 45 0 + 1000) - τ.1 43 0)) 45 0 (((τ.1 45 0 + 1000) - τ.1 43 0) - 1000))).1 = 1 := b1
      have b2 : (sp_m_passes (0 : Int32) (mmI (mmI τ 45 0 ((τ.1 45 0 + 1000) - τ.1 43 0)) 45 0 (((τ.1 45 0 + 1000) - τ.1 43 0) - 1000))).2.2 42 23 = (sp_n_passTick 0 σ).1 := b2
      rw [if_neg (by rw [b3]; exact lg_ne hq), if_neg (by rw [b1]; decide), b2]
      exact tk_1 (tlk_up hT ⟨q, hq, b3⟩) hB
theorem rb_tick (h : RB σ τ) : RB (sp_b_passTick σ) (sp_m_tick τ) := by
  unfold sp_b_passTick sp_m_tick
  exact tk_0 ⟨rfl, ⟨0, by decide, rfl⟩, Or.inl rfl⟩ h
theorem rb_run : ∀ (n : Nat) {σ τ : mmS}, RB σ τ → RB (runB n σ) (runM n τ)
  | 0, _, _, h => h
  | n + 1, _, _, h => rb_run n (rb_tick h)
end BU
