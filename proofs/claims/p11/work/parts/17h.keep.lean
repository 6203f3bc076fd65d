/-! what the reference's calls leave alone; the calls, class and reference side by side -/
section FO
/-- the class's cells, the out array and 'thrown' have not changed -/
def hT (τ0 τ : mmS) : Prop := (∀ k, k < 42 → τ.1 k = τ0.1 k) ∧ (∀ k, k ≠ 42 → τ.2 k = τ0.2 k) ∧ τ.1 42 0 = τ0.1 42 0
theorem hT_refl (τ : mmS) : hT τ τ := ⟨fun _ _ => rfl, fun _ _ => rfl, rfl⟩
theorem hT_I {k i : Nat} {v : Int32} {τ0 τ : mmS} (hk : 43 ≤ k) (h : hT τ0 τ) : hT τ0 (mmI τ k i v) := by
  refine ⟨fun q hq => ?_, h.2.1, ?_⟩
  · show (if q = k then upd (τ.1 k) i v else τ.1 q) = τ0.1 q
    rw [if_neg (by omega)]
    exact h.1 q hq
  · rw [rdK (by omega)]; exact h.2.2
theorem hT_42 {i : Nat} {v : Int32} {τ0 τ : mmS} (hi : i ≠ 0) (h : hT τ0 τ) : hT τ0 (mmI τ 42 i v) := by
  refine ⟨fun q hq => ?_, h.2.1, ?_⟩
  · show (if q = 42 then upd (τ.1 42) i v else τ.1 q) = τ0.1 q
    rw [if_neg (by omega)]
    exact h.1 q hq
  · rw [rdI (Ne.symm hi)]; exact h.2.2
theorem hT_J {i : Nat} {v : Int64} {τ0 τ : mmS} (h : hT τ0 τ) : hT τ0 (mmJ τ 42 i v) := by
  refine ⟨h.1, fun q hq => ?_, h.2.2⟩
  show (if q = 42 then vp_updL (τ.2 42) i v else τ.2 q) = τ0.2 q
  rw [if_neg hq]
  exact h.2.1 q hq
theorem hT_ite {c : Prop} [Decidable c] {τ0 x y : mmS} (h1 : hT τ0 x) (h2 : hT τ0 y) : hT τ0 (if c then x else y) := ite_P (hT τ0) (fun _ => h1) (fun _ => h2)
theorem hT_ite2 {α : Type} {c : Prop} [Decidable c] {τ0 : mmS} {x y : α × mmS} (h1 : hT τ0 x.2) (h2 : hT τ0 y.2) : hT τ0 (if c then x else y).2 := ite_P (fun q : α × mmS => hT τ0 q.2) (fun _ => h1) (fun _ => h2)
theorem ht_forget {τ0 τ : mmS} {a0 : Int32} (h : hT τ0 τ) : hT τ0 (sp_m_forget a0 τ) := by
  unfold sp_m_forget
  repeat' (with_reducible first | exact h | refine hT_I (by decide) ?_ | refine hT_42 (by decide) ?_ | refine hT_J ?_ | refine hT_ite ?_ ?_)
theorem ht_listen {τ0 τ : mmS} {a0 : Int32} (h : hT τ0 τ) : hT τ0 (sp_m_listen a0 τ) := by
  unfold sp_m_listen
  repeat' (with_reducible first | exact h | refine ht_forget ?_ | refine hT_I (by decide) ?_ | refine hT_42 (by decide) ?_ | refine hT_J ?_ | refine hT_ite ?_ ?_)
theorem ht_begin {τ0 τ : mmS} {a0 : Int32} {a1 : Int32} {a2 : Int32} {a3 : Int32} {a4 : Int32} {a5 : Int32} (h : hT τ0 τ) : hT τ0 (sp_m_begin a0 a1 a2 a3 a4 a5 τ) := by
  unfold sp_m_begin
  repeat' (with_reducible first | exact h | refine ht_forget ?_ | refine hT_I (by decide) ?_ | refine hT_42 (by decide) ?_ | refine hT_J ?_ | refine hT_ite ?_ ?_)
theorem ht_decide {τ0 τ : mmS} {a0 : Int32} {a1 : Int32} (h : hT τ0 τ) : hT τ0 (sp_m_decide a0 a1 τ) := by
  unfold sp_m_decide
  repeat' (with_reducible first | exact h | refine ht_listen ?_ | refine hT_I (by decide) ?_ | refine hT_42 (by decide) ?_ | refine hT_J ?_ | refine hT_ite ?_ ?_)
theorem ht_reflB_L4 {τ0 τ : mmS} {a0 : Int32} {b : Int32} (h : hT τ0 τ) : hT τ0 (sp_m_reflB_L4 a0 b τ) := by
  unfold sp_m_reflB_L4
  repeat' (with_reducible first | exact h | refine ht_decide ?_ | refine hT_I (by decide) ?_ | refine hT_42 (by decide) ?_ | refine hT_J ?_ | refine hT_ite ?_ ?_)
theorem ht_reflB_L3 {τ0 τ : mmS} {a0 : Int32} {b : Int32} (h : hT τ0 τ) : hT τ0 (sp_m_reflB_L3 a0 b τ) := by
  unfold sp_m_reflB_L3
  repeat' (with_reducible first | exact h | refine ht_reflB_L4 ?_ | refine hT_I (by decide) ?_ | refine hT_42 (by decide) ?_ | refine hT_J ?_ | refine hT_ite ?_ ?_)
theorem ht_reflB_L2 {τ0 τ : mmS} {a0 : Int32} {b : Int32} (h : hT τ0 τ) : hT τ0 (sp_m_reflB_L2 a0 b τ) := by
  unfold sp_m_reflB_L2
  repeat' (with_reducible first | exact h | refine ht_reflB_L3 ?_ | refine hT_I (by decide) ?_ | refine hT_42 (by decide) ?_ | refine hT_J ?_ | refine hT_ite ?_ ?_)
theorem ht_reflB_L1 {τ0 τ : mmS} {a0 : Int32} {b : Int32} (h : hT τ0 τ) : hT τ0 (sp_m_reflB_L1 a0 b τ) := by
  unfold sp_m_reflB_L1
  repeat' (with_reducible first | exact h | refine ht_reflB_L2 ?_ | refine hT_I (by decide) ?_ | refine hT_42 (by decide) ?_ | refine hT_J ?_ | refine hT_ite ?_ ?_)
theorem ht_reflB_L0 {τ0 τ : mmS} {a0 : Int32} {b : Int32} (h : hT τ0 τ) : hT τ0 (sp_m_reflB_L0 a0 b τ) := by
  unfold sp_m_reflB_L0
  repeat' (with_reducible first | exact h | refine ht_reflB_L1 ?_ | refine hT_I (by decide) ?_ | refine hT_42 (by decide) ?_ | refine hT_J ?_ | refine hT_ite ?_ ?_)
theorem ht_reflA_L4 {τ0 τ : mmS} {a0 : Int32} {b : Int32} (h : hT τ0 τ) : hT τ0 (sp_m_reflA_L4 a0 b τ) := by
  unfold sp_m_reflA_L4
  repeat' (with_reducible first | exact h | refine ht_reflB_L0 ?_ | refine hT_I (by decide) ?_ | refine hT_42 (by decide) ?_ | refine hT_J ?_ | refine hT_ite ?_ ?_)
theorem ht_reflA_L3 {τ0 τ : mmS} {a0 : Int32} {b : Int32} (h : hT τ0 τ) : hT τ0 (sp_m_reflA_L3 a0 b τ) := by
  unfold sp_m_reflA_L3
  repeat' (with_reducible first | exact h | refine ht_reflA_L4 ?_ | refine hT_I (by decide) ?_ | refine hT_42 (by decide) ?_ | refine hT_J ?_ | refine hT_ite ?_ ?_)
theorem ht_reflA_L2 {τ0 τ : mmS} {a0 : Int32} {b : Int32} (h : hT τ0 τ) : hT τ0 (sp_m_reflA_L2 a0 b τ) := by
  unfold sp_m_reflA_L2
  repeat' (with_reducible first | exact h | refine ht_reflA_L3 ?_ | refine hT_I (by decide) ?_ | refine hT_42 (by decide) ?_ | refine hT_J ?_ | refine hT_ite ?_ ?_)
theorem ht_reflA_L1 {τ0 τ : mmS} {a0 : Int32} {b : Int32} (h : hT τ0 τ) : hT τ0 (sp_m_reflA_L1 a0 b τ) := by
  unfold sp_m_reflA_L1
  repeat' (with_reducible first | exact h | refine ht_reflA_L2 ?_ | refine hT_I (by decide) ?_ | refine hT_42 (by decide) ?_ | refine hT_J ?_ | refine hT_ite ?_ ?_)
theorem ht_reflA_L0 {τ0 τ : mmS} {a0 : Int32} {b : Int32} (h : hT τ0 τ) : hT τ0 (sp_m_reflA_L0 a0 b τ) := by
  unfold sp_m_reflA_L0
  repeat' (with_reducible first | exact h | refine ht_reflA_L1 ?_ | refine hT_I (by decide) ?_ | refine hT_42 (by decide) ?_ | refine hT_J ?_ | refine hT_ite ?_ ?_)
theorem ht_reflect {τ0 τ : mmS} {a0 : Int32} (h : hT τ0 τ) : hT τ0 (sp_m_reflect a0 τ) := by
  unfold sp_m_reflect
  repeat' (with_reducible first | exact h | refine ht_reflA_L0 ?_ | refine hT_I (by decide) ?_ | refine hT_42 (by decide) ?_ | refine hT_J ?_ | refine hT_ite ?_ ?_)
theorem ht_sends {τ0 τ : mmS} {a0 : Int32} (h : hT τ0 τ) : hT τ0 (sp_m_sends a0 τ).2 := by
  unfold sp_m_sends
  repeat' (with_reducible first | exact h | refine hT_I (by decide) ?_ | refine hT_42 (by decide) ?_ | refine hT_J ?_ | refine hT_ite ?_ ?_ | refine hT_ite2 ?_ ?_)
theorem ht_passes_278 {τ0 τ : mmS} {i1 : Int32} (h : hT τ0 τ) : hT τ0 (sp_m_passes_278 i1 τ).2 := by
  unfold sp_m_passes_278
  repeat' (with_reducible first | exact h | refine ht_sends ?_ | refine hT_I (by decide) ?_ | refine hT_42 (by decide) ?_ | refine hT_J ?_ | refine hT_ite ?_ ?_ | refine hT_ite2 ?_ ?_)
theorem ht_passes_255 {τ0 τ : mmS} {i1 : Int32} {i3 : Int32} (h : hT τ0 τ) : hT τ0 (sp_m_passes_255 i1 i3 τ).2 := by
  unfold sp_m_passes_255
  repeat' (with_reducible first | exact h | refine ht_passes_278 ?_ | refine ht_reflect ?_ | refine hT_I (by decide) ?_ | refine hT_42 (by decide) ?_ | refine hT_J ?_ | refine hT_ite ?_ ?_ | refine hT_ite2 ?_ ?_)
theorem ht_passes_168 {τ0 τ : mmS} {i1 : Int32} (h : hT τ0 τ) : hT τ0 (sp_m_passes_168 i1 τ).2 := by
  unfold sp_m_passes_168
  repeat' (with_reducible first | exact h | refine ht_passes_255 ?_ | refine hT_I (by decide) ?_ | refine hT_42 (by decide) ?_ | refine hT_J ?_ | refine hT_ite ?_ ?_ | refine hT_ite2 ?_ ?_)
theorem ht_passes {τ0 τ : mmS} {i1 : Int32} (h : hT τ0 τ) : hT τ0 (sp_m_passes i1 τ).2 := by
  unfold sp_m_passes
  repeat' (with_reducible first | exact h | refine ht_passes_168 ?_ | refine ht_forget ?_ | refine ht_begin ?_ | refine hT_I (by decide) ?_ | refine hT_42 (by decide) ?_ | refine hT_J ?_ | refine hT_ite ?_ ?_ | refine hT_ite2 ?_ ?_)
theorem ht_notice {τ0 τ : mmS} {a0 : Int32} {a1 : Int32} {a2 : Int32} (h : hT τ0 τ) : hT τ0 (sp_m_notice a0 a1 a2 τ) := by
  unfold sp_m_notice
  repeat' (with_reducible first | exact h | refine ht_begin ?_ | refine hT_I (by decide) ?_ | refine hT_42 (by decide) ?_ | refine hT_J ?_ | refine hT_ite ?_ ?_)
theorem ht_hear {τ0 τ : mmS} {a0 : Int32} {a1 : Int64} (h : hT τ0 τ) : hT τ0 (sp_m_hear a0 a1 τ) := by
  unfold sp_m_hear
  repeat' (with_reducible first | exact h | refine ht_listen ?_ | refine ht_notice ?_ | refine hT_I (by decide) ?_ | refine hT_42 (by decide) ?_ | refine hT_J ?_ | refine hT_ite ?_ ?_)
theorem ht_tickB_L4 {τ0 τ : mmS} {d : Int32} (h : hT τ0 τ) : hT τ0 (sp_m_tickB_L4 d τ) := by
  unfold sp_m_tickB_L4
  repeat' (with_reducible first | exact h | refine hT_I (by decide) ?_ | refine hT_42 (by decide) ?_ | refine hT_J ?_ | refine hT_ite ?_ ?_)
theorem ht_tickB_L3 {τ0 τ : mmS} {d : Int32} (h : hT τ0 τ) : hT τ0 (sp_m_tickB_L3 d τ) := by
  unfold sp_m_tickB_L3
  repeat' (with_reducible first | exact h | refine ht_tickB_L4 ?_ | refine ht_hear ?_ | refine hT_I (by decide) ?_ | refine hT_42 (by decide) ?_ | refine hT_J ?_ | refine hT_ite ?_ ?_)
theorem ht_tickB_L2 {τ0 τ : mmS} {d : Int32} (h : hT τ0 τ) : hT τ0 (sp_m_tickB_L2 d τ) := by
  unfold sp_m_tickB_L2
  repeat' (with_reducible first | exact h | refine ht_tickB_L3 ?_ | refine ht_hear ?_ | refine hT_I (by decide) ?_ | refine hT_42 (by decide) ?_ | refine hT_J ?_ | refine hT_ite ?_ ?_)
theorem ht_tickB_L1 {τ0 τ : mmS} {d : Int32} (h : hT τ0 τ) : hT τ0 (sp_m_tickB_L1 d τ) := by
  unfold sp_m_tickB_L1
  repeat' (with_reducible first | exact h | refine ht_tickB_L2 ?_ | refine ht_hear ?_ | refine hT_I (by decide) ?_ | refine hT_42 (by decide) ?_ | refine hT_J ?_ | refine hT_ite ?_ ?_)
theorem ht_tickB_L0 {τ0 τ : mmS} {d : Int32} (h : hT τ0 τ) : hT τ0 (sp_m_tickB_L0 d τ) := by
  unfold sp_m_tickB_L0
  repeat' (with_reducible first | exact h | refine ht_tickB_L1 ?_ | refine ht_hear ?_ | refine hT_I (by decide) ?_ | refine hT_42 (by decide) ?_ | refine hT_J ?_ | refine hT_ite ?_ ?_)
theorem ht_tickA_L4 {τ0 τ : mmS} {s : Int32} {d : Int32} {w : Int64} (h : hT τ0 τ) : hT τ0 (sp_m_tickA_L4 s d w τ) := by
  unfold sp_m_tickA_L4
  repeat' (with_reducible first | exact h | refine ht_tickB_L0 ?_ | refine hT_I (by decide) ?_ | refine hT_42 (by decide) ?_ | refine hT_J ?_ | refine hT_ite ?_ ?_)
theorem ht_tickA_L3 {τ0 τ : mmS} {s : Int32} {d : Int32} {w : Int64} (h : hT τ0 τ) : hT τ0 (sp_m_tickA_L3 s d w τ) := by
  unfold sp_m_tickA_L3
  repeat' (with_reducible first | exact h | refine ht_tickA_L4 ?_ | refine ht_passes ?_ | refine hT_I (by decide) ?_ | refine hT_42 (by decide) ?_ | refine hT_J ?_ | refine hT_ite ?_ ?_)
theorem ht_tickA_L2 {τ0 τ : mmS} {s : Int32} {d : Int32} {w : Int64} (h : hT τ0 τ) : hT τ0 (sp_m_tickA_L2 s d w τ) := by
  unfold sp_m_tickA_L2
  repeat' (with_reducible first | exact h | refine ht_tickA_L3 ?_ | refine ht_passes ?_ | refine hT_I (by decide) ?_ | refine hT_42 (by decide) ?_ | refine hT_J ?_ | refine hT_ite ?_ ?_)
theorem ht_tickA_L1 {τ0 τ : mmS} {s : Int32} {d : Int32} {w : Int64} (h : hT τ0 τ) : hT τ0 (sp_m_tickA_L1 s d w τ) := by
  unfold sp_m_tickA_L1
  repeat' (with_reducible first | exact h | refine ht_tickA_L2 ?_ | refine ht_passes ?_ | refine hT_I (by decide) ?_ | refine hT_42 (by decide) ?_ | refine hT_J ?_ | refine hT_ite ?_ ?_)
theorem ht_tickA_L0 {τ0 τ : mmS} {s : Int32} {d : Int32} {w : Int64} (h : hT τ0 τ) : hT τ0 (sp_m_tickA_L0 s d w τ) := by
  unfold sp_m_tickA_L0
  repeat' (with_reducible first | exact h | refine ht_tickA_L1 ?_ | refine ht_passes ?_ | refine hT_I (by decide) ?_ | refine hT_42 (by decide) ?_ | refine hT_J ?_ | refine hT_ite ?_ ?_)
theorem ht_tick {τ0 τ : mmS}  (h : hT τ0 τ) : hT τ0 (sp_m_tick τ) := by
  unfold sp_m_tick
  repeat' (with_reducible first | exact h | refine ht_tickA_L0 ?_ | refine hT_I (by decide) ?_ | refine hT_42 (by decide) ?_ | refine hT_J ?_ | refine hT_ite ?_ ?_)
theorem ht_run {τ0 : mmS} : ∀ (n : Nat) {τ : mmS}, hT τ0 τ → hT τ0 (runM n τ)
  | 0, _, h => h
  | n + 1, _, h => ht_run n (ht_tick h)
/-- as hT, 'thrown' aside -/
def hO (τ0 τ : mmS) : Prop := (∀ k, k < 42 → τ.1 k = τ0.1 k) ∧ (∀ k, k ≠ 42 → τ.2 k = τ0.2 k)
theorem hO_refl (τ : mmS) : hO τ τ := ⟨fun _ _ => rfl, fun _ _ => rfl⟩
theorem hO_trans {τ0 τ1 τ2 : mmS} (h1 : hO τ0 τ1) (h2 : hO τ1 τ2) : hO τ0 τ2 := ⟨fun k hk => (h2.1 k hk).trans (h1.1 k hk), fun k hk => (h2.2 k hk).trans (h1.2 k hk)⟩
theorem hO_T {τ0 τ : mmS} (h : hT τ0 τ) : hO τ0 τ := ⟨h.1, h.2.1⟩
theorem hO_I {k i : Nat} {v : Int32} {τ0 τ : mmS} (hk : 42 ≤ k) (h : hO τ0 τ) : hO τ0 (mmI τ k i v) := by
  refine ⟨fun q hq => ?_, h.2⟩
  show (if q = k then upd (τ.1 k) i v else τ.1 q) = τ0.1 q
  rw [if_neg (by omega)]
  exact h.1 q hq
theorem hO_J {i : Nat} {v : Int64} {τ0 τ : mmS} (h : hO τ0 τ) : hO τ0 (mmJ τ 42 i v) := by
  refine ⟨h.1, fun q hq => ?_⟩
  show (if q = 42 then vp_updL (τ.2 42) i v else τ.2 q) = τ0.2 q
  rw [if_neg hq]
  exact h.2 q hq
theorem hO_ite {c : Prop} [Decidable c] {τ0 x y : mmS} (h1 : hO τ0 x) (h2 : hO τ0 y) : hO τ0 (if c then x else y) := ite_P (hO τ0) (fun _ => h1) (fun _ => h2)
theorem hO_ite2 {α : Type} {c : Prop} [Decidable c] {τ0 : mmS} {x y : α × mmS} (h1 : hO τ0 x.2) (h2 : hO τ0 y.2) : hO τ0 (if c then x else y).2 := ite_P (fun q : α × mmS => hO τ0 q.2) (fun _ => h1) (fun _ => h2)
theorem ho_listen {τ0 τ : mmS} {a : Int32} (h : hO τ0 τ) : hO τ0 (sp_m_listen a τ) := hO_trans h (hO_T (ht_listen (hT_refl τ)))
theorem ho_runM {τ0 τ : mmS} (n : Nat) (h : hO τ0 τ) : hO τ0 (runM n τ) := hO_trans h (hO_T (ht_run n (hT_refl τ)))
theorem ho_fail {τ0 τ : mmS} {a : Int32} (h : hO τ0 τ) : hO τ0 (sp_m_fail a τ).2 := hO_I (by decide) h
theorem ho_power {τ0 τ : mmS} {a0 : Int32} (h : hO τ0 τ) : hO τ0 (sp_m_power a0 τ) := by
  unfold sp_m_power
  repeat' (with_reducible first | exact h | refine ho_fail ?_ | refine ho_listen ?_ | refine ho_runM _ ?_ | refine hO_I (by decide) ?_ | refine hO_J ?_ | refine hO_ite ?_ ?_)
theorem ho_off {τ0 τ : mmS} {a0 : Int32} (h : hO τ0 τ) : hO τ0 (sp_m_off a0 τ).2 := by
  unfold sp_m_off
  repeat' (with_reducible first | exact h | refine ho_fail ?_ | refine ho_listen ?_ | refine ho_runM _ ?_ | refine hO_I (by decide) ?_ | refine hO_J ?_ | refine hO_ite ?_ ?_ | refine hO_ite2 ?_ ?_)
theorem ho_run {τ0 τ : mmS} {i1 : Int32} (h : hO τ0 τ) : hO τ0 (sp_m_run i1 τ).2 := by
  unfold sp_m_run
  repeat' (with_reducible first | exact h | refine ho_fail ?_ | refine ho_listen ?_ | refine ho_runM _ ?_ | refine hO_I (by decide) ?_ | refine hO_J ?_ | refine hO_ite ?_ ?_ | refine hO_ite2 ?_ ?_)
theorem ho_value {τ0 τ : mmS} {a0 : Int32} {a1 : Int32} (h : hO τ0 τ) : hO τ0 (sp_m_value a0 a1 τ) := by
  unfold sp_m_value
  repeat' (with_reducible first | exact h | refine ho_fail ?_ | refine ho_listen ?_ | refine ho_runM _ ?_ | refine hO_I (by decide) ?_ | refine hO_J ?_ | refine hO_ite ?_ ?_)
theorem ho_post {τ0 τ : mmS} {a0 : Int32} {a1 : Int32} {a2 : Int32} {a3 : Int32} {a4 : Int32} (h : hO τ0 τ) : hO τ0 (sp_m_post a0 a1 a2 a3 a4 τ) := by
  unfold sp_m_post
  repeat' (with_reducible first | exact h | refine ho_fail ?_ | refine ho_listen ?_ | refine ho_runM _ ?_ | refine hO_I (by decide) ?_ | refine hO_J ?_ | refine hO_ite ?_ ?_)
theorem ho_disturb {τ0 τ : mmS} {a0 : Int64} (h : hO τ0 τ) : hO τ0 (sp_m_disturb a0 τ) := by
  unfold sp_m_disturb
  repeat' (with_reducible first | exact h | refine ho_fail ?_ | refine ho_listen ?_ | refine ho_runM _ ?_ | refine hO_I (by decide) ?_ | refine hO_J ?_ | refine hO_ite ?_ ?_)
theorem ho_lose {τ0 τ : mmS} {a0 : Int32} (h : hO τ0 τ) : hO τ0 (sp_m_lose a0 τ).2 := by
  unfold sp_m_lose
  repeat' (with_reducible first | exact h | refine ho_fail ?_ | refine ho_listen ?_ | refine ho_runM _ ?_ | refine hO_I (by decide) ?_ | refine hO_J ?_ | refine hO_ite ?_ ?_ | refine hO_ite2 ?_ ?_)
theorem ho_state {τ0 τ : mmS} {a0 : Int32} (h : hO τ0 τ) : hO τ0 (sp_m_state a0 τ).2 := by
  unfold sp_m_state
  repeat' (with_reducible first | exact h | refine ho_fail ?_ | refine ho_listen ?_ | refine ho_runM _ ?_ | refine hO_I (by decide) ?_ | refine hO_J ?_ | refine hO_ite ?_ ?_ | refine hO_ite2 ?_ ?_)
theorem ho_clock {τ0 τ : mmS} {a0 : Int32} {a1 : Int32} (h : hO τ0 τ) : hO τ0 (sp_m_clock a0 a1 τ).2 := by
  unfold sp_m_clock
  repeat' (with_reducible first | exact h | refine ho_fail ?_ | refine ho_listen ?_ | refine ho_runM _ ?_ | refine hO_I (by decide) ?_ | refine hO_J ?_ | refine hO_ite ?_ ?_ | refine hO_ite2 ?_ ?_)
theorem ho_deviation {τ0 τ : mmS} {a0 : Int32} {a1 : Int32} {a2 : Int32} (h : hO τ0 τ) : hO τ0 (sp_m_deviation a0 a1 a2 τ).2 := by
  unfold sp_m_deviation
  repeat' (with_reducible first | exact h | refine ho_fail ?_ | refine ho_listen ?_ | refine ho_runM _ ?_ | refine hO_I (by decide) ?_ | refine hO_J ?_ | refine hO_ite ?_ ?_ | refine hO_ite2 ?_ ?_)
theorem ho_got {τ0 τ : mmS} {a0 : Int32} {a1 : Int32} (h : hO τ0 τ) : hO τ0 (sp_m_got a0 a1 τ).2 := by
  unfold sp_m_got
  repeat' (with_reducible first | exact h | refine ho_fail ?_ | refine ho_listen ?_ | refine ho_runM _ ?_ | refine hO_I (by decide) ?_ | refine hO_J ?_ | refine hO_ite ?_ ?_ | refine hO_ite2 ?_ ?_)
theorem ho_frames {τ0 τ : mmS}  (h : hO τ0 τ) : hO τ0 (sp_m_frames τ).2 := by
  unfold sp_m_frames
  repeat' (with_reducible first | exact h | refine ho_fail ?_ | refine ho_listen ?_ | refine ho_runM _ ?_ | refine hO_I (by decide) ?_ | refine hO_J ?_ | refine hO_ite ?_ ?_ | refine hO_ite2 ?_ ?_)
theorem ho_last {τ0 τ : mmS}  (h : hO τ0 τ) : hO τ0 (sp_m_last τ).2 := by
  unfold sp_m_last
  repeat' (with_reducible first | exact h | refine ho_fail ?_ | refine ho_listen ?_ | refine ho_runM _ ?_ | refine hO_I (by decide) ?_ | refine hO_J ?_ | refine hO_ite ?_ ?_ | refine hO_ite2 ?_ ?_)
theorem ho_encode {τ0 τ : mmS} {a0 : Int32} {a1 : Int32} {a2 : Int32} {a3 : Int32} (h : hO τ0 τ) : hO τ0 (sp_m_encode a0 a1 a2 a3 τ).2 := by
  unfold sp_m_encode
  repeat' (with_reducible first | exact h | refine ho_fail ?_ | refine ho_listen ?_ | refine ho_runM _ ?_ | refine hO_I (by decide) ?_ | refine hO_J ?_ | refine hO_ite ?_ ?_ | refine hO_ite2 ?_ ?_)
theorem ho_decode {τ0 τ : mmS} {a0 : Int64} (h : hO τ0 τ) : hO τ0 (sp_m_decode a0 τ).2 := by
  unfold sp_m_decode
  repeat' (with_reducible first | exact h | refine ho_fail ?_ | refine ho_listen ?_ | refine ho_runM _ ?_ | refine hO_I (by decide) ?_ | refine hO_J ?_ | refine hO_ite ?_ ?_ | refine hO_ite2 ?_ ?_)
end FO
