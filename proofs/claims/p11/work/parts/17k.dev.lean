/-! deviation of another node: class and reference answer alike (of the node itself they need not: REPORT.md) -/
section DN
variable {N L : Nat} {xs : Nat → Int32} {σ τ : mmS}
theorem cv_none {x : Int32} (h : dvok x) : cv x = 99 ↔ x = 1000 := by
  unfold cv
  by_cases c : x = 1000
  · rw [if_pos c]; exact ⟨fun _ => c, fun _ => rfl⟩
  · rw [if_neg c]
    refine ⟨fun q => ?_, fun q => absurd q c⟩
    rcases h with h | h
    · exact h
    · rw [q] at h
      exact absurd h.2 (by decide)
theorem t82_0 {j i : Nat} (hj : j < 4) (hi : i < 4) : ((((8 : Int32) * Int32.ofNat j) + ((2 : Int32) * Int32.ofNat i)) + (0 : Int32)).toNatClampNeg = 8 * j + 2 * i := by
  rcases j4c hj with rfl | rfl | rfl | rfl <;> rcases j4c hi with rfl | rfl | rfl | rfl <;> decide
theorem t82_1 {j i : Nat} (hj : j < 4) (hi : i < 4) : ((((8 : Int32) * Int32.ofNat j) + ((2 : Int32) * Int32.ofNat i)) + (1 : Int32)).toNatClampNeg = 8 * j + (2 * i + 1) := by
  rcases j4c hj with rfl | rfl | rfl | rfl <;> rcases j4c hi with rfl | rfl | rfl | rfl <;> decide
theorem rb_dev {j i : Nat} (hj : j < 4) (hi : i < 4) (h : RB σ τ) : (cv (σ.1 (10 * j + 6) i) = τ.1 57 (8 * j + 2 * i) ∧ cv (σ.1 (10 * j + 7) i) = τ.1 57 (8 * j + (2 * i + 1))) ∧ dvok (σ.1 (10 * j + 6) i) ∧ dvok (σ.1 (10 * j + 7) i) := by
  have q := h.1 j hj
  obtain ⟨x0, x1, x2, x3, x4, x5, x6, x7, t0, t1, t2, t3, t4, s0, s1, s2, dv, he, w0, w1, w2, w3, i1, i2, i3, i4, i5, i6, i7, i8, i9, i10, i11, i12⟩ := q
  exact ⟨dv i hi, i11 i hi⟩
/-- what the reference answers, where both nodes are there -/
theorem m_dev {j i : Nat} (hj : j < 4) (hi : i < 4) {c : Int32} (h : ¬ cx_b_requireNode (Int32.ofNat j) σ) (h2 : ¬ cx_b_requireNode (Int32.ofNat i) σ) (hR : RB σ τ) :
    sp_m_deviation (Int32.ofNat j) (Int32.ofNat i) c τ = if sp_d_of j (Int32.ofNat i) c σ = 1000 then ((sp_m_fail (2 : Int32) (mmI τ 42 0 (0 : Int32))).1, (sp_m_fail (2 : Int32) (mmI τ 42 0 (0 : Int32))).2) else (sp_d_of j (Int32.ofNat i) c σ, mmI τ 42 0 0) := by
  obtain ⟨⟨q0, q1⟩, d0, d1⟩ := rb_dev hj hi hR
  unfold sp_m_deviation sp_d_of
  rw [if_pos (wn4 h), if_pos (wn4 h2), t82_0 hj hi, t82_1 hj hi, ← q0, ← q1, tj hi]
  by_cases z : c = 0
  · rw [if_pos z, if_pos z]
    by_cases y : σ.1 (10 * j + 6) i = 1000
    · rw [if_pos ((cv_none d0).mpr y), if_pos y]
    · rw [if_neg (fun q => y ((cv_none d0).mp q)), if_neg y]
      unfold cv
      rw [if_neg y]
  · rw [if_neg z, if_neg z]
    by_cases y : σ.1 (10 * j + 7) i = 1000
    · rw [if_pos ((cv_none d1).mpr y), if_pos y]
    · rw [if_neg (fun q => y ((cv_none d1).mp q)), if_neg y]
      unfold cv
      rw [if_neg y]
theorem sx_deviationN (a b c : Int32) (hab : ¬ a = b) (σ : mmS) : ∃ k v σ1, XI2 "java/lang/IllegalArgumentException" "java/util/NoSuchElementException" (sp_b_deviation a b c σ) k v σ1 ∧ fC σ σ1 ∧ ∀ τ, RB σ τ → (sp_m_deviation a b c τ).2.1 42 0 = k ∧ (k = 0 → (sp_m_deviation a b c τ).1 = v) ∧ RB σ1 (sp_m_deviation a b c τ).2 := by
  by_cases h : cx_b_requireNode a σ
  · refine ⟨1, 0, σ, Or.inr (Or.inl ⟨rfl, by unfold sp_b_deviation; rw [if_pos h]⟩), fC_refl σ, fun τ hR => ?_⟩
    have e : (sp_m_deviation a b c τ).2 = mmI (mmI τ 42 0 0) 42 0 1 := by unfold sp_m_deviation; rw [if_neg (wo4.mp h)]; rfl
    rw [e]
    exact ⟨rdS, no1, rb_thr (rb_thr hR 0) 1⟩
  · obtain ⟨j, hj, rfl⟩ := nd_of h
    by_cases h2 : cx_b_requireNode b σ
    · refine ⟨1, 0, σ, Or.inr (Or.inl ⟨rfl, by unfold sp_b_deviation; rw [if_neg h, if_pos h2]⟩), fC_refl σ, fun τ hR => ?_⟩
      have e : (sp_m_deviation (Int32.ofNat j) b c τ).2 = mmI (mmI τ 42 0 0) 42 0 1 := by unfold sp_m_deviation; rw [if_pos (wn4 h), if_neg (wo4.mp h2)]; rfl
      rw [e]
      exact ⟨rdS, no1, rb_thr (rb_thr hR 0) 1⟩
    · obtain ⟨i, hi, rfl⟩ := nd_of h2
      by_cases d : sp_d_of j (Int32.ofNat i) c σ = 1000
      · refine ⟨2, 0, σ, Or.inr (Or.inr ⟨rfl, by unfold sp_b_deviation; rw [if_neg h, if_neg h2, if_neg hab, tj hj, if_pos (show sp_d_has j (Int32.ofNat i) c σ = 0 by unfold sp_d_has; rw [if_pos d])]⟩), fC_refl σ, fun τ hR => ?_⟩
        have e : (sp_m_deviation (Int32.ofNat j) (Int32.ofNat i) c τ).2 = mmI (mmI τ 42 0 0) 42 0 2 := by rw [m_dev hj hi h h2 hR, if_pos d]; rfl
        rw [e]
        exact ⟨rdS, no2, rb_thr (rb_thr hR 0) 2⟩
      · refine ⟨0, _, σ, Or.inl ⟨rfl, by unfold sp_b_deviation; rw [if_neg h, if_neg h2, if_neg hab, tj hj, if_neg (show ¬ sp_d_has j (Int32.ofNat i) c σ = 0 by unfold sp_d_has; rw [if_neg d]; decide)]⟩, fC_refl σ, fun τ hR => ?_⟩
        rw [m_dev hj hi h h2 hR, if_neg d]
        exact ⟨rdS, fun _ => rfl, rb_thr hR 0⟩
theorem sl_deviationN (hN : 66 ≤ N) (a0 : Int32) (a1 : Int32) (a2 : Int32) (hab : ¬ a0 = a1) (h : RB σ σ) : ∃ k σ1, Ev N L xs (82, 0, lv_args 0 [.ref 0, .int a0, .int a1, .int a2, .ref 65], [], 0, σ) (mmSI (k, σ1)) ∧ RB σ σ1 ∧ (sp_m_deviation a0 a1 a2 σ1).2.1 42 0 = k ∧ (k = 0 → lg_cmp ((sp_m_deviation a0 a1 a2 σ1).2.2 65 0) ((sp_m_deviation a0 a1 a2 σ1).1).toInt64 = 0) ∧ RB (sp_m_deviation a0 a1 a2 σ1).2 (sp_m_deviation a0 a1 a2 σ1).2 := by
  obtain ⟨k, v, σ1, hX, hf, hall⟩ := sx_deviationN a0 a1 a2 hab σ
  rcases hX with ⟨rfl, hr⟩ | ⟨rfl, hr⟩ | ⟨rfl, hr⟩
  · have hi : RB σ (mmJ σ1 65 0 v.toInt64) := rb_in h hf rfl o42
    obtain ⟨q1, q2, q3⟩ := hall _ hi
    refine ⟨0, _, lw_deviation_ok hN a0 a1 a2 σ σ1 v hr, hi, q1, fun _ => ?_, rb_out (σ2 := mmJ σ1 65 0 v.toInt64) q3 rfl o0 (ho_deviation (hO_refl _))⟩
    rw [(ho_deviation (hO_refl _)).2 65 (by decide), rdJS, q2 rfl]
    exact lgS _
  · have hi : RB σ σ1 := rb_in h hf rfl rfl
    obtain ⟨q1, q2, q3⟩ := hall _ hi
    exact ⟨1, σ1, lw_deviation_1 hN a0 a1 a2 σ σ1 hr, hi, q1, no1, rb_out q3 rfl rfl (ho_deviation (hO_refl _))⟩
  · have hi : RB σ σ1 := rb_in h hf rfl rfl
    obtain ⟨q1, q2, q3⟩ := hall _ hi
    exact ⟨2, σ1, lw_deviation_2 hN a0 a1 a2 σ σ1 hr, hi, q1, no2, rb_out q3 rfl rfl (ho_deviation (hO_refl _))⟩
end DN
