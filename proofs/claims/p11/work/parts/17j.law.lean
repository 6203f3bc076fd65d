/-! the calls as the law makes them: out of a state where class and reference agree into such a one -/
section SL
variable {N L : Nat} {xs : Nat → Int32} {σ : mmS}
theorem rb_Jm {σ τ : mmS} (h : RB σ τ) : Jm τ := by
  intro n hn
  have q := h.1 n hn
  obtain ⟨x0, x1, x2, x3, x4, x5, x6, x7, t0, t1, t2, t3, t4, s0, s1, s2, dv, he, w0, w1, w2, w3, i1, i2, i3, i4, i5, i6, i7, i8, i9, i10, i11, i12⟩ := q
  refine ⟨?_, ?_⟩
  · by_cases c : σ.1 (10 * n + 10) 0 = 0
    · rw [if_pos c] at w0
      exact Or.inl w0.symm
    · obtain ⟨-, -, m3⟩ := i12.resolve_left c
      rw [← w3]
      right
      rcases m3 with z | z | z <;> rw [z] <;> decide
  · obtain ⟨c, hc, ec⟩ := i4
    exact ⟨c, hc, t1 ▸ ec⟩
theorem o42 {σ1 : mmS} {v : Int64} : (mmJ σ1 65 0 v).2 42 = σ1.2 42 := rfl
theorem o0 {σ1 : mmS} {v : Int64} : (mmJ σ1 65 0 v).2 0 = σ1.2 0 := rfl
theorem sl_power (hN : 66 ≤ N) (a0 : Int32) (h : RB σ σ) : ∃ k σ1, Ev N L xs (3, 0, lv_args 0 [.ref 0, .int a0], [], 0, σ) (mmSI (k, σ1)) ∧ RB σ σ1 ∧ (sp_m_power a0 σ1).1 42 0 = k ∧ RB (sp_m_power a0 σ1) (sp_m_power a0 σ1) := by
  obtain ⟨k, σ1, hX, hf, hall⟩ := sx_power a0 σ
  have hi : RB σ σ1 := rb_in h hf rfl rfl
  obtain ⟨q1, q2⟩ := hall σ1 hi
  have hz := rb_out q2 rfl rfl (ho_power (hO_refl σ1))
  rcases hX with ⟨rfl, hr⟩ | ⟨rfl, hr⟩ | ⟨rfl, hr⟩
  · exact ⟨0, σ1, lw_power_ok hN a0 σ σ1 hr, hi, q1, hz⟩
  · exact ⟨1, σ1, lw_power_1 hN a0 σ σ1 hr, hi, q1, hz⟩
  · exact ⟨2, σ1, lw_power_2 hN a0 σ σ1 hr, hi, q1, hz⟩
theorem sl_value (hN : 66 ≤ N) (a0 : Int32) (a1 : Int32) (h : RB σ σ) : ∃ k σ1, Ev N L xs (66, 0, lv_args 0 [.ref 0, .int a0, .int a1], [], 0, σ) (mmSI (k, σ1)) ∧ RB σ σ1 ∧ (sp_m_value a0 a1 σ1).1 42 0 = k ∧ RB (sp_m_value a0 a1 σ1) (sp_m_value a0 a1 σ1) := by
  obtain ⟨k, σ1, hX, hf, hall⟩ := sx_value a0 a1 σ
  have hi : RB σ σ1 := rb_in h hf rfl rfl
  obtain ⟨q1, q2⟩ := hall σ1 hi
  have hz := rb_out q2 rfl rfl (ho_value (hO_refl σ1))
  rcases hX with ⟨rfl, hr⟩ | ⟨rfl, hr⟩ | ⟨rfl, hr⟩
  · exact ⟨0, σ1, lw_value_ok hN a0 a1 σ σ1 hr, hi, q1, hz⟩
  · exact ⟨1, σ1, lw_value_1 hN a0 a1 σ σ1 hr, hi, q1, hz⟩
  · exact ⟨2, σ1, lw_value_2 hN a0 a1 σ σ1 hr, hi, q1, hz⟩
theorem sl_post (hN : 66 ≤ N) (a0 : Int32) (a1 : Int32) (a2 : Int32) (a3 : Int32) (a4 : Int32) (h : RB σ σ) : ∃ k σ1, Ev N L xs (69, 0, lv_args 0 [.ref 0, .int a0, .int a1, .int a2, .int a3, .int a4], [], 0, σ) (mmSI (k, σ1)) ∧ RB σ σ1 ∧ (sp_m_post a0 a1 a2 a3 a4 σ1).1 42 0 = k ∧ RB (sp_m_post a0 a1 a2 a3 a4 σ1) (sp_m_post a0 a1 a2 a3 a4 σ1) := by
  obtain ⟨k, σ1, hX, hf, hall⟩ := sx_post a0 a1 a2 a3 a4 σ
  have hi : RB σ σ1 := rb_in h hf rfl rfl
  obtain ⟨q1, q2⟩ := hall σ1 hi
  have hz := rb_out q2 rfl rfl (ho_post (hO_refl σ1))
  rcases hX with ⟨rfl, hr⟩ | ⟨rfl, hr⟩ | ⟨rfl, hr⟩
  · exact ⟨0, σ1, lw_post_ok hN a0 a1 a2 a3 a4 σ σ1 hr, hi, q1, hz⟩
  · exact ⟨1, σ1, lw_post_1 hN a0 a1 a2 a3 a4 σ σ1 hr, hi, q1, hz⟩
  · exact ⟨2, σ1, lw_post_2 hN a0 a1 a2 a3 a4 σ σ1 hr, hi, q1, hz⟩
theorem sl_disturb (hN : 66 ≤ N) (a0 : Int64) (h : RB σ σ) : ∃ k σ1, Ev N L xs (72, 0, lv_args 0 [.ref 0, .long a0], [], 0, σ) (mmSI (k, σ1)) ∧ RB σ σ1 ∧ (sp_m_disturb a0 σ1).1 42 0 = k ∧ RB (sp_m_disturb a0 σ1) (sp_m_disturb a0 σ1) := by
  obtain ⟨k, σ1, hX, hf, hall⟩ := sx_disturb a0 σ
  have hi : RB σ σ1 := rb_in h hf rfl rfl
  obtain ⟨q1, q2⟩ := hall σ1 hi
  have hz := rb_out q2 rfl rfl (ho_disturb (hO_refl σ1))
  rcases hX with ⟨rfl, hr⟩ | ⟨rfl, hr⟩
  · exact ⟨0, σ1, lw_disturb_ok hN a0 σ σ1 hr, hi, q1, hz⟩
  · exact ⟨1, σ1, lw_disturb_1 hN a0 σ σ1 hr, hi, q1, hz⟩
theorem sl_off (hN : 66 ≤ N) (a0 : Int32) (h : RB σ σ) : ∃ k σ1, Ev N L xs (12, 0, lv_args 0 [.ref 0, .int a0, .ref 65], [], 0, σ) (mmSI (k, σ1)) ∧ RB σ σ1 ∧ (sp_m_off a0 σ1).2.1 42 0 = k ∧ (k = 0 → lg_cmp ((sp_m_off a0 σ1).2.2 65 0) ((sp_m_off a0 σ1).1).toInt64 = 0) ∧ RB (sp_m_off a0 σ1).2 (sp_m_off a0 σ1).2 := by
  obtain ⟨k, v, σ1, hX, hf, hall⟩ := sx_off a0 σ
  rcases hX with ⟨rfl, hr⟩ | ⟨rfl, hr⟩
  · have hi : RB σ (mmJ σ1 65 0 v.toInt64) := rb_in h hf rfl o42
    obtain ⟨q1, q2, q3⟩ := hall _ hi
    refine ⟨0, _, lw_off_ok hN a0 σ σ1 v hr, hi, q1, fun _ => ?_, rb_out (σ2 := mmJ σ1 65 0 v.toInt64) q3 rfl o0 (ho_off (hO_refl _))⟩
    rw [(ho_off (hO_refl _)).2 65 (by decide), rdJS, q2 rfl]
    exact lgS _
  · have hi : RB σ σ1 := rb_in h hf rfl rfl
    obtain ⟨q1, q2, q3⟩ := hall _ hi
    exact ⟨1, σ1, lw_off_1 hN a0 σ σ1 hr, hi, q1, no1, rb_out q3 rfl rfl (ho_off (hO_refl _))⟩
theorem sl_run (hN : 66 ≤ N) (a0 : Int32) (h : RB σ σ) : ∃ k σ1, Ev N L xs (14, 0, lv_args 0 [.ref 0, .int a0, .ref 65], [], 0, σ) (mmSI (k, σ1)) ∧ RB σ σ1 ∧ (sp_m_run a0 σ1).2.1 42 0 = k ∧ (k = 0 → lg_cmp ((sp_m_run a0 σ1).2.2 65 0) ((sp_m_run a0 σ1).1).toInt64 = 0) ∧ RB (sp_m_run a0 σ1).2 (sp_m_run a0 σ1).2 := by
  obtain ⟨k, v, σ1, hX, hf, hall⟩ := sx_run a0 σ
  rcases hX with ⟨rfl, hr⟩ | ⟨rfl, hr⟩
  · have hi : RB σ (mmJ σ1 65 0 v.toInt64) := rb_in h hf rfl o42
    obtain ⟨q1, q2, q3⟩ := hall _ hi
    refine ⟨0, _, lw_run_ok hN a0 σ σ1 v hr, hi, q1, fun _ => ?_, rb_out (σ2 := mmJ σ1 65 0 v.toInt64) q3 rfl o0 (ho_run (hO_refl _))⟩
    rw [(ho_run (hO_refl _)).2 65 (by decide), rdJS, q2 rfl]
    exact lgS _
  · have hi : RB σ σ1 := rb_in h hf rfl rfl
    obtain ⟨q1, q2, q3⟩ := hall _ hi
    exact ⟨1, σ1, lw_run_1 hN a0 σ σ1 hr, hi, q1, no1, rb_out q3 rfl rfl (ho_run (hO_refl _))⟩
theorem sl_lose (hN : 66 ≤ N) (a0 : Int32) (h : RB σ σ) : ∃ k σ1, Ev N L xs (75, 0, lv_args 0 [.ref 0, .int a0, .ref 65], [], 0, σ) (mmSI (k, σ1)) ∧ RB σ σ1 ∧ (sp_m_lose a0 σ1).2.1 42 0 = k ∧ (k = 0 → lg_cmp ((sp_m_lose a0 σ1).2.2 65 0) ((sp_m_lose a0 σ1).1).toInt64 = 0) ∧ RB (sp_m_lose a0 σ1).2 (sp_m_lose a0 σ1).2 := by
  obtain ⟨k, v, σ1, hX, hf, hall⟩ := sx_lose a0 σ
  rcases hX with ⟨rfl, hr⟩ | ⟨rfl, hr⟩
  · have hi : RB σ (mmJ σ1 65 0 v.toInt64) := rb_in h hf rfl o42
    obtain ⟨q1, q2, q3⟩ := hall _ hi
    refine ⟨0, _, lw_lose_ok hN a0 σ σ1 v hr, hi, q1, fun _ => ?_, rb_out (σ2 := mmJ σ1 65 0 v.toInt64) q3 rfl o0 (ho_lose (hO_refl _))⟩
    rw [(ho_lose (hO_refl _)).2 65 (by decide), rdJS, q2 rfl]
    exact lgS _
  · have hi : RB σ σ1 := rb_in h hf rfl rfl
    obtain ⟨q1, q2, q3⟩ := hall _ hi
    exact ⟨1, σ1, lw_lose_1 hN a0 σ σ1 hr, hi, q1, no1, rb_out q3 rfl rfl (ho_lose (hO_refl _))⟩
theorem sl_state (hN : 66 ≤ N) (a0 : Int32) (h : RB σ σ) : ∃ k σ1, Ev N L xs (77, 0, lv_args 0 [.ref 0, .int a0, .ref 65], [], 0, σ) (mmSI (k, σ1)) ∧ RB σ σ1 ∧ (sp_m_state a0 σ1).2.1 42 0 = k ∧ (k = 0 → lg_cmp ((sp_m_state a0 σ1).2.2 65 0) ((sp_m_state a0 σ1).1).toInt64 = 0) ∧ RB (sp_m_state a0 σ1).2 (sp_m_state a0 σ1).2 := by
  obtain ⟨k, v, σ1, hX, hf, hall⟩ := sx_state a0 σ
  rcases hX with ⟨rfl, hr⟩ | ⟨rfl, hr⟩
  · have hi : RB σ (mmJ σ1 65 0 v.toInt64) := rb_in h hf rfl o42
    obtain ⟨q1, q2, q3⟩ := hall _ hi
    refine ⟨0, _, lw_state_ok hN a0 σ σ1 v hr, hi, q1, fun _ => ?_, rb_out (σ2 := mmJ σ1 65 0 v.toInt64) q3 rfl o0 (ho_state (hO_refl _))⟩
    rw [(ho_state (hO_refl _)).2 65 (by decide), rdJS, q2 rfl]
    exact lgS _
  · have hi : RB σ σ1 := rb_in h hf rfl rfl
    obtain ⟨q1, q2, q3⟩ := hall _ hi
    exact ⟨1, σ1, lw_state_1 hN a0 σ σ1 hr, hi, q1, no1, rb_out q3 rfl rfl (ho_state (hO_refl _))⟩
theorem sl_clock (hN : 66 ≤ N) (a0 : Int32) (a1 : Int32) (h : RB σ σ) : ∃ k σ1, Ev N L xs (79, 0, lv_args 0 [.ref 0, .int a0, .int a1, .ref 65], [], 0, σ) (mmSI (k, σ1)) ∧ RB σ σ1 ∧ (sp_m_clock a0 a1 σ1).2.1 42 0 = k ∧ (k = 0 → lg_cmp ((sp_m_clock a0 a1 σ1).2.2 65 0) ((sp_m_clock a0 a1 σ1).1).toInt64 = 0) ∧ RB (sp_m_clock a0 a1 σ1).2 (sp_m_clock a0 a1 σ1).2 := by
  obtain ⟨k, v, σ1, hX, hf, hall⟩ := sx_clock a0 a1 σ
  rcases hX with ⟨rfl, hr⟩ | ⟨rfl, hr⟩ | ⟨rfl, hr⟩
  · have hi : RB σ (mmJ σ1 65 0 v.toInt64) := rb_in h hf rfl o42
    obtain ⟨q1, q2, q3⟩ := hall _ hi
    refine ⟨0, _, lw_clock_ok hN a0 a1 σ σ1 v hr, hi, q1, fun _ => ?_, rb_out (σ2 := mmJ σ1 65 0 v.toInt64) q3 rfl o0 (ho_clock (hO_refl _))⟩
    rw [(ho_clock (hO_refl _)).2 65 (by decide), rdJS, q2 rfl]
    exact lgS _
  · have hi : RB σ σ1 := rb_in h hf rfl rfl
    obtain ⟨q1, q2, q3⟩ := hall _ hi
    exact ⟨1, σ1, lw_clock_1 hN a0 a1 σ σ1 hr, hi, q1, no1, rb_out q3 rfl rfl (ho_clock (hO_refl _))⟩
  · have hi : RB σ σ1 := rb_in h hf rfl rfl
    obtain ⟨q1, q2, q3⟩ := hall _ hi
    exact ⟨2, σ1, lw_clock_2 hN a0 a1 σ σ1 hr, hi, q1, no2, rb_out q3 rfl rfl (ho_clock (hO_refl _))⟩
theorem sl_deviation (hN : 66 ≤ N) (a0 : Int32) (a1 : Int32) (a2 : Int32) (h : RB σ σ) : ∃ k σ1, Ev N L xs (82, 0, lv_args 0 [.ref 0, .int a0, .int a1, .int a2, .ref 65], [], 0, σ) (mmSI (k, σ1)) ∧ RB σ σ1 ∧ RB (sp_m_deviation a0 a1 a2 σ1).2 (sp_m_deviation a0 a1 a2 σ1).2 := by
  obtain ⟨k, v, σ1, hX, hf, hall⟩ := sx_deviation a0 a1 a2 σ
  rcases hX with ⟨rfl, hr⟩ | ⟨rfl, hr⟩ | ⟨rfl, hr⟩
  · have hi : RB σ (mmJ σ1 65 0 v.toInt64) := rb_in h hf rfl o42
    exact ⟨0, _, lw_deviation_ok hN a0 a1 a2 σ σ1 v hr, hi, rb_out (σ2 := mmJ σ1 65 0 v.toInt64) (hall _ hi) rfl o0 (ho_deviation (hO_refl _))⟩
  · have hi : RB σ σ1 := rb_in h hf rfl rfl
    exact ⟨1, σ1, lw_deviation_1 hN a0 a1 a2 σ σ1 hr, hi, rb_out (hall _ hi) rfl rfl (ho_deviation (hO_refl _))⟩
  · have hi : RB σ σ1 := rb_in h hf rfl rfl
    exact ⟨2, σ1, lw_deviation_2 hN a0 a1 a2 σ σ1 hr, hi, rb_out (hall _ hi) rfl rfl (ho_deviation (hO_refl _))⟩
theorem sl_got (hN : 66 ≤ N) (a0 : Int32) (a1 : Int32) (h : RB σ σ) : ∃ k σ1, Ev N L xs (86, 0, lv_args 0 [.ref 0, .int a0, .int a1, .ref 65], [], 0, σ) (mmSI (k, σ1)) ∧ RB σ σ1 ∧ (sp_m_got a0 a1 σ1).2.1 42 0 = k ∧ (k = 0 → lg_cmp ((sp_m_got a0 a1 σ1).2.2 65 0) ((sp_m_got a0 a1 σ1).1).toInt64 = 0) ∧ RB (sp_m_got a0 a1 σ1).2 (sp_m_got a0 a1 σ1).2 := by
  obtain ⟨k, v, σ1, hX, hf, hall⟩ := sx_got a0 a1 σ
  rcases hX with ⟨rfl, hr⟩ | ⟨rfl, hr⟩ | ⟨rfl, hr⟩
  · have hi : RB σ (mmJ σ1 65 0 v.toInt64) := rb_in h hf rfl o42
    obtain ⟨q1, q2, q3⟩ := hall _ hi
    refine ⟨0, _, lw_got_ok hN a0 a1 σ σ1 v hr, hi, q1, fun _ => ?_, rb_out (σ2 := mmJ σ1 65 0 v.toInt64) q3 rfl o0 (ho_got (hO_refl _))⟩
    rw [(ho_got (hO_refl _)).2 65 (by decide), rdJS, q2 rfl]
    exact lgS _
  · have hi : RB σ σ1 := rb_in h hf rfl rfl
    obtain ⟨q1, q2, q3⟩ := hall _ hi
    exact ⟨1, σ1, lw_got_1 hN a0 a1 σ σ1 hr, hi, q1, no1, rb_out q3 rfl rfl (ho_got (hO_refl _))⟩
  · have hi : RB σ σ1 := rb_in h hf rfl rfl
    obtain ⟨q1, q2, q3⟩ := hall _ hi
    exact ⟨2, σ1, lw_got_2 hN a0 a1 σ σ1 hr, hi, q1, no2, rb_out q3 rfl rfl (ho_got (hO_refl _))⟩
theorem sl_last (hN : 66 ≤ N)  (h : RB σ σ) : ∃ k σ1, Ev N L xs (88, 0, lv_args 0 [.ref 0, .ref 65], [], 0, σ) (mmSI (k, σ1)) ∧ RB σ σ1 ∧ (sp_m_last σ1).2.1 42 0 = k ∧ (k = 0 → lg_cmp ((sp_m_last σ1).2.2 65 0) ((sp_m_last σ1).1) = 0) ∧ RB (sp_m_last σ1).2 (sp_m_last σ1).2 := by
  obtain ⟨k, v, σ1, hX, hf, hall⟩ := sx_last σ (h.2.2.2.2.2.elim (fun z => Or.inl z.1) (fun ⟨_, q, z1, z2, _⟩ => Or.inr ⟨q, z1, z2⟩))
  rcases hX with ⟨rfl, hr⟩ | ⟨rfl, hr⟩
  · have hi : RB σ (mmJ σ1 65 0 v) := rb_in h hf rfl o42
    obtain ⟨q1, q2, q3⟩ := hall _ hi
    refine ⟨0, _, lw_last_ok hN  σ σ1 v hr, hi, q1, fun _ => ?_, rb_out (σ2 := mmJ σ1 65 0 v) q3 rfl o0 (ho_last (hO_refl _))⟩
    rw [(ho_last (hO_refl _)).2 65 (by decide), rdJS, q2 rfl]
    exact lgS _
  · have hi : RB σ σ1 := rb_in h hf rfl rfl
    obtain ⟨q1, q2, q3⟩ := hall _ hi
    exact ⟨1, σ1, lw_last_1 hN  σ σ1 hr, hi, q1, no1, rb_out q3 rfl rfl (ho_last (hO_refl _))⟩
theorem sl_encode (hN : 66 ≤ N) (a0 : Int32) (a1 : Int32) (a2 : Int32) (a3 : Int32) (ho : a2 = 0 ∨ a2 = 1) (h : RB σ σ) : ∃ k σ1, Ev N L xs (90, 0, lv_args 0 [.ref 0, .int a0, .int a1, .int a2, .int a3, .ref 65], [], 0, σ) (mmSI (k, σ1)) ∧ RB σ σ1 ∧ (sp_m_encode a0 a1 a2 a3 σ1).2.1 42 0 = k ∧ (k = 0 → lg_cmp ((sp_m_encode a0 a1 a2 a3 σ1).2.2 65 0) ((sp_m_encode a0 a1 a2 a3 σ1).1) = 0) ∧ RB (sp_m_encode a0 a1 a2 a3 σ1).2 (sp_m_encode a0 a1 a2 a3 σ1).2 := by
  obtain ⟨k, v, σ1, hX, hf, hall⟩ := sx_encode a0 a1 a3 a2 ho σ
  rcases hX with ⟨rfl, hr⟩ | ⟨rfl, hr⟩
  · have hi : RB σ (mmJ σ1 65 0 v) := rb_in h hf rfl o42
    obtain ⟨q1, q2, q3⟩ := hall _ hi
    refine ⟨0, _, lw_encode_ok hN a0 a1 a2 a3 σ σ1 v hr, hi, q1, fun _ => ?_, rb_out (σ2 := mmJ σ1 65 0 v) q3 rfl o0 (ho_encode (hO_refl _))⟩
    rw [(ho_encode (hO_refl _)).2 65 (by decide), rdJS, q2 rfl]
    exact lgS _
  · have hi : RB σ σ1 := rb_in h hf rfl rfl
    obtain ⟨q1, q2, q3⟩ := hall _ hi
    exact ⟨1, σ1, lw_encode_1 hN a0 a1 a2 a3 σ σ1 hr, hi, q1, no1, rb_out q3 rfl rfl (ho_encode (hO_refl _))⟩
theorem sl_decode (hN : 66 ≤ N) (a0 : Int64) (h : RB σ σ) : ∃ k σ1, Ev N L xs (92, 0, lv_args 0 [.ref 0, .long a0, .ref 65], [], 0, σ) (mmSI (k, σ1)) ∧ RB σ σ1 ∧ (sp_m_decode a0 σ1).2.1 42 0 = k ∧ (k = 0 → lg_cmp ((sp_m_decode a0 σ1).2.2 65 0) ((sp_m_decode a0 σ1).1).toInt64 = 0) ∧ RB (sp_m_decode a0 σ1).2 (sp_m_decode a0 σ1).2 := by
  obtain ⟨k, v, σ1, hX, hf, hall⟩ := sx_decode a0 σ
  rcases hX with ⟨rfl, hr⟩ | ⟨rfl, hr⟩ | ⟨rfl, hr⟩
  · have hi : RB σ (mmJ σ1 65 0 v.toInt64) := rb_in h hf rfl o42
    obtain ⟨q1, q2, q3⟩ := hall _ hi
    refine ⟨0, _, lw_decode_ok hN a0 σ σ1 v hr, hi, q1, fun _ => ?_, rb_out (σ2 := mmJ σ1 65 0 v.toInt64) q3 rfl o0 (ho_decode (hO_refl _))⟩
    rw [(ho_decode (hO_refl _)).2 65 (by decide), rdJS, q2 rfl]
    exact lgS _
  · have hi : RB σ σ1 := rb_in h hf rfl rfl
    obtain ⟨q1, q2, q3⟩ := hall _ hi
    exact ⟨1, σ1, lw_decode_1 hN a0 σ σ1 hr, hi, q1, no1, rb_out q3 rfl rfl (ho_decode (hO_refl _))⟩
  · have hi : RB σ σ1 := rb_in h hf rfl rfl
    obtain ⟨q1, q2, q3⟩ := hall _ hi
    exact ⟨2, σ1, lw_decode_2 hN a0 σ σ1 hr, hi, q1, no2, rb_out q3 rfl rfl (ho_decode (hO_refl _))⟩
theorem sl_frames (h : RB σ σ) : sp_b_frames σ = (sp_m_frames σ).1 ∧ RB (sp_m_frames σ).2 (sp_m_frames σ).2 := ⟨(sx_frames h).1.symm, rb_out (sx_frames h).2 rfl rfl (ho_frames (hO_refl _))⟩
end SL
