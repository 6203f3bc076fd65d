/-! a node hears a word -/
section HR
variable {j : Nat} {σ τ : mmS}
def Wn (j : Nat) (d c : Int32) (τ : mmS) : mmS := if c - c / 2 * 2 = 0 then mmI (mmI τ 48 j (64 * d + c)) 47 j 0 else mmI τ 48 j 0
def Nn (j : Nat) (d c : Int32) (τ : mmS) : mmS := if τ.1 48 j ≤ 0 then Wn j d c τ else if τ.1 48 j / 64 = d then Wn j d c τ else if 90 < τ.1 47 j then Wn j d c τ else τ
theorem notice_eq (hj : j < 4) (d c : Int32) : sp_m_notice (Int32.ofNat j) d c τ = if c ≤ 0 then Nn j d c τ else if τ.1 48 j = (64 * d + c) - 1 then (if τ.1 47 j < 70 then Nn j d c τ else if 90 < τ.1 47 j then Nn j d c τ else sp_m_begin (Int32.ofNat j) 3 c (10 * d - 6) (sp_m_limit (τ.1 47 j - 80) 4 τ) (-1) τ) else Nn j d c τ := by
  unfold sp_m_notice Nn Wn
  rw [tj hj]
def Wc (j : Nat) (d c : Int32) (σ : mmS) : mmS := if c - c / 2 * 2 = 0 then mmI (mmI (mmI σ (10 * j + 4) 2 d) (10 * j + 4) 3 c) (10 * j + 4) 1 0 else mmI σ (10 * j + 4) 2 0
theorem note_eq (d c : Int32) : sp_s_note j d c σ = if σ.1 (10 * j + 4) 2 = 0 then Wc j d c σ else if σ.1 (10 * j + 4) 2 = d then Wc j d c σ else if 90 < σ.1 (10 * j + 4) 1 then Wc j d c σ else σ := by
  unfold sp_s_note Wc
  rfl
theorem ri_set (hj : j < 4) (h : RI j σ τ) {d : Int32} (hd : d = 1 ∨ d = 2) {c : Nat} (hc : c < 64) : RI j (mmI (mmI (mmI σ (10 * j + 4) 2 d) (10 * j + 4) 3 (Int32.ofNat c)) (10 * j + 4) 1 0) (mmI (mmI τ 48 j (64 * d + Int32.ofNat c)) 47 j 0) := by
  have hd0 : ¬ d = 0 := by rcases hd with rfl | rfl <;> decide
  obtain ⟨x0, x1, x2, x3, x4, x5, x6, x7, t0, t1, t2, t3, t4, s0, s1, s2, dv, he, w0, w1, w2, w3, i1, i2, i3, i4, i5, i6, i7, i8, i9, i10, i11, i12⟩ := h
  unfold RI
  refine ⟨?_, ?_, ?_, ?_, ?_, ?_, ?_, ?_, ?_, ?_, ?_, ?_, ?_, ?_, ?_, ?_, ?_, ?_, ?_, ?_, ?_, ?_, ?_, ?_, ?_, ?_, ?_, ?_, ?_, ?_, ?_, ?_, ?_, ?_⟩
  · simpa only [rdI_, rdJ1, fdk, fmk, tj hj, ne_eq, not_false_eq_true, Nat.add_left_cancel_iff, Nat.reduceEqDiff, reduceIte] using x0
  · simpa only [rdI_, rdJ1, fdk, fmk, tj hj, ne_eq, not_false_eq_true, Nat.add_left_cancel_iff, Nat.reduceEqDiff, reduceIte] using x1
  · simpa only [rdI_, rdJ1, fdk, fmk, tj hj, ne_eq, not_false_eq_true, Nat.add_left_cancel_iff, Nat.reduceEqDiff, reduceIte] using x2
  · simpa only [rdI_, rdJ1, fdk, fmk, tj hj, ne_eq, not_false_eq_true, Nat.add_left_cancel_iff, Nat.reduceEqDiff, reduceIte] using x3
  · simpa only [rdI_, rdJ1, fdk, fmk, tj hj, ne_eq, not_false_eq_true, Nat.add_left_cancel_iff, Nat.reduceEqDiff, reduceIte] using x4
  · simpa only [rdI_, rdJ1, fdk, fmk, tj hj, ne_eq, not_false_eq_true, Nat.add_left_cancel_iff, Nat.reduceEqDiff, reduceIte] using x5
  · simpa only [rdI_, rdJ1, fdk, fmk, tj hj, ne_eq, not_false_eq_true, Nat.add_left_cancel_iff, Nat.reduceEqDiff, reduceIte] using x6
  · simpa only [rdI_, rdJ1, fdk, fmk, tj hj, ne_eq, not_false_eq_true, Nat.add_left_cancel_iff, Nat.reduceEqDiff, reduceIte] using x7
  · simpa only [rdI_, rdJ1, fdk, fmk, tj hj, ne_eq, not_false_eq_true, Nat.add_left_cancel_iff, Nat.reduceEqDiff, reduceIte] using t0
  · simpa only [rdI_, rdJ1, fdk, fmk, tj hj, ne_eq, not_false_eq_true, Nat.add_left_cancel_iff, Nat.reduceEqDiff, reduceIte] using t1
  · simpa only [rdI_, rdJ1, fdk, fmk, tj hj, ne_eq, not_false_eq_true, Nat.add_left_cancel_iff, Nat.reduceEqDiff, reduceIte] using t2
  · simpa only [rdI_, rdJ1, fdk, fmk, tj hj, ne_eq, not_false_eq_true, Nat.add_left_cancel_iff, Nat.reduceEqDiff, reduceIte] using t3
  · simpa only [rdI_, rdJ1, fdk, fmk, tj hj, ne_eq, not_false_eq_true, Nat.add_left_cancel_iff, Nat.reduceEqDiff, reduceIte] using t4
  · simpa only [rdI_, rdJ1, fdk, fmk, tj hj, ne_eq, not_false_eq_true, Nat.add_left_cancel_iff, Nat.reduceEqDiff, reduceIte] using s0
  · simp only [rdI_, rdJ1, fdk, fmk, tj hj, ne_eq, not_false_eq_true, Nat.add_left_cancel_iff, Nat.reduceEqDiff, reduceIte]
  · simp only [rdI_, rdJ1, fdk, fmk, tj hj, ne_eq, not_false_eq_true, Nat.add_left_cancel_iff, Nat.reduceEqDiff, reduceIte]
    rw [if_neg hd0]
  · simpa only [rdI_, rdJ1, fdk, fmk, tj hj, ne_eq, not_false_eq_true, Nat.add_left_cancel_iff, Nat.reduceEqDiff, reduceIte] using dv
  · simpa only [rdI_, rdJ1, fdk, fmk, tj hj, ne_eq, not_false_eq_true, Nat.add_left_cancel_iff, Nat.reduceEqDiff, reduceIte] using he
  · simpa only [rdI_, rdJ1, fdk, fmk, tj hj, ne_eq, not_false_eq_true, Nat.add_left_cancel_iff, Nat.reduceEqDiff, reduceIte] using w0
  · simpa only [rdI_, rdJ1, fdk, fmk, tj hj, ne_eq, not_false_eq_true, Nat.add_left_cancel_iff, Nat.reduceEqDiff, reduceIte] using w1
  · simpa only [rdI_, rdJ1, fdk, fmk, tj hj, ne_eq, not_false_eq_true, Nat.add_left_cancel_iff, Nat.reduceEqDiff, reduceIte] using w2
  · simpa only [rdI_, rdJ1, fdk, fmk, tj hj, ne_eq, not_false_eq_true, Nat.add_left_cancel_iff, Nat.reduceEqDiff, reduceIte] using w3
  · simpa only [rdI_, rdJ1, fdk, fmk, tj hj, ne_eq, not_false_eq_true, Nat.add_left_cancel_iff, Nat.reduceEqDiff, reduceIte] using i1
  · simpa only [rdI_, rdJ1, fdk, fmk, tj hj, ne_eq, not_false_eq_true, Nat.add_left_cancel_iff, Nat.reduceEqDiff, reduceIte] using i2
  · simpa only [rdI_, rdJ1, fdk, fmk, tj hj, ne_eq, not_false_eq_true, Nat.add_left_cancel_iff, Nat.reduceEqDiff, reduceIte] using i3
  · simpa only [rdI_, rdJ1, fdk, fmk, tj hj, ne_eq, not_false_eq_true, Nat.add_left_cancel_iff, Nat.reduceEqDiff, reduceIte] using i4
  · simpa only [rdI_, rdJ1, fdk, fmk, tj hj, ne_eq, not_false_eq_true, Nat.add_left_cancel_iff, Nat.reduceEqDiff, reduceIte] using i5
  · simpa only [rdI_, rdJ1, fdk, fmk, tj hj, ne_eq, not_false_eq_true, Nat.add_left_cancel_iff, Nat.reduceEqDiff, reduceIte] using i6
  · simpa only [rdI_, rdJ1, fdk, fmk, tj hj, ne_eq, not_false_eq_true, Nat.add_left_cancel_iff, Nat.reduceEqDiff, reduceIte] using i7
  · simpa only [rdI_, rdJ1, fdk, fmk, tj hj, ne_eq, not_false_eq_true, Nat.add_left_cancel_iff, Nat.reduceEqDiff, reduceIte] using i8
  · simp only [rdI_, rdJ1, fdk, fmk, tj hj, ne_eq, not_false_eq_true, Nat.add_left_cancel_iff, Nat.reduceEqDiff, reduceIte]
    exact Or.inr hd
  · simp only [rdI_, rdJ1, fdk, fmk, tj hj, ne_eq, not_false_eq_true, Nat.add_left_cancel_iff, Nat.reduceEqDiff, reduceIte]
    exact ⟨c, hc, rfl⟩
  · simpa only [rdI_, rdJ1, fdk, fmk, tj hj, ne_eq, not_false_eq_true, Nat.add_left_cancel_iff, Nat.reduceEqDiff, reduceIte] using i11
  · simpa only [rdI_, rdJ1, fdk, fmk, tj hj, ne_eq, not_false_eq_true, Nat.add_left_cancel_iff, Nat.reduceEqDiff, reduceIte] using i12
theorem ri_clr (hj : j < 4) (h : RI j σ τ) : RI j (mmI σ (10 * j + 4) 2 0) (mmI τ 48 j 0) := by
  obtain ⟨x0, x1, x2, x3, x4, x5, x6, x7, t0, t1, t2, t3, t4, s0, s1, s2, dv, he, w0, w1, w2, w3, i1, i2, i3, i4, i5, i6, i7, i8, i9, i10, i11, i12⟩ := h
  unfold RI
  refine ⟨?_, ?_, ?_, ?_, ?_, ?_, ?_, ?_, ?_, ?_, ?_, ?_, ?_, ?_, ?_, ?_, ?_, ?_, ?_, ?_, ?_, ?_, ?_, ?_, ?_, ?_, ?_, ?_, ?_, ?_, ?_, ?_, ?_, ?_⟩
  · simpa only [rdI_, rdJ1, fdk, fmk, tj hj, ne_eq, not_false_eq_true, Nat.add_left_cancel_iff, Nat.reduceEqDiff, reduceIte] using x0
  · simpa only [rdI_, rdJ1, fdk, fmk, tj hj, ne_eq, not_false_eq_true, Nat.add_left_cancel_iff, Nat.reduceEqDiff, reduceIte] using x1
  · simpa only [rdI_, rdJ1, fdk, fmk, tj hj, ne_eq, not_false_eq_true, Nat.add_left_cancel_iff, Nat.reduceEqDiff, reduceIte] using x2
  · simpa only [rdI_, rdJ1, fdk, fmk, tj hj, ne_eq, not_false_eq_true, Nat.add_left_cancel_iff, Nat.reduceEqDiff, reduceIte] using x3
  · simpa only [rdI_, rdJ1, fdk, fmk, tj hj, ne_eq, not_false_eq_true, Nat.add_left_cancel_iff, Nat.reduceEqDiff, reduceIte] using x4
  · simpa only [rdI_, rdJ1, fdk, fmk, tj hj, ne_eq, not_false_eq_true, Nat.add_left_cancel_iff, Nat.reduceEqDiff, reduceIte] using x5
  · simpa only [rdI_, rdJ1, fdk, fmk, tj hj, ne_eq, not_false_eq_true, Nat.add_left_cancel_iff, Nat.reduceEqDiff, reduceIte] using x6
  · simpa only [rdI_, rdJ1, fdk, fmk, tj hj, ne_eq, not_false_eq_true, Nat.add_left_cancel_iff, Nat.reduceEqDiff, reduceIte] using x7
  · simpa only [rdI_, rdJ1, fdk, fmk, tj hj, ne_eq, not_false_eq_true, Nat.add_left_cancel_iff, Nat.reduceEqDiff, reduceIte] using t0
  · simpa only [rdI_, rdJ1, fdk, fmk, tj hj, ne_eq, not_false_eq_true, Nat.add_left_cancel_iff, Nat.reduceEqDiff, reduceIte] using t1
  · simpa only [rdI_, rdJ1, fdk, fmk, tj hj, ne_eq, not_false_eq_true, Nat.add_left_cancel_iff, Nat.reduceEqDiff, reduceIte] using t2
  · simpa only [rdI_, rdJ1, fdk, fmk, tj hj, ne_eq, not_false_eq_true, Nat.add_left_cancel_iff, Nat.reduceEqDiff, reduceIte] using t3
  · simpa only [rdI_, rdJ1, fdk, fmk, tj hj, ne_eq, not_false_eq_true, Nat.add_left_cancel_iff, Nat.reduceEqDiff, reduceIte] using t4
  · simpa only [rdI_, rdJ1, fdk, fmk, tj hj, ne_eq, not_false_eq_true, Nat.add_left_cancel_iff, Nat.reduceEqDiff, reduceIte] using s0
  · simpa only [rdI_, rdJ1, fdk, fmk, tj hj, ne_eq, not_false_eq_true, Nat.add_left_cancel_iff, Nat.reduceEqDiff, reduceIte] using s1
  · simp only [rdI_, rdJ1, fdk, fmk, tj hj, ne_eq, not_false_eq_true, Nat.add_left_cancel_iff, Nat.reduceEqDiff, reduceIte]
  · simpa only [rdI_, rdJ1, fdk, fmk, tj hj, ne_eq, not_false_eq_true, Nat.add_left_cancel_iff, Nat.reduceEqDiff, reduceIte] using dv
  · simpa only [rdI_, rdJ1, fdk, fmk, tj hj, ne_eq, not_false_eq_true, Nat.add_left_cancel_iff, Nat.reduceEqDiff, reduceIte] using he
  · simpa only [rdI_, rdJ1, fdk, fmk, tj hj, ne_eq, not_false_eq_true, Nat.add_left_cancel_iff, Nat.reduceEqDiff, reduceIte] using w0
  · simpa only [rdI_, rdJ1, fdk, fmk, tj hj, ne_eq, not_false_eq_true, Nat.add_left_cancel_iff, Nat.reduceEqDiff, reduceIte] using w1
  · simpa only [rdI_, rdJ1, fdk, fmk, tj hj, ne_eq, not_false_eq_true, Nat.add_left_cancel_iff, Nat.reduceEqDiff, reduceIte] using w2
  · simpa only [rdI_, rdJ1, fdk, fmk, tj hj, ne_eq, not_false_eq_true, Nat.add_left_cancel_iff, Nat.reduceEqDiff, reduceIte] using w3
  · simpa only [rdI_, rdJ1, fdk, fmk, tj hj, ne_eq, not_false_eq_true, Nat.add_left_cancel_iff, Nat.reduceEqDiff, reduceIte] using i1
  · simpa only [rdI_, rdJ1, fdk, fmk, tj hj, ne_eq, not_false_eq_true, Nat.add_left_cancel_iff, Nat.reduceEqDiff, reduceIte] using i2
  · simpa only [rdI_, rdJ1, fdk, fmk, tj hj, ne_eq, not_false_eq_true, Nat.add_left_cancel_iff, Nat.reduceEqDiff, reduceIte] using i3
  · simpa only [rdI_, rdJ1, fdk, fmk, tj hj, ne_eq, not_false_eq_true, Nat.add_left_cancel_iff, Nat.reduceEqDiff, reduceIte] using i4
  · simpa only [rdI_, rdJ1, fdk, fmk, tj hj, ne_eq, not_false_eq_true, Nat.add_left_cancel_iff, Nat.reduceEqDiff, reduceIte] using i5
  · simpa only [rdI_, rdJ1, fdk, fmk, tj hj, ne_eq, not_false_eq_true, Nat.add_left_cancel_iff, Nat.reduceEqDiff, reduceIte] using i6
  · simpa only [rdI_, rdJ1, fdk, fmk, tj hj, ne_eq, not_false_eq_true, Nat.add_left_cancel_iff, Nat.reduceEqDiff, reduceIte] using i7
  · simpa only [rdI_, rdJ1, fdk, fmk, tj hj, ne_eq, not_false_eq_true, Nat.add_left_cancel_iff, Nat.reduceEqDiff, reduceIte] using i8
  · exact Or.inl (by simp only [rdI_, rdJ1, fdk, fmk, tj hj, ne_eq, not_false_eq_true, Nat.add_left_cancel_iff, Nat.reduceEqDiff, reduceIte])
  · simpa only [rdI_, rdJ1, fdk, fmk, tj hj, ne_eq, not_false_eq_true, Nat.add_left_cancel_iff, Nat.reduceEqDiff, reduceIte] using i10
  · simpa only [rdI_, rdJ1, fdk, fmk, tj hj, ne_eq, not_false_eq_true, Nat.add_left_cancel_iff, Nat.reduceEqDiff, reduceIte] using i11
  · simpa only [rdI_, rdJ1, fdk, fmk, tj hj, ne_eq, not_false_eq_true, Nat.add_left_cancel_iff, Nat.reduceEqDiff, reduceIte] using i12
theorem ri_q0 (hj : j < 4) (h : RI j σ τ) : RI j (mmI σ (10 * j + 4) 0 0) (mmI τ 46 j 0) := by
  obtain ⟨x0, x1, x2, x3, x4, x5, x6, x7, t0, t1, t2, t3, t4, s0, s1, s2, dv, he, w0, w1, w2, w3, i1, i2, i3, i4, i5, i6, i7, i8, i9, i10, i11, i12⟩ := h
  unfold RI
  refine ⟨?_, ?_, ?_, ?_, ?_, ?_, ?_, ?_, ?_, ?_, ?_, ?_, ?_, ?_, ?_, ?_, ?_, ?_, ?_, ?_, ?_, ?_, ?_, ?_, ?_, ?_, ?_, ?_, ?_, ?_, ?_, ?_, ?_, ?_⟩
  · simpa only [rdI_, rdJ1, fdk, fmk, tj hj, ne_eq, not_false_eq_true, Nat.add_left_cancel_iff, Nat.reduceEqDiff, reduceIte] using x0
  · simpa only [rdI_, rdJ1, fdk, fmk, tj hj, ne_eq, not_false_eq_true, Nat.add_left_cancel_iff, Nat.reduceEqDiff, reduceIte] using x1
  · simpa only [rdI_, rdJ1, fdk, fmk, tj hj, ne_eq, not_false_eq_true, Nat.add_left_cancel_iff, Nat.reduceEqDiff, reduceIte] using x2
  · simpa only [rdI_, rdJ1, fdk, fmk, tj hj, ne_eq, not_false_eq_true, Nat.add_left_cancel_iff, Nat.reduceEqDiff, reduceIte] using x3
  · simpa only [rdI_, rdJ1, fdk, fmk, tj hj, ne_eq, not_false_eq_true, Nat.add_left_cancel_iff, Nat.reduceEqDiff, reduceIte] using x4
  · simpa only [rdI_, rdJ1, fdk, fmk, tj hj, ne_eq, not_false_eq_true, Nat.add_left_cancel_iff, Nat.reduceEqDiff, reduceIte] using x5
  · simpa only [rdI_, rdJ1, fdk, fmk, tj hj, ne_eq, not_false_eq_true, Nat.add_left_cancel_iff, Nat.reduceEqDiff, reduceIte] using x6
  · simpa only [rdI_, rdJ1, fdk, fmk, tj hj, ne_eq, not_false_eq_true, Nat.add_left_cancel_iff, Nat.reduceEqDiff, reduceIte] using x7
  · simpa only [rdI_, rdJ1, fdk, fmk, tj hj, ne_eq, not_false_eq_true, Nat.add_left_cancel_iff, Nat.reduceEqDiff, reduceIte] using t0
  · simpa only [rdI_, rdJ1, fdk, fmk, tj hj, ne_eq, not_false_eq_true, Nat.add_left_cancel_iff, Nat.reduceEqDiff, reduceIte] using t1
  · simpa only [rdI_, rdJ1, fdk, fmk, tj hj, ne_eq, not_false_eq_true, Nat.add_left_cancel_iff, Nat.reduceEqDiff, reduceIte] using t2
  · simpa only [rdI_, rdJ1, fdk, fmk, tj hj, ne_eq, not_false_eq_true, Nat.add_left_cancel_iff, Nat.reduceEqDiff, reduceIte] using t3
  · simpa only [rdI_, rdJ1, fdk, fmk, tj hj, ne_eq, not_false_eq_true, Nat.add_left_cancel_iff, Nat.reduceEqDiff, reduceIte] using t4
  · simp only [rdI_, rdJ1, fdk, fmk, tj hj, ne_eq, not_false_eq_true, Nat.add_left_cancel_iff, Nat.reduceEqDiff, reduceIte]
  · simpa only [rdI_, rdJ1, fdk, fmk, tj hj, ne_eq, not_false_eq_true, Nat.add_left_cancel_iff, Nat.reduceEqDiff, reduceIte] using s1
  · simpa only [rdI_, rdJ1, fdk, fmk, tj hj, ne_eq, not_false_eq_true, Nat.add_left_cancel_iff, Nat.reduceEqDiff, reduceIte] using s2
  · simpa only [rdI_, rdJ1, fdk, fmk, tj hj, ne_eq, not_false_eq_true, Nat.add_left_cancel_iff, Nat.reduceEqDiff, reduceIte] using dv
  · simpa only [rdI_, rdJ1, fdk, fmk, tj hj, ne_eq, not_false_eq_true, Nat.add_left_cancel_iff, Nat.reduceEqDiff, reduceIte] using he
  · simpa only [rdI_, rdJ1, fdk, fmk, tj hj, ne_eq, not_false_eq_true, Nat.add_left_cancel_iff, Nat.reduceEqDiff, reduceIte] using w0
  · simpa only [rdI_, rdJ1, fdk, fmk, tj hj, ne_eq, not_false_eq_true, Nat.add_left_cancel_iff, Nat.reduceEqDiff, reduceIte] using w1
  · simpa only [rdI_, rdJ1, fdk, fmk, tj hj, ne_eq, not_false_eq_true, Nat.add_left_cancel_iff, Nat.reduceEqDiff, reduceIte] using w2
  · simpa only [rdI_, rdJ1, fdk, fmk, tj hj, ne_eq, not_false_eq_true, Nat.add_left_cancel_iff, Nat.reduceEqDiff, reduceIte] using w3
  · simpa only [rdI_, rdJ1, fdk, fmk, tj hj, ne_eq, not_false_eq_true, Nat.add_left_cancel_iff, Nat.reduceEqDiff, reduceIte] using i1
  · simpa only [rdI_, rdJ1, fdk, fmk, tj hj, ne_eq, not_false_eq_true, Nat.add_left_cancel_iff, Nat.reduceEqDiff, reduceIte] using i2
  · simpa only [rdI_, rdJ1, fdk, fmk, tj hj, ne_eq, not_false_eq_true, Nat.add_left_cancel_iff, Nat.reduceEqDiff, reduceIte] using i3
  · simpa only [rdI_, rdJ1, fdk, fmk, tj hj, ne_eq, not_false_eq_true, Nat.add_left_cancel_iff, Nat.reduceEqDiff, reduceIte] using i4
  · simpa only [rdI_, rdJ1, fdk, fmk, tj hj, ne_eq, not_false_eq_true, Nat.add_left_cancel_iff, Nat.reduceEqDiff, reduceIte] using i5
  · simpa only [rdI_, rdJ1, fdk, fmk, tj hj, ne_eq, not_false_eq_true, Nat.add_left_cancel_iff, Nat.reduceEqDiff, reduceIte] using i6
  · simpa only [rdI_, rdJ1, fdk, fmk, tj hj, ne_eq, not_false_eq_true, Nat.add_left_cancel_iff, Nat.reduceEqDiff, reduceIte] using i7
  · simpa only [rdI_, rdJ1, fdk, fmk, tj hj, ne_eq, not_false_eq_true, Nat.add_left_cancel_iff, Nat.reduceEqDiff, reduceIte] using i8
  · simpa only [rdI_, rdJ1, fdk, fmk, tj hj, ne_eq, not_false_eq_true, Nat.add_left_cancel_iff, Nat.reduceEqDiff, reduceIte] using i9
  · simpa only [rdI_, rdJ1, fdk, fmk, tj hj, ne_eq, not_false_eq_true, Nat.add_left_cancel_iff, Nat.reduceEqDiff, reduceIte] using i10
  · simpa only [rdI_, rdJ1, fdk, fmk, tj hj, ne_eq, not_false_eq_true, Nat.add_left_cancel_iff, Nat.reduceEqDiff, reduceIte] using i11
  · simpa only [rdI_, rdJ1, fdk, fmk, tj hj, ne_eq, not_false_eq_true, Nat.add_left_cancel_iff, Nat.reduceEqDiff, reduceIte] using i12
theorem ri_W (hj : j < 4) (h : RI j σ τ) {d : Int32} (hd : d = 1 ∨ d = 2) {c : Nat} (hc : c < 64) : RI j (Wc j d (Int32.ofNat c) σ) (Wn j d (Int32.ofNat c) τ) := by
  unfold Wc Wn
  by_cases z : Int32.ofNat c - Int32.ofNat c / 2 * 2 = 0
  · rw [if_pos z, if_pos z]; exact ri_set hj h hd hc
  · rw [if_neg z, if_neg z]; exact ri_clr hj h
theorem fF : ∀ k, k < 64 → ¬ 64 * (1 : Int32) + Int32.ofNat k ≤ 0 ∧ ¬ 64 * (2 : Int32) + Int32.ofNat k ≤ 0 ∧ (64 * (1 : Int32) + Int32.ofNat k) / 64 = 1 ∧ (64 * (2 : Int32) + Int32.ofNat k) / 64 = 2 := by decide +kernel
theorem ri_N (hj : j < 4) (h : RI j σ τ) {d : Int32} (hd : d = 1 ∨ d = 2) {c : Nat} (hc : c < 64) : RI j (sp_s_note j d (Int32.ofNat c) σ) (Nn j d (Int32.ofNat c) τ) := by
  have hW := ri_W hj h hd hc
  have s1 : σ.1 (10 * j + 4) 1 = τ.1 47 j := h.2.2.2.2.2.2.2.2.2.2.2.2.2.2.1
  have s2 : (if σ.1 (10 * j + 4) 2 = 0 then 0 else 64 * σ.1 (10 * j + 4) 2 + σ.1 (10 * j + 4) 3) = τ.1 48 j := h.2.2.2.2.2.2.2.2.2.2.2.2.2.2.2.1
  have i9 : σ.1 (10 * j + 4) 2 = 0 ∨ σ.1 (10 * j + 4) 2 = 1 ∨ σ.1 (10 * j + 4) 2 = 2 := h.2.2.2.2.2.2.2.2.2.2.2.2.2.2.2.2.2.2.2.2.2.2.2.2.2.2.2.2.2.2.1
  have i10 : ∃ c, c < 64 ∧ σ.1 (10 * j + 4) 3 = Int32.ofNat c := h.2.2.2.2.2.2.2.2.2.2.2.2.2.2.2.2.2.2.2.2.2.2.2.2.2.2.2.2.2.2.2.1
  rw [note_eq]
  unfold Nn
  rw [s1]
  by_cases z0 : σ.1 (10 * j + 4) 2 = 0
  · rw [if_pos z0] at s2
    rw [if_pos z0, ← s2, if_pos (by decide)]
    exact hW
  · rw [if_neg z0] at s2
    obtain ⟨k, hk, ek⟩ := i10
    obtain ⟨f1, f2, f3, f4⟩ := fF k hk
    rw [ek] at s2
    have hle : ¬ τ.1 48 j ≤ 0 := by
      rcases i9 with q | q | q
      · exact absurd q z0
      · rw [← s2, q]; exact f1
      · rw [← s2, q]; exact f2
    have hdiv : τ.1 48 j / 64 = σ.1 (10 * j + 4) 2 := by
      rcases i9 with q | q | q
      · exact absurd q z0
      · rw [← s2, q]; exact f3
      · rw [← s2, q]; exact f4
    rw [if_neg z0, if_neg hle, hdiv]
    by_cases z1 : σ.1 (10 * j + 4) 2 = d
    · rw [if_pos z1, if_pos z1]; exact hW
    · rw [if_neg z1, if_neg z1]
      by_cases z2 : 90 < τ.1 47 j
      · rw [if_pos z2, if_pos z2]; exact hW
      · rw [if_neg z2, if_neg z2]; exact h
theorem c_ti {c : Nat} (hc : c < 64) : (Int32.ofNat c).toInt = c := Int32.toInt_ofNat_of_lt (by omega)
theorem b64 {d : Int32} {c : Nat} (hd : d = 1 ∨ d = 2) (hc : c < 64) : (64 * d + Int32.ofNat c).toInt = 64 * d.toInt + c ∧ ((64 * d + Int32.ofNat c) - 1).toInt = 64 * d.toInt + c - 1 ∧ 1 ≤ d.toInt ∧ d.toInt ≤ 2 := by
  have e1 : (64 * d).toInt = 64 * d.toInt ∧ 1 ≤ d.toInt ∧ d.toInt ≤ 2 := by rcases hd with rfl | rfl <;> decide
  obtain ⟨e1, e2, e3⟩ := e1
  have e4 := c_ti hc
  have f : (64 * d + Int32.ofNat c).toInt = 64 * d.toInt + c := by rw [ti_add (by omega) (by omega) (by omega) (by omega), e1, e4]
  refine ⟨f, ?_, e2, e3⟩
  rw [ti_sub (by omega) (by omega) (by decide) (by decide), f]
  rfl
theorem fT {f d : Int32} (hf : f = 1 ∨ f = 2) (hd : d = 1 ∨ d = 2) {k c : Nat} (hk : k < 64) (hc : c < 64) : (¬ Int32.ofNat c ≤ 0 ∧ 64 * f + Int32.ofNat k = (64 * d + Int32.ofNat c) - 1) ↔ (d = f ∧ Int32.ofNat c = Int32.ofNat k + 1) := by
  obtain ⟨a1, -, a3, a4⟩ := b64 hf hk
  obtain ⟨-, b2, b3, b4⟩ := b64 hd hc
  have e1 : (1 : Int32).toInt = 1 := by decide
  have k1 : (Int32.ofNat k + 1).toInt = k + 1 := by rw [ti_add (by rw [c_ti hk]; omega) (by rw [c_ti hk]; omega) (by decide) (by decide), c_ti hk, e1]
  rw [Int32.le_iff_toInt_le, ← Int32.toInt_inj, ← Int32.toInt_inj (x := d), ← Int32.toInt_inj (x := Int32.ofNat c), a1, b2, k1, c_ti hc, i0]
  omega
theorem f0 {d : Int32} (hd : d = 1 ∨ d = 2) {c : Nat} (hc : c < 64) : ¬ (0 : Int32) = (64 * d + Int32.ofNat c) - 1 := by
  obtain ⟨-, b2, b3, b4⟩ := b64 hd hc
  rw [← Int32.toInt_inj, b2, i0]
  omega
theorem ri_note (hj : j < 4) (h : RI j σ τ) {d : Int32} (hd : d = 1 ∨ d = 2) {c : Nat} (hc : c < 64) : RI j (sp_n_hearListening j d (Int32.ofNat c) σ) (sp_m_notice (Int32.ofNat j) d (Int32.ofNat c) τ) := by
  have hN := ri_N hj h hd hc
  have s1 : σ.1 (10 * j + 4) 1 = τ.1 47 j := h.2.2.2.2.2.2.2.2.2.2.2.2.2.2.1
  have s2 : (if σ.1 (10 * j + 4) 2 = 0 then 0 else 64 * σ.1 (10 * j + 4) 2 + σ.1 (10 * j + 4) 3) = τ.1 48 j := h.2.2.2.2.2.2.2.2.2.2.2.2.2.2.2.1
  have i9 : σ.1 (10 * j + 4) 2 = 0 ∨ σ.1 (10 * j + 4) 2 = 1 ∨ σ.1 (10 * j + 4) 2 = 2 := h.2.2.2.2.2.2.2.2.2.2.2.2.2.2.2.2.2.2.2.2.2.2.2.2.2.2.2.2.2.2.1
  have i10 : ∃ c, c < 64 ∧ σ.1 (10 * j + 4) 3 = Int32.ofNat c := h.2.2.2.2.2.2.2.2.2.2.2.2.2.2.2.2.2.2.2.2.2.2.2.2.2.2.2.2.2.2.2.1
  obtain ⟨k, hk, ek⟩ := i10
  rw [notice_eq hj]
  unfold sp_n_hearListening
  by_cases hS : d = σ.1 (10 * j + 4) 2 ∧ Int32.ofNat c = Int32.ofNat k + 1
  · have hf : σ.1 (10 * j + 4) 2 = 1 ∨ σ.1 (10 * j + 4) 2 = 2 := by rw [← hS.1]; exact hd
    have z0 : ¬ σ.1 (10 * j + 4) 2 = 0 := by rcases hf with q | q <;> rw [q] <;> decide
    rw [if_neg z0, ek] at s2
    obtain ⟨g1, g2⟩ := (fT hf hd hk hc).mpr hS
    rw [if_neg g1, if_pos (s2.symm.trans g2)]
    have hse : sp_s_isSecond j d (Int32.ofNat c) σ = if sp_b_isWithin (τ.1 47 j) 70 90 σ = 0 then 0 else 1 := by
      unfold sp_s_isSecond
      rw [if_pos hS.1, ek, if_pos hS.2, s1]
    rw [hse]
    unfold sp_b_isWithin
    by_cases c1 : τ.1 47 j < 70
    · rw [if_pos c1, if_pos rfl, if_pos rfl, if_pos c1]; exact hN
    · rw [if_neg c1, if_neg c1]
      by_cases c2 : 90 < τ.1 47 j
      · rw [if_pos c2, if_pos rfl, if_pos rfl, if_pos c2]; exact hN
      · rw [if_neg c2, if_neg (show ¬ (1 : Int32) = 0 by decide), if_neg (show ¬ (1 : Int32) = 0 by decide), if_neg c2]
        have em : sp_n_dueAt (d - 1) σ = 10 * d - 6 := by
          unfold sp_n_dueAt
          rcases hd with rfl | rfl <;> decide
        rw [em, s1]
        refine ri_begin hj h (fun _ => lim_eq) ⟨c, hc, rfl⟩ ?_
        rcases hd with rfl | rfl <;> decide
  · have hse : sp_s_isSecond j d (Int32.ofNat c) σ = 0 := by
      unfold sp_s_isSecond
      by_cases q : d = σ.1 (10 * j + 4) 2
      · rw [if_pos q, ek, if_neg (fun z => hS ⟨q, z⟩)]
      · rw [if_neg q]
    rw [hse, if_pos rfl]
    by_cases c1 : Int32.ofNat c ≤ 0
    · rw [if_pos c1]; exact hN
    · rw [if_neg c1]
      have hne : ¬ τ.1 48 j = (64 * d + Int32.ofNat c) - 1 := by
        rw [← s2]
        rcases i9 with q | q
        · rw [if_pos q]; exact f0 hd hc
        · have z0 : ¬ σ.1 (10 * j + 4) 2 = 0 := by rcases q with q | q <;> rw [q] <;> decide
          rw [if_neg z0, ek]
          exact fun z => hS ((fT q hd hk hc).mp ⟨c1, z⟩)
      rw [if_neg hne]; exact hN
theorem add1 (v : Int32) : v + 1 = 1 + v := Int32.add_comm _ _
theorem ri_heard (hj : j < 4) (h : RI j σ τ) (i : Nat) (v : Int32) : RI j (mmI σ (10 * j + 11) i v) (mmI τ 58 (10 * j + i) (1 + v)) := by
  obtain ⟨x0, x1, x2, x3, x4, x5, x6, x7, t0, t1, t2, t3, t4, s0, s1, s2, dv, he, w0, w1, w2, w3, i1, i2, i3, i4, i5, i6, i7, i8, i9, i10, i11, i12⟩ := h
  unfold RI
  refine ⟨?_, ?_, ?_, ?_, ?_, ?_, ?_, ?_, ?_, ?_, ?_, ?_, ?_, ?_, ?_, ?_, ?_, ?_, ?_, ?_, ?_, ?_, ?_, ?_, ?_, ?_, ?_, ?_, ?_, ?_, ?_, ?_, ?_, ?_⟩
  · simpa only [rdI_, rdJ1, fdk, fmk, tj hj, ne_eq, not_false_eq_true, Nat.add_left_cancel_iff, Nat.reduceEqDiff, reduceIte] using x0
  · simpa only [rdI_, rdJ1, fdk, fmk, tj hj, ne_eq, not_false_eq_true, Nat.add_left_cancel_iff, Nat.reduceEqDiff, reduceIte] using x1
  · simpa only [rdI_, rdJ1, fdk, fmk, tj hj, ne_eq, not_false_eq_true, Nat.add_left_cancel_iff, Nat.reduceEqDiff, reduceIte] using x2
  · simpa only [rdI_, rdJ1, fdk, fmk, tj hj, ne_eq, not_false_eq_true, Nat.add_left_cancel_iff, Nat.reduceEqDiff, reduceIte] using x3
  · simpa only [rdI_, rdJ1, fdk, fmk, tj hj, ne_eq, not_false_eq_true, Nat.add_left_cancel_iff, Nat.reduceEqDiff, reduceIte] using x4
  · simpa only [rdI_, rdJ1, fdk, fmk, tj hj, ne_eq, not_false_eq_true, Nat.add_left_cancel_iff, Nat.reduceEqDiff, reduceIte] using x5
  · simpa only [rdI_, rdJ1, fdk, fmk, tj hj, ne_eq, not_false_eq_true, Nat.add_left_cancel_iff, Nat.reduceEqDiff, reduceIte] using x6
  · simpa only [rdI_, rdJ1, fdk, fmk, tj hj, ne_eq, not_false_eq_true, Nat.add_left_cancel_iff, Nat.reduceEqDiff, reduceIte] using x7
  · simpa only [rdI_, rdJ1, fdk, fmk, tj hj, ne_eq, not_false_eq_true, Nat.add_left_cancel_iff, Nat.reduceEqDiff, reduceIte] using t0
  · simpa only [rdI_, rdJ1, fdk, fmk, tj hj, ne_eq, not_false_eq_true, Nat.add_left_cancel_iff, Nat.reduceEqDiff, reduceIte] using t1
  · simpa only [rdI_, rdJ1, fdk, fmk, tj hj, ne_eq, not_false_eq_true, Nat.add_left_cancel_iff, Nat.reduceEqDiff, reduceIte] using t2
  · simpa only [rdI_, rdJ1, fdk, fmk, tj hj, ne_eq, not_false_eq_true, Nat.add_left_cancel_iff, Nat.reduceEqDiff, reduceIte] using t3
  · simpa only [rdI_, rdJ1, fdk, fmk, tj hj, ne_eq, not_false_eq_true, Nat.add_left_cancel_iff, Nat.reduceEqDiff, reduceIte] using t4
  · simpa only [rdI_, rdJ1, fdk, fmk, tj hj, ne_eq, not_false_eq_true, Nat.add_left_cancel_iff, Nat.reduceEqDiff, reduceIte] using s0
  · simpa only [rdI_, rdJ1, fdk, fmk, tj hj, ne_eq, not_false_eq_true, Nat.add_left_cancel_iff, Nat.reduceEqDiff, reduceIte] using s1
  · simpa only [rdI_, rdJ1, fdk, fmk, tj hj, ne_eq, not_false_eq_true, Nat.add_left_cancel_iff, Nat.reduceEqDiff, reduceIte] using s2
  · simpa only [rdI_, rdJ1, fdk, fmk, tj hj, ne_eq, not_false_eq_true, Nat.add_left_cancel_iff, Nat.reduceEqDiff, reduceIte] using dv
  · intro m hm
    by_cases z : m = i
    · subst z
      rw [rdS, rdS]
      exact add1 v
    · rw [rdI z, rdI (by omega)]
      exact he m hm
  · simpa only [rdI_, rdJ1, fdk, fmk, tj hj, ne_eq, not_false_eq_true, Nat.add_left_cancel_iff, Nat.reduceEqDiff, reduceIte] using w0
  · simpa only [rdI_, rdJ1, fdk, fmk, tj hj, ne_eq, not_false_eq_true, Nat.add_left_cancel_iff, Nat.reduceEqDiff, reduceIte] using w1
  · simpa only [rdI_, rdJ1, fdk, fmk, tj hj, ne_eq, not_false_eq_true, Nat.add_left_cancel_iff, Nat.reduceEqDiff, reduceIte] using w2
  · simpa only [rdI_, rdJ1, fdk, fmk, tj hj, ne_eq, not_false_eq_true, Nat.add_left_cancel_iff, Nat.reduceEqDiff, reduceIte] using w3
  · simpa only [rdI_, rdJ1, fdk, fmk, tj hj, ne_eq, not_false_eq_true, Nat.add_left_cancel_iff, Nat.reduceEqDiff, reduceIte] using i1
  · simpa only [rdI_, rdJ1, fdk, fmk, tj hj, ne_eq, not_false_eq_true, Nat.add_left_cancel_iff, Nat.reduceEqDiff, reduceIte] using i2
  · simpa only [rdI_, rdJ1, fdk, fmk, tj hj, ne_eq, not_false_eq_true, Nat.add_left_cancel_iff, Nat.reduceEqDiff, reduceIte] using i3
  · simpa only [rdI_, rdJ1, fdk, fmk, tj hj, ne_eq, not_false_eq_true, Nat.add_left_cancel_iff, Nat.reduceEqDiff, reduceIte] using i4
  · simpa only [rdI_, rdJ1, fdk, fmk, tj hj, ne_eq, not_false_eq_true, Nat.add_left_cancel_iff, Nat.reduceEqDiff, reduceIte] using i5
  · simpa only [rdI_, rdJ1, fdk, fmk, tj hj, ne_eq, not_false_eq_true, Nat.add_left_cancel_iff, Nat.reduceEqDiff, reduceIte] using i6
  · simpa only [rdI_, rdJ1, fdk, fmk, tj hj, ne_eq, not_false_eq_true, Nat.add_left_cancel_iff, Nat.reduceEqDiff, reduceIte] using i7
  · simpa only [rdI_, rdJ1, fdk, fmk, tj hj, ne_eq, not_false_eq_true, Nat.add_left_cancel_iff, Nat.reduceEqDiff, reduceIte] using i8
  · simpa only [rdI_, rdJ1, fdk, fmk, tj hj, ne_eq, not_false_eq_true, Nat.add_left_cancel_iff, Nat.reduceEqDiff, reduceIte] using i9
  · simpa only [rdI_, rdJ1, fdk, fmk, tj hj, ne_eq, not_false_eq_true, Nat.add_left_cancel_iff, Nat.reduceEqDiff, reduceIte] using i10
  · simpa only [rdI_, rdJ1, fdk, fmk, tj hj, ne_eq, not_false_eq_true, Nat.add_left_cancel_iff, Nat.reduceEqDiff, reduceIte] using i11
  · simpa only [rdI_, rdJ1, fdk, fmk, tj hj, ne_eq, not_false_eq_true, Nat.add_left_cancel_iff, Nat.reduceEqDiff, reduceIte] using i12
theorem ri_dev_ev (hj : j < 4) (h : RI j σ τ) {k : Nat} (hk : k < 4) {d : Int32} (hd : rg d (-3) 3) : RI j (mmI σ (10 * j + 6) k d) (mmI τ 57 (8 * j + (2 * k)) d) := by
  obtain ⟨x0, x1, x2, x3, x4, x5, x6, x7, t0, t1, t2, t3, t4, s0, s1, s2, dv, he, w0, w1, w2, w3, i1, i2, i3, i4, i5, i6, i7, i8, i9, i10, i11, i12⟩ := h
  have hcv : cv d = d := if_neg (fun z => by rw [z] at hd; exact absurd hd.2 (by decide))
  unfold RI
  refine ⟨?_, ?_, ?_, ?_, ?_, ?_, ?_, ?_, ?_, ?_, ?_, ?_, ?_, ?_, ?_, ?_, ?_, ?_, ?_, ?_, ?_, ?_, ?_, ?_, ?_, ?_, ?_, ?_, ?_, ?_, ?_, ?_, ?_, ?_⟩
  · simpa only [rdI_, rdJ1, fdk, fmk, tj hj, ne_eq, not_false_eq_true, Nat.add_left_cancel_iff, Nat.reduceEqDiff, reduceIte] using x0
  · simpa only [rdI_, rdJ1, fdk, fmk, tj hj, ne_eq, not_false_eq_true, Nat.add_left_cancel_iff, Nat.reduceEqDiff, reduceIte] using x1
  · simpa only [rdI_, rdJ1, fdk, fmk, tj hj, ne_eq, not_false_eq_true, Nat.add_left_cancel_iff, Nat.reduceEqDiff, reduceIte] using x2
  · simpa only [rdI_, rdJ1, fdk, fmk, tj hj, ne_eq, not_false_eq_true, Nat.add_left_cancel_iff, Nat.reduceEqDiff, reduceIte] using x3
  · simpa only [rdI_, rdJ1, fdk, fmk, tj hj, ne_eq, not_false_eq_true, Nat.add_left_cancel_iff, Nat.reduceEqDiff, reduceIte] using x4
  · simpa only [rdI_, rdJ1, fdk, fmk, tj hj, ne_eq, not_false_eq_true, Nat.add_left_cancel_iff, Nat.reduceEqDiff, reduceIte] using x5
  · simpa only [rdI_, rdJ1, fdk, fmk, tj hj, ne_eq, not_false_eq_true, Nat.add_left_cancel_iff, Nat.reduceEqDiff, reduceIte] using x6
  · simpa only [rdI_, rdJ1, fdk, fmk, tj hj, ne_eq, not_false_eq_true, Nat.add_left_cancel_iff, Nat.reduceEqDiff, reduceIte] using x7
  · simpa only [rdI_, rdJ1, fdk, fmk, tj hj, ne_eq, not_false_eq_true, Nat.add_left_cancel_iff, Nat.reduceEqDiff, reduceIte] using t0
  · simpa only [rdI_, rdJ1, fdk, fmk, tj hj, ne_eq, not_false_eq_true, Nat.add_left_cancel_iff, Nat.reduceEqDiff, reduceIte] using t1
  · simpa only [rdI_, rdJ1, fdk, fmk, tj hj, ne_eq, not_false_eq_true, Nat.add_left_cancel_iff, Nat.reduceEqDiff, reduceIte] using t2
  · simpa only [rdI_, rdJ1, fdk, fmk, tj hj, ne_eq, not_false_eq_true, Nat.add_left_cancel_iff, Nat.reduceEqDiff, reduceIte] using t3
  · simpa only [rdI_, rdJ1, fdk, fmk, tj hj, ne_eq, not_false_eq_true, Nat.add_left_cancel_iff, Nat.reduceEqDiff, reduceIte] using t4
  · simpa only [rdI_, rdJ1, fdk, fmk, tj hj, ne_eq, not_false_eq_true, Nat.add_left_cancel_iff, Nat.reduceEqDiff, reduceIte] using s0
  · simpa only [rdI_, rdJ1, fdk, fmk, tj hj, ne_eq, not_false_eq_true, Nat.add_left_cancel_iff, Nat.reduceEqDiff, reduceIte] using s1
  · simpa only [rdI_, rdJ1, fdk, fmk, tj hj, ne_eq, not_false_eq_true, Nat.add_left_cancel_iff, Nat.reduceEqDiff, reduceIte] using s2
  · intro i hi
    refine ⟨?_, ?_⟩
    · by_cases z : i = k
      · subst z
        rw [rdS, rdS]
        exact hcv
      · rw [rdI z, rdI (by omega)]
        exact (dv i hi).1
    · rw [rdK (rdn (by decide)), rdI (by omega)]
      exact (dv i hi).2
  · simpa only [rdI_, rdJ1, fdk, fmk, tj hj, ne_eq, not_false_eq_true, Nat.add_left_cancel_iff, Nat.reduceEqDiff, reduceIte] using he
  · simpa only [rdI_, rdJ1, fdk, fmk, tj hj, ne_eq, not_false_eq_true, Nat.add_left_cancel_iff, Nat.reduceEqDiff, reduceIte] using w0
  · simpa only [rdI_, rdJ1, fdk, fmk, tj hj, ne_eq, not_false_eq_true, Nat.add_left_cancel_iff, Nat.reduceEqDiff, reduceIte] using w1
  · simpa only [rdI_, rdJ1, fdk, fmk, tj hj, ne_eq, not_false_eq_true, Nat.add_left_cancel_iff, Nat.reduceEqDiff, reduceIte] using w2
  · simpa only [rdI_, rdJ1, fdk, fmk, tj hj, ne_eq, not_false_eq_true, Nat.add_left_cancel_iff, Nat.reduceEqDiff, reduceIte] using w3
  · simpa only [rdI_, rdJ1, fdk, fmk, tj hj, ne_eq, not_false_eq_true, Nat.add_left_cancel_iff, Nat.reduceEqDiff, reduceIte] using i1
  · simpa only [rdI_, rdJ1, fdk, fmk, tj hj, ne_eq, not_false_eq_true, Nat.add_left_cancel_iff, Nat.reduceEqDiff, reduceIte] using i2
  · simpa only [rdI_, rdJ1, fdk, fmk, tj hj, ne_eq, not_false_eq_true, Nat.add_left_cancel_iff, Nat.reduceEqDiff, reduceIte] using i3
  · simpa only [rdI_, rdJ1, fdk, fmk, tj hj, ne_eq, not_false_eq_true, Nat.add_left_cancel_iff, Nat.reduceEqDiff, reduceIte] using i4
  · simpa only [rdI_, rdJ1, fdk, fmk, tj hj, ne_eq, not_false_eq_true, Nat.add_left_cancel_iff, Nat.reduceEqDiff, reduceIte] using i5
  · simpa only [rdI_, rdJ1, fdk, fmk, tj hj, ne_eq, not_false_eq_true, Nat.add_left_cancel_iff, Nat.reduceEqDiff, reduceIte] using i6
  · simpa only [rdI_, rdJ1, fdk, fmk, tj hj, ne_eq, not_false_eq_true, Nat.add_left_cancel_iff, Nat.reduceEqDiff, reduceIte] using i7
  · simpa only [rdI_, rdJ1, fdk, fmk, tj hj, ne_eq, not_false_eq_true, Nat.add_left_cancel_iff, Nat.reduceEqDiff, reduceIte] using i8
  · simpa only [rdI_, rdJ1, fdk, fmk, tj hj, ne_eq, not_false_eq_true, Nat.add_left_cancel_iff, Nat.reduceEqDiff, reduceIte] using i9
  · simpa only [rdI_, rdJ1, fdk, fmk, tj hj, ne_eq, not_false_eq_true, Nat.add_left_cancel_iff, Nat.reduceEqDiff, reduceIte] using i10
  · intro i hi
    refine ⟨?_, ?_⟩
    · by_cases z : i = k
      · subst z
        rw [rdS]
        exact Or.inr hd
      · rw [rdI z]
        exact (i11 i hi).1
    · rw [rdK (rdn (by decide))]
      exact (i11 i hi).2
  · simpa only [rdI_, rdJ1, fdk, fmk, tj hj, ne_eq, not_false_eq_true, Nat.add_left_cancel_iff, Nat.reduceEqDiff, reduceIte] using i12
theorem ri_dev_od (hj : j < 4) (h : RI j σ τ) {k : Nat} (hk : k < 4) {d : Int32} (hd : rg d (-3) 3) : RI j (mmI σ (10 * j + 7) k d) (mmI τ 57 (8 * j + (2 * k + 1)) d) := by
  obtain ⟨x0, x1, x2, x3, x4, x5, x6, x7, t0, t1, t2, t3, t4, s0, s1, s2, dv, he, w0, w1, w2, w3, i1, i2, i3, i4, i5, i6, i7, i8, i9, i10, i11, i12⟩ := h
  have hcv : cv d = d := if_neg (fun z => by rw [z] at hd; exact absurd hd.2 (by decide))
  unfold RI
  refine ⟨?_, ?_, ?_, ?_, ?_, ?_, ?_, ?_, ?_, ?_, ?_, ?_, ?_, ?_, ?_, ?_, ?_, ?_, ?_, ?_, ?_, ?_, ?_, ?_, ?_, ?_, ?_, ?_, ?_, ?_, ?_, ?_, ?_, ?_⟩
  · simpa only [rdI_, rdJ1, fdk, fmk, tj hj, ne_eq, not_false_eq_true, Nat.add_left_cancel_iff, Nat.reduceEqDiff, reduceIte] using x0
  · simpa only [rdI_, rdJ1, fdk, fmk, tj hj, ne_eq, not_false_eq_true, Nat.add_left_cancel_iff, Nat.reduceEqDiff, reduceIte] using x1
  · simpa only [rdI_, rdJ1, fdk, fmk, tj hj, ne_eq, not_false_eq_true, Nat.add_left_cancel_iff, Nat.reduceEqDiff, reduceIte] using x2
  · simpa only [rdI_, rdJ1, fdk, fmk, tj hj, ne_eq, not_false_eq_true, Nat.add_left_cancel_iff, Nat.reduceEqDiff, reduceIte] using x3
  · simpa only [rdI_, rdJ1, fdk, fmk, tj hj, ne_eq, not_false_eq_true, Nat.add_left_cancel_iff, Nat.reduceEqDiff, reduceIte] using x4
  · simpa only [rdI_, rdJ1, fdk, fmk, tj hj, ne_eq, not_false_eq_true, Nat.add_left_cancel_iff, Nat.reduceEqDiff, reduceIte] using x5
  · simpa only [rdI_, rdJ1, fdk, fmk, tj hj, ne_eq, not_false_eq_true, Nat.add_left_cancel_iff, Nat.reduceEqDiff, reduceIte] using x6
  · simpa only [rdI_, rdJ1, fdk, fmk, tj hj, ne_eq, not_false_eq_true, Nat.add_left_cancel_iff, Nat.reduceEqDiff, reduceIte] using x7
  · simpa only [rdI_, rdJ1, fdk, fmk, tj hj, ne_eq, not_false_eq_true, Nat.add_left_cancel_iff, Nat.reduceEqDiff, reduceIte] using t0
  · simpa only [rdI_, rdJ1, fdk, fmk, tj hj, ne_eq, not_false_eq_true, Nat.add_left_cancel_iff, Nat.reduceEqDiff, reduceIte] using t1
  · simpa only [rdI_, rdJ1, fdk, fmk, tj hj, ne_eq, not_false_eq_true, Nat.add_left_cancel_iff, Nat.reduceEqDiff, reduceIte] using t2
  · simpa only [rdI_, rdJ1, fdk, fmk, tj hj, ne_eq, not_false_eq_true, Nat.add_left_cancel_iff, Nat.reduceEqDiff, reduceIte] using t3
  · simpa only [rdI_, rdJ1, fdk, fmk, tj hj, ne_eq, not_false_eq_true, Nat.add_left_cancel_iff, Nat.reduceEqDiff, reduceIte] using t4
  · simpa only [rdI_, rdJ1, fdk, fmk, tj hj, ne_eq, not_false_eq_true, Nat.add_left_cancel_iff, Nat.reduceEqDiff, reduceIte] using s0
  · simpa only [rdI_, rdJ1, fdk, fmk, tj hj, ne_eq, not_false_eq_true, Nat.add_left_cancel_iff, Nat.reduceEqDiff, reduceIte] using s1
  · simpa only [rdI_, rdJ1, fdk, fmk, tj hj, ne_eq, not_false_eq_true, Nat.add_left_cancel_iff, Nat.reduceEqDiff, reduceIte] using s2
  · intro i hi
    refine ⟨?_, ?_⟩
    · rw [rdK (rdn (by decide)), rdI (by omega)]
      exact (dv i hi).1
    · by_cases z : i = k
      · subst z
        rw [rdS, rdS]
        exact hcv
      · rw [rdI z, rdI (by omega)]
        exact (dv i hi).2
  · simpa only [rdI_, rdJ1, fdk, fmk, tj hj, ne_eq, not_false_eq_true, Nat.add_left_cancel_iff, Nat.reduceEqDiff, reduceIte] using he
  · simpa only [rdI_, rdJ1, fdk, fmk, tj hj, ne_eq, not_false_eq_true, Nat.add_left_cancel_iff, Nat.reduceEqDiff, reduceIte] using w0
  · simpa only [rdI_, rdJ1, fdk, fmk, tj hj, ne_eq, not_false_eq_true, Nat.add_left_cancel_iff, Nat.reduceEqDiff, reduceIte] using w1
  · simpa only [rdI_, rdJ1, fdk, fmk, tj hj, ne_eq, not_false_eq_true, Nat.add_left_cancel_iff, Nat.reduceEqDiff, reduceIte] using w2
  · simpa only [rdI_, rdJ1, fdk, fmk, tj hj, ne_eq, not_false_eq_true, Nat.add_left_cancel_iff, Nat.reduceEqDiff, reduceIte] using w3
  · simpa only [rdI_, rdJ1, fdk, fmk, tj hj, ne_eq, not_false_eq_true, Nat.add_left_cancel_iff, Nat.reduceEqDiff, reduceIte] using i1
  · simpa only [rdI_, rdJ1, fdk, fmk, tj hj, ne_eq, not_false_eq_true, Nat.add_left_cancel_iff, Nat.reduceEqDiff, reduceIte] using i2
  · simpa only [rdI_, rdJ1, fdk, fmk, tj hj, ne_eq, not_false_eq_true, Nat.add_left_cancel_iff, Nat.reduceEqDiff, reduceIte] using i3
  · simpa only [rdI_, rdJ1, fdk, fmk, tj hj, ne_eq, not_false_eq_true, Nat.add_left_cancel_iff, Nat.reduceEqDiff, reduceIte] using i4
  · simpa only [rdI_, rdJ1, fdk, fmk, tj hj, ne_eq, not_false_eq_true, Nat.add_left_cancel_iff, Nat.reduceEqDiff, reduceIte] using i5
  · simpa only [rdI_, rdJ1, fdk, fmk, tj hj, ne_eq, not_false_eq_true, Nat.add_left_cancel_iff, Nat.reduceEqDiff, reduceIte] using i6
  · simpa only [rdI_, rdJ1, fdk, fmk, tj hj, ne_eq, not_false_eq_true, Nat.add_left_cancel_iff, Nat.reduceEqDiff, reduceIte] using i7
  · simpa only [rdI_, rdJ1, fdk, fmk, tj hj, ne_eq, not_false_eq_true, Nat.add_left_cancel_iff, Nat.reduceEqDiff, reduceIte] using i8
  · simpa only [rdI_, rdJ1, fdk, fmk, tj hj, ne_eq, not_false_eq_true, Nat.add_left_cancel_iff, Nat.reduceEqDiff, reduceIte] using i9
  · simpa only [rdI_, rdJ1, fdk, fmk, tj hj, ne_eq, not_false_eq_true, Nat.add_left_cancel_iff, Nat.reduceEqDiff, reduceIte] using i10
  · intro i hi
    refine ⟨?_, ?_⟩
    · rw [rdK (rdn (by decide))]
      exact (i11 i hi).1
    · by_cases z : i = k
      · subst z
        rw [rdS]
        exact Or.inr hd
      · rw [rdI z]
        exact (i11 i hi).2
  · simpa only [rdI_, rdJ1, fdk, fmk, tj hj, ne_eq, not_false_eq_true, Nat.add_left_cancel_iff, Nat.reduceEqDiff, reduceIte] using i12
theorem t10 (hj : j < 4) {d : Int32} (hd : idok d) : ((10 * Int32.ofNat j) + d).toNatClampNeg = 10 * j + d.toNatClampNeg := by
  rcases j4c hj with rfl | rfl | rfl | rfl <;> rcases id_cs hd with rfl | rfl | rfl | rfl | rfl | rfl | rfl | rfl | rfl <;> decide
theorem id5 {d : Int32} : d < 5 ↔ d ≤ 4 := by
  rw [Int32.lt_iff_toInt_lt, Int32.le_iff_toInt_le]
  have e5 : (5 : Int32).toInt = 5 := by decide
  have e4 : (4 : Int32).toInt = 4 := by decide
  omega
theorem le59 {m : Int32} : 59 < m ↔ 60 ≤ m := by
  rw [Int32.lt_iff_toInt_lt, Int32.le_iff_toInt_le]
  have e5 : (59 : Int32).toInt = 59 := by decide
  have e4 : (60 : Int32).toInt = 60 := by decide
  omega
theorem id14 {d : Int32} (h : idok d) (h4 : d ≤ 4) : ∃ k, k < 4 ∧ d = Int32.ofNat (k + 1) := by
  rcases id_cs h with rfl | rfl | rfl | rfl | rfl | rfl | rfl | rfl | rfl
  · exact ⟨0, by decide, rfl⟩
  · exact ⟨1, by decide, rfl⟩
  · exact ⟨2, by decide, rfl⟩
  · exact ⟨3, by decide, rfl⟩
  all_goals exact absurd h4 (by decide)
theorem d_lit {m a b : Int32} (hm : -1000 ≤ m.toInt ∧ m.toInt ≤ 1000) (ha : 0 ≤ a.toInt ∧ a.toInt ≤ 100) (hb : b.toInt = a.toInt + 6) : m - a = (m - b) + 6 := by
  apply Int32.toInt_inj.mp
  have e6 : (6 : Int32).toInt = 6 := by decide
  have h1 : (m - b).toInt = m.toInt - b.toInt := ti_sub (by omega) (by omega) (by omega) (by omega)
  rw [ti_sub (by omega) (by omega) (by omega) (by omega), ti_add (by rw [h1]; omega) (by rw [h1]; omega) (by decide) (by decide), h1, e6]
  omega
theorem d_eq {m : Int32} (hm : -1000 ≤ m.toInt ∧ m.toInt ≤ 1000) {k : Nat} (hk : k < 4) : m - ((10 * (Int32.ofNat (k + 1) - 1)) + 4) = (m - 10 * Int32.ofNat (k + 1)) + 6 := by
  rcases j4c hk with rfl | rfl | rfl | rfl <;> exact d_lit hm (by decide) (by decide)
theorem dix (hj : j < 4) {k : Nat} (hk : k < 4) {c : Int32} (hc : c = 0 ∨ c = 1) : ((((8 : Int32) * Int32.ofNat j) + ((2 : Int32) * (Int32.ofNat (k + 1) - (1 : Int32)))) + c).toNatClampNeg = 8 * j + (2 * k + c.toNatClampNeg) ∧ (Int32.ofNat (k + 1) - 1).toNatClampNeg = k ∧ (Int32.ofNat (k + 1)).toNatClampNeg = k + 1 := by
  rcases j4c hj with rfl | rfl | rfl | rfl <;> rcases j4c hk with rfl | rfl | rfl | rfl <;> rcases hc with rfl | rfl <;> decide
/-- what the reference does with a frame, in time -/
def MIT (j : Nat) (d c v s : Int32) (τ : mmS) : mmS :=
  if c = τ.1 50 j then
    if d ≤ 4 then
      if (τ.1 49 j - 10 * d) + 6 < -3 then (if τ.1 44 j = 2 then (if s = 0 then τ else sp_m_listen (Int32.ofNat j) τ) else τ)
      else if 3 < (τ.1 49 j - 10 * d) + 6 then (if τ.1 44 j = 2 then (if s = 0 then τ else sp_m_listen (Int32.ofNat j) τ) else τ)
      else mmI (mmI τ 57 ((((8 : Int32) * Int32.ofNat j) + ((2 : Int32) * (d - (1 : Int32)))) + (τ.1 50 j - τ.1 50 j / 2 * 2)).toNatClampNeg ((τ.1 49 j - 10 * d) + 6)) 58 ((10 * Int32.ofNat j) + d).toNatClampNeg (1 + v)
    else if τ.1 49 j < 40 then τ else if 60 ≤ τ.1 49 j then τ
      else mmI (mmI (mmI τ 58 ((10 * Int32.ofNat j) + d).toNatClampNeg (1 + v)) 55 j d) 56 j 1
  else if d ≤ 4 then (if τ.1 44 j = 2 then (if s = 0 then τ else sp_m_listen (Int32.ofNat j) τ) else τ) else τ
theorem ri_hit (hj : j < 4) (h : RI j σ τ) {w : Int64} {d c v s : Int32} (eD : ∀ s', sp_w_idIn w s' = d) (eC : ∀ s', sp_w_cycleIn w s' = c) (eV : ∀ s', sp_w_valueIn w s' = v) (eS : ∀ s', sp_w_startupIn w s' = s) (hd : idok d) : RI j (sp_n_hearInTime j w σ) (MIT j d c v s τ) := by
  have e0 : σ.1 (10 * j + 3) 0 = τ.1 49 j := h.2.2.2.2.2.2.2.2.1
  have e1 : σ.1 (10 * j + 3) 1 = τ.1 50 j := h.2.2.2.2.2.2.2.2.2.1
  have e2 : σ.1 (10 * j + 2) 7 = τ.1 44 j := h.2.2.1
  have hO : τ.1 50 j - τ.1 50 j / 2 * 2 = 0 ∨ τ.1 50 j - τ.1 50 j / 2 * 2 = 1 := by
    rw [← e1]
    exact od_cs h.2.2.2.2.2.2.2.2.2.2.2.2.2.2.2.2.2.2.2.2.2.2.2.2.2.1
  have hmm : -1000 ≤ (τ.1 49 j).toInt ∧ (τ.1 49 j).toInt ≤ 1000 := by
    have := h
    obtain ⟨x0, x1, x2, x3, x4, x5, x6, x7, t0, t1, t2, t3, t4, s0, s1, s2, dv, he, w0, w1, w2, w3, i1, i2, i3, i4, i5, i6, i7, i8, i9, i10, i11, i12⟩ := this
    obtain ⟨q, hq, em⟩ := m_of i8 i5 i7
    rw [← e0, em, Int32.toInt_ofNat_of_lt (by omega)]
    omega
  have LS : RI j (if τ.1 44 j = 2 then (if s = 0 then σ else sp_n_listen j σ) else σ) (if τ.1 44 j = 2 then (if s = 0 then τ else sp_m_listen (Int32.ofNat j) τ) else τ) := by
    by_cases c1 : τ.1 44 j = 2
    · rw [if_pos c1, if_pos c1]
      by_cases c2 : s = 0
      · rw [if_pos c2, if_pos c2]; exact h
      · rw [if_neg c2, if_neg c2]; exact ri_listen hj h
    · rw [if_neg c1, if_neg c1]; exact h
  unfold sp_n_hearInTime MIT sp_n_dueAt sp_n_isInMinislots sp_t_isOdd
  simp only [eD, eC, eV, eS, e0, e1, e2]
  by_cases c1 : c = τ.1 50 j
  · rw [if_pos c1, if_pos c1]
    by_cases c2 : d ≤ 4
    · rw [if_pos (id5.mpr c2), if_pos c2]
      obtain ⟨k, hk, rfl⟩ := id14 hd c2
      rw [d_eq hmm hk]
      unfold sp_b_isWithin
      by_cases c3 : (τ.1 49 j - 10 * Int32.ofNat (k + 1)) + 6 < -3
      · rw [if_pos c3, if_pos c3, if_pos rfl]; exact LS
      · rw [if_neg c3, if_neg c3]
        by_cases c4 : 3 < (τ.1 49 j - 10 * Int32.ofNat (k + 1)) + 6
        · rw [if_pos c4, if_pos c4, if_pos rfl]; exact LS
        · rw [if_neg c4, if_neg c4, if_neg (by decide)]
          have hr : rg ((τ.1 49 j - 10 * Int32.ofNat (k + 1)) + 6) (-3) 3 := by
            rw [Int32.lt_iff_toInt_lt] at c3 c4
            have e3 : (3 : Int32).toInt = 3 := by decide
            have e3' : (-3 : Int32).toInt = -3 := by decide
            exact ⟨by omega, by omega⟩
          obtain ⟨g1, g2, g3⟩ := dix hj hk hO
          rw [g1, t10 hj hd, g3]
          unfold sp_d_note
          rw [g2]
          rcases hO with q | q
          · rw [q, if_neg (show ¬ (0 : Int32) = 1 by decide), if_pos rfl]
            exact ri_heard hj (ri_dev_ev hj h hk hr) (k + 1) v
          · rw [q, if_pos rfl, if_neg (show ¬ (1 : Int32) = 0 by decide)]
            exact ri_heard hj (ri_dev_od hj h hk hr) (k + 1) v
    · rw [if_neg (fun z => c2 (id5.mp z)), if_neg c2]
      unfold sp_b_isWithin
      by_cases c3 : τ.1 49 j < 40
      · rw [if_pos c3, if_pos c3, if_pos rfl]; exact h
      · rw [if_neg c3, if_neg c3]
        by_cases c4 : 60 ≤ τ.1 49 j
        · rw [if_pos (le59.mpr c4), if_pos rfl, if_pos c4]; exact h
        · rw [if_neg (fun z => c4 (le59.mp z)), if_neg (by decide), if_neg c4, t10 hj hd]
          exact ri_ho hj (ri_nu hj (ri_heard hj h _ v) d) 1
  · rw [if_neg c1, if_neg c1]
    by_cases c2 : d ≤ 4
    · rw [if_pos (id5.mpr c2), if_pos c2]; exact LS
    · rw [if_neg (fun z => c2 (id5.mp z)), if_neg c2]; exact h
theorem hear_1 {w : Int64} : sp_n_hear j w 1 σ = if σ.1 (10 * j + 2) 7 = 1 then mmI σ (10 * j + 4) 0 0 else σ := by
  unfold sp_n_hear
  rw [if_neg (show ¬ (1 : Int32) = 0 by decide), if_neg (show ¬ (1 : Int32) = 0 by decide)]
theorem ri_no (hj : j < 4) (h : RI j σ τ) {w : Int64} : RI j (sp_n_hear j w 1 σ) (if τ.1 44 j = 1 then mmI τ 46 j 0 else τ) := by
  have e2 : σ.1 (10 * j + 2) 7 = τ.1 44 j := h.2.2.1
  rw [hear_1, e2]
  by_cases c : τ.1 44 j = 1
  · rw [if_pos c, if_pos c]; exact ri_q0 hj h
  · rw [if_neg c, if_neg c]; exact h
/-- what the reference does with a frame -/
def MF (j : Nat) (d c v s : Int32) (τ : mmS) : mmS := if τ.1 44 j = 1 then (if s = 0 then mmI τ 46 j 0 else sp_m_notice (Int32.ofNat j) d c (mmI τ 46 j 0)) else MIT j d c v s τ
theorem ri_yes (hj : j < 4) (h : RI j σ τ) {w : Int64} {d c v s : Int32} (eD : ∀ s', sp_w_idIn w s' = d) (eC : ∀ s', sp_w_cycleIn w s' = c) (eV : ∀ s', sp_w_valueIn w s' = v) (eS : ∀ s', sp_w_startupIn w s' = s) (hd : idok d) (hc : ∃ q, q < 64 ∧ c = Int32.ofNat q) (h2 : ¬ s = 0 → d = 1 ∨ d = 2) : RI j (sp_n_hear j w 0 σ) (MF j d c v s τ) := by
  have e2 : σ.1 (10 * j + 2) 7 = τ.1 44 j := h.2.2.1
  unfold sp_n_hear MF
  simp only [eD, eC, eS]
  rw [e2, if_pos trivial, if_pos trivial]
  by_cases c1 : τ.1 44 j = 1
  · rw [if_pos c1, if_pos c1]
    by_cases c2 : s = 0
    · rw [if_pos c2, if_pos c2]; exact ri_q0 hj h
    · rw [if_neg c2, if_neg c2]
      obtain ⟨q, hq, rfl⟩ := hc
      exact ri_note hj (ri_q0 hj h) (h2 c2) hq
  · rw [if_neg c1, if_neg c1]
    exact ri_hit hj h eD eC eV eS hd
theorem id12 {d : Int32} (h : idok d) (h2 : ¬ 2 < d) : d = 1 ∨ d = 2 := by
  rcases id_cs h with rfl | rfl | rfl | rfl | rfl | rfl | rfl | rfl | rfl
  · exact Or.inl rfl
  · exact Or.inr rfl
  all_goals exact absurd (by decide) h2
theorem ri_hear (hj : j < 4) (h : RI j σ τ) {q : Nat} (hq : q < 2 ^ 57) (σn : mmS) : RI j (sp_n_hear j (lN q) (sp_w_isNoise (lN q) σn) σ) (sp_m_hear (Int32.ofNat j) (lN q) τ) := by
  have eD : ∀ s', sp_w_idIn (lN q) s' = sp_m_idOf (lN q) τ := fun s' => id_eq2 hq s' τ
  have eC : ∀ s', sp_w_cycleIn (lN q) s' = sp_m_cycleOf (lN q) τ := fun s' => cyc_eq2 hq s' τ
  have eV : ∀ s', sp_w_valueIn (lN q) s' = sp_m_valueOf (lN q) τ := fun s' => val_eq2 hq s' τ
  have eS : ∀ s', sp_w_startupIn (lN q) s' = sp_m_startupOf (lN q) τ := fun s' => sta_eq2 hq s' τ
  have mC : ∀ s', sp_m_cycleOf (lN q) s' = sp_m_cycleOf (lN q) τ := fun _ => rfl
  have mV : ∀ s', sp_m_valueOf (lN q) s' = sp_m_valueOf (lN q) τ := fun _ => rfl
  have hc := cyc_rng (lN q) τ
  have hwr := wrong_in hq τ
  have nz : sp_w_isNoise (lN q) σn = if sp_w_isHeadRight (lN q) σn = 0 then 1 else if sp_w_isWholeRight (lN q) σn = 0 then 1 else if sp_b_isWithin (sp_m_idOf (lN q) τ) 1 9 σn = 0 then 1 else if sp_m_startupOf (lN q) τ = 0 then 0 else if sp_m_idOf (lN q) τ ≤ 2 then 0 else 1 := by
    unfold sp_w_isNoise
    rw [eD, eS]
  rw [nz]
  unfold sp_m_hear
  simp only [mC, mV]
  rw [tj hj]
  generalize sp_m_idOf (lN q) τ = d at *
  generalize sp_m_cycleOf (lN q) τ = c at *
  generalize sp_m_valueOf (lN q) τ = v at *
  generalize sp_m_startupOf (lN q) τ = s at *
  have no := ri_no hj h (w := lN q)
  by_cases c1 : hN12 (q / 2 ^ 45) = q / 2 ^ 34 % 2048
  · rw [if_pos c1] at hwr
    rw [if_neg (fun z => (head_iff hq σn).mp z c1)]
    by_cases c2 : hN33 (q / 2 ^ 24) = q % 16777216
    · rw [if_pos c2] at hwr
      rw [hwr, if_neg (fun z => (whole_iff hq σn).mp z c2), if_pos rfl]
      unfold sp_b_isWithin
      by_cases c3 : d < 1
      · rw [if_pos c3, if_pos c3, if_pos rfl]; exact no
      · rw [if_neg c3, if_neg c3]
        by_cases c4 : 9 < d
        · rw [if_pos c4, if_pos c4, if_pos rfl]; exact no
        · rw [if_neg c4, if_neg c4, if_neg (show ¬ (1 : Int32) = 0 by decide)]
          have hd : idok d := ⟨c3, c4⟩
          by_cases c5 : s = 0
          · rw [if_pos c5, if_pos c5]
            exact ri_yes hj h eD eC eV eS hd hc (fun z => absurd c5 z)
          · rw [if_neg c5, if_neg c5]
            by_cases c6 : 2 < d
            · rw [if_neg (by rw [Int32.not_le]; exact c6), if_pos c6]; exact no
            · rw [if_pos (Int32.not_lt.mp c6), if_neg c6]
              exact ri_yes hj h eD eC eV eS hd hc (fun _ => id12 hd c6)
    · rw [if_neg c2] at hwr
      rw [hwr, if_pos ((whole_iff hq σn).mpr c2), if_neg (by decide)]; exact no
  · rw [if_neg c1] at hwr
    rw [hwr, if_pos ((head_iff hq σn).mpr c1), if_neg (by decide)]; exact no
end HR
