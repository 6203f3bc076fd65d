/-! a node of the class (in σ) and of the reference (in τ): what is the same, and what holds of it -/
section RL
def cv (x : Int32) : Int32 := if x = 1000 then 99 else x
def rg (x : Int32) (a b : Int) : Prop := a ≤ x.toInt ∧ x.toInt ≤ b
def dvok (x : Int32) : Prop := x = 1000 ∨ rg x (-3) 3
def mok (m c r o : Int32) : Prop := 0 ≤ m.toInt ∧ m.toInt < 80 + r.toInt + (if c - c / 2 * 2 = 1 then o.toInt else 0)
def msok (d v e : Int32) : Prop := rg d 5 9 ∧ rg v 0 1023 ∧ (e = 1 ∨ e = 2 ∨ e = 4)
def RI (j : Nat) (σ τ : mmS) : Prop := σ.1 (10 * j + 2) 0 = Int32.ofNat j ∧
  σ.1 (10 * j + 2) 1 = τ.1 43 j ∧
  σ.1 (10 * j + 2) 7 = τ.1 44 j ∧
  σ.1 (10 * j + 2) 8 = τ.1 45 j ∧
  σ.1 (10 * j + 2) 9 = τ.1 54 j ∧
  σ.1 (10 * j + 2) 10 = τ.1 55 j ∧
  σ.1 (10 * j + 2) 11 = τ.1 56 j ∧
  σ.1 (10 * j + 2) 12 = τ.1 59 j ∧
  σ.1 (10 * j + 3) 0 = τ.1 49 j ∧
  σ.1 (10 * j + 3) 1 = τ.1 50 j ∧
  σ.1 (10 * j + 3) 2 = τ.1 51 j ∧
  σ.1 (10 * j + 3) 3 = τ.1 53 j ∧
  σ.1 (10 * j + 3) 4 = τ.1 52 j ∧
  σ.1 (10 * j + 4) 0 = τ.1 46 j ∧
  σ.1 (10 * j + 4) 1 = τ.1 47 j ∧
  (if σ.1 (10 * j + 4) 2 = 0 then 0 else 64 * σ.1 (10 * j + 4) 2 + σ.1 (10 * j + 4) 3) = τ.1 48 j ∧
  (∀ i, i < 4 → cv (σ.1 (10 * j + 6) i) = τ.1 57 (8 * j + 2 * i) ∧ cv (σ.1 (10 * j + 7) i) = τ.1 57 (8 * j + (2 * i + 1))) ∧
  (∀ i, i < 10 → σ.1 (10 * j + 11) i + 1 = τ.1 58 (10 * j + i)) ∧
  (if σ.1 (10 * j + 10) 0 = 0 then 0 else σ.1 (10 * j + 10) 1) = τ.1 60 j ∧
  σ.1 (10 * j + 10) 2 = τ.1 61 j ∧
  σ.1 (10 * j + 10) 3 = τ.1 62 j ∧
  σ.1 (10 * j + 10) 4 = τ.1 63 j ∧
  rg (σ.1 (10 * j + 2) 1) 0 30 ∧
  rg (σ.1 (10 * j + 2) 8) 0 999 ∧
  rg (σ.1 (10 * j + 2) 12) 0 1023 ∧
  (∃ c, c < 64 ∧ σ.1 (10 * j + 3) 1 = Int32.ofNat c) ∧
  rg (σ.1 (10 * j + 3) 2) (-4) 4 ∧
  rg (σ.1 (10 * j + 3) 3) (-4) 4 ∧
  rg (σ.1 (10 * j + 3) 4) (-6) 6 ∧
  mok (σ.1 (10 * j + 3) 0) (σ.1 (10 * j + 3) 1) (σ.1 (10 * j + 3) 2) (σ.1 (10 * j + 3) 4) ∧
  (σ.1 (10 * j + 4) 2 = 0 ∨ σ.1 (10 * j + 4) 2 = 1 ∨ σ.1 (10 * j + 4) 2 = 2) ∧
  (∃ c, c < 64 ∧ σ.1 (10 * j + 4) 3 = Int32.ofNat c) ∧
  (∀ i, i < 4 → dvok (σ.1 (10 * j + 6) i) ∧ dvok (σ.1 (10 * j + 7) i)) ∧
  (σ.1 (10 * j + 10) 0 = 0 ∨ msok (σ.1 (10 * j + 10) 1) (σ.1 (10 * j + 10) 2) (σ.1 (10 * j + 10) 4))
theorem rdI_ {σ : mmS} {a i k m : Nat} {v : Int32} : (mmI σ a i v).1 k m = if k = a then (if m = i then v else σ.1 k m) else σ.1 k m := by
  by_cases h : k = a
  · subst h
    rw [if_pos rfl]
    by_cases h2 : m = i
    · subst h2; rw [if_pos rfl, rdS]
    · rw [if_neg h2, rdI h2]
  · rw [if_neg h, rdK h]
theorem rdJ1 {σ : mmS} {a i k m : Nat} {v : Int64} : (mmJ σ a i v).1 k m = σ.1 k m := rfl
theorem rdF_ {σ : mmS} {a n k m : Nat} {v : Int32} : (fillF a 0 n v σ).1 k m = if k = a then (if m < n then v else σ.1 k m) else σ.1 k m := by
  show (if k = a then (fun j => if 0 ≤ j ∧ j < n then v else σ.1 a j) else σ.1 k) m = _
  by_cases h : k = a
  · subst h
    rw [if_pos rfl, if_pos rfl]
    show (if 0 ≤ m ∧ m < n then v else σ.1 k m) = _
    by_cases h2 : m < n
    · rw [if_pos h2, if_pos ⟨Nat.zero_le _, h2⟩]
    · rw [if_neg h2, if_neg (fun q => h2 q.2)]
  · rw [if_neg h, if_neg h]
theorem j4c {j : Nat} (hj : j < 4) : j = 0 ∨ j = 1 ∨ j = 2 ∨ j = 3 := by omega
theorem tj {j : Nat} (hj : j < 4) : (Int32.ofNat j).toNatClampNeg = j := by
  rcases j4c hj with rfl | rfl | rfl | rfl <;> decide
theorem fdk {j c m : Nat} {σ : mmS} (h6 : c ≠ 6) (h7 : c ≠ 7) : (sp_d_forget j σ).1 (10 * j + c) m = σ.1 (10 * j + c) m := by
  unfold sp_d_forget sp_fill
  rw [rdF_, if_neg (by omega), rdF_, if_neg (by omega)]
theorem fd6 {j m : Nat} {σ : mmS} (h : m < 4) : (sp_d_forget j σ).1 (10 * j + 6) m = 1000 := by
  unfold sp_d_forget sp_fill
  rw [rdF_, if_neg (by omega), rdF_, if_pos rfl, if_pos h]
theorem fd7 {j m : Nat} {σ : mmS} (h : m < 4) : (sp_d_forget j σ).1 (10 * j + 7) m = 1000 := by
  unfold sp_d_forget sp_fill
  rw [rdF_, if_pos rfl, if_pos h]
theorem fmk {a : Int32} {k m : Nat} {τ : mmS} (h : k ≠ 57) : (sp_m_forget a τ).1 k m = τ.1 k m := by
  unfold sp_m_forget
  rw [rdK h, rdK h, rdK h, rdK h, rdK h, rdK h, rdK h, rdK h]
theorem t8_0 {j : Nat} (hj : j < 4) : (((8 : Int32) * Int32.ofNat j) + (0 : Int32)).toNatClampNeg = 8 * j + 0 := by
  rcases j4c hj with rfl | rfl | rfl | rfl <;> decide
theorem t8_1 {j : Nat} (hj : j < 4) : (((8 : Int32) * Int32.ofNat j) + (1 : Int32)).toNatClampNeg = 8 * j + 1 := by
  rcases j4c hj with rfl | rfl | rfl | rfl <;> decide
theorem t8_2 {j : Nat} (hj : j < 4) : (((8 : Int32) * Int32.ofNat j) + (2 : Int32)).toNatClampNeg = 8 * j + 2 := by
  rcases j4c hj with rfl | rfl | rfl | rfl <;> decide
theorem t8_3 {j : Nat} (hj : j < 4) : (((8 : Int32) * Int32.ofNat j) + (3 : Int32)).toNatClampNeg = 8 * j + 3 := by
  rcases j4c hj with rfl | rfl | rfl | rfl <;> decide
theorem t8_4 {j : Nat} (hj : j < 4) : (((8 : Int32) * Int32.ofNat j) + (4 : Int32)).toNatClampNeg = 8 * j + 4 := by
  rcases j4c hj with rfl | rfl | rfl | rfl <;> decide
theorem t8_5 {j : Nat} (hj : j < 4) : (((8 : Int32) * Int32.ofNat j) + (5 : Int32)).toNatClampNeg = 8 * j + 5 := by
  rcases j4c hj with rfl | rfl | rfl | rfl <;> decide
theorem t8_6 {j : Nat} (hj : j < 4) : (((8 : Int32) * Int32.ofNat j) + (6 : Int32)).toNatClampNeg = 8 * j + 6 := by
  rcases j4c hj with rfl | rfl | rfl | rfl <;> decide
theorem t8_7 {j : Nat} (hj : j < 4) : (((8 : Int32) * Int32.ofNat j) + (7 : Int32)).toNatClampNeg = 8 * j + 7 := by
  rcases j4c hj with rfl | rfl | rfl | rfl <;> decide
theorem t8_01 {j : Nat} (hj : j < 4) : ((((8 : Int32) * Int32.ofNat j) + (0 : Int32)) + (1 : Int32)).toNatClampNeg = 8 * j + 1 := by
  rcases j4c hj with rfl | rfl | rfl | rfl <;> decide
theorem t8_21 {j : Nat} (hj : j < 4) : ((((8 : Int32) * Int32.ofNat j) + (2 : Int32)) + (1 : Int32)).toNatClampNeg = 8 * j + 3 := by
  rcases j4c hj with rfl | rfl | rfl | rfl <;> decide
theorem t8_41 {j : Nat} (hj : j < 4) : ((((8 : Int32) * Int32.ofNat j) + (4 : Int32)) + (1 : Int32)).toNatClampNeg = 8 * j + 5 := by
  rcases j4c hj with rfl | rfl | rfl | rfl <;> decide
theorem t8_61 {j : Nat} (hj : j < 4) : ((((8 : Int32) * Int32.ofNat j) + (6 : Int32)) + (1 : Int32)).toNatClampNeg = 8 * j + 7 := by
  rcases j4c hj with rfl | rfl | rfl | rfl <;> decide
theorem fm57 {j m : Nat} {τ : mmS} (hj : j < 4) (hm : m < 8) : (sp_m_forget (Int32.ofNat j) τ).1 57 (8 * j + m) = 99 := by
  unfold sp_m_forget
  simp only [t8_0 hj, t8_1 hj, t8_2 hj, t8_3 hj, t8_4 hj, t8_5 hj, t8_6 hj, t8_7 hj]
  have h : m = 0 ∨ m = 1 ∨ m = 2 ∨ m = 3 ∨ m = 4 ∨ m = 5 ∨ m = 6 ∨ m = 7 := by omega
  rcases h with rfl | rfl | rfl | rfl | rfl | rfl | rfl | rfl <;> simp only [rdI_, Nat.add_left_cancel_iff, Nat.reduceEqDiff, reduceIte]
theorem lim_eq {a : Int32} {σ τ : mmS} : sp_b_limit a 4 σ = sp_m_limit a 4 τ := by
  unfold sp_b_limit sp_m_limit
  by_cases h : a ≤ 4
  · rw [if_pos h, if_pos h]
  · rw [if_neg h, if_neg h, if_pos (by decide)]
theorem lim_eq6 {a : Int32} {σ τ : mmS} : sp_b_limit a 6 σ = sp_m_limit a 6 τ := by
  unfold sp_b_limit sp_m_limit
  by_cases h : a ≤ 6
  · rw [if_pos h, if_pos h]
  · rw [if_neg h, if_neg h, if_pos (by decide)]
theorem lim4 {a : Int32} {σ : mmS} : rg (sp_b_limit a 4 σ) (-4) 4 := by
  unfold sp_b_limit
  have e4 : (4 : Int32).toInt = 4 := by decide
  have e4' : (-4 : Int32).toInt = -4 := by decide
  by_cases h : a ≤ 4
  · rw [if_pos h]
    by_cases h2 : -(4 : Int32) ≤ a
    · rw [if_pos h2]
      rw [Int32.le_iff_toInt_le] at h h2
      exact ⟨by rw [show (-(4 : Int32)) = (-4 : Int32) from rfl] at h2; omega, by omega⟩
    · rw [if_neg h2]; exact ⟨by decide, by decide⟩
  · rw [if_neg h, if_pos (by decide)]; exact ⟨by decide, by decide⟩
theorem lim6 {a : Int32} {σ : mmS} : rg (sp_b_limit a 6 σ) (-6) 6 := by
  unfold sp_b_limit
  have e4 : (6 : Int32).toInt = 6 := by decide
  have e4' : (-6 : Int32).toInt = -6 := by decide
  by_cases h : a ≤ 6
  · rw [if_pos h]
    by_cases h2 : -(6 : Int32) ≤ a
    · rw [if_pos h2]
      rw [Int32.le_iff_toInt_le] at h h2
      exact ⟨by rw [show (-(6 : Int32)) = (-6 : Int32) from rfl] at h2; omega, by omega⟩
    · rw [if_neg h2]; exact ⟨by decide, by decide⟩
  · rw [if_neg h, if_pos (by decide)]; exact ⟨by decide, by decide⟩
theorem i0 : (0 : Int32).toInt = 0 := by decide
variable {j : Nat} {σ τ : mmS}
theorem ri_listen (hj : j < 4) (h : RI j σ τ) : RI j (sp_n_listen j σ) (sp_m_listen (Int32.ofNat j) τ) := by
  obtain ⟨x0, x1, x2, x3, x4, x5, x6, x7, t0, t1, t2, t3, t4, s0, s1, s2, dv, he, w0, w1, w2, w3, i1, i2, i3, i4, i5, i6, i7, i8, i9, i10, i11, i12⟩ := h
  unfold RI sp_n_listen sp_s_begin sp_m_listen
  refine ⟨?_, ?_, ?_, ?_, ?_, ?_, ?_, ?_, ?_, ?_, ?_, ?_, ?_, ?_, ?_, ?_, ?_, ?_, ?_, ?_, ?_, ?_, ?_, ?_, ?_, ?_, ?_, ?_, ?_, ?_, ?_, ?_, ?_, ?_⟩
  · simpa only [rdI_, rdJ1, fdk, fmk, tj hj, ne_eq, not_false_eq_true, Nat.add_left_cancel_iff, Nat.reduceEqDiff, reduceIte] using x0
  · simpa only [rdI_, rdJ1, fdk, fmk, tj hj, ne_eq, not_false_eq_true, Nat.add_left_cancel_iff, Nat.reduceEqDiff, reduceIte] using x1
  · simp only [rdI_, rdJ1, fdk, fmk, tj hj, ne_eq, not_false_eq_true, Nat.add_left_cancel_iff, Nat.reduceEqDiff, reduceIte]
  · simpa only [rdI_, rdJ1, fdk, fmk, tj hj, ne_eq, not_false_eq_true, Nat.add_left_cancel_iff, Nat.reduceEqDiff, reduceIte] using x3
  · simpa only [rdI_, rdJ1, fdk, fmk, tj hj, ne_eq, not_false_eq_true, Nat.add_left_cancel_iff, Nat.reduceEqDiff, reduceIte] using x4
  · simpa only [rdI_, rdJ1, fdk, fmk, tj hj, ne_eq, not_false_eq_true, Nat.add_left_cancel_iff, Nat.reduceEqDiff, reduceIte] using x5
  · simpa only [rdI_, rdJ1, fdk, fmk, tj hj, ne_eq, not_false_eq_true, Nat.add_left_cancel_iff, Nat.reduceEqDiff, reduceIte] using x6
  · simpa only [rdI_, rdJ1, fdk, fmk, tj hj, ne_eq, not_false_eq_true, Nat.add_left_cancel_iff, Nat.reduceEqDiff, reduceIte] using x7
  · simpa only [rdI_, rdJ1, fdk, fmk, tj hj, ne_eq, not_false_eq_true, Nat.add_left_cancel_iff, Nat.reduceEqDiff, reduceIte] using t0
  · simpa only [rdI_, rdJ1, fdk, fmk, tj hj, ne_eq, not_false_eq_true, Nat.add_left_cancel_iff, Nat.reduceEqDiff, reduceIte] using t1
  · simpa only [rdI_, rdJ1, fdk, fmk, tj hj, ne_eq, not_false_eq_true, Nat.add_left_cancel_iff, Nat.reduceEqDiff, reduceIte] using t2
  · simpa only [rdI_, rdJ1, fdk, fmk, tj hj, ne_eq, not_false_eq_true, Nat.add_left_cancel_iff, Nat.reduceEqDiff, reduceIte] using t3
  · simpa only [rdI_, rdJ1, fdk, fmk, tj hj, ne_eq, not_false_eq_true, Nat.add_left_cancel_iff, Nat.reduceEqDiff, reduceIte] using t4
  · simp only [rdI_, rdJ1, fdk, fmk, tj hj, ne_eq, not_false_eq_true, Nat.add_left_cancel_iff, Nat.reduceEqDiff, reduceIte]
  · simp only [rdI_, rdJ1, fdk, fmk, tj hj, ne_eq, not_false_eq_true, Nat.add_left_cancel_iff, Nat.reduceEqDiff, reduceIte]
  · simp only [rdI_, rdJ1, fdk, fmk, tj hj, ne_eq, not_false_eq_true, Nat.add_left_cancel_iff, Nat.reduceEqDiff, reduceIte]
  · intro i hi
    rw [fd6 hi, fd7 hi, fm57 hj (show 2 * i < 8 by omega), fm57 hj (show 2 * i + 1 < 8 by omega)]
    exact ⟨rfl, rfl⟩
  · simpa only [rdI_, rdJ1, fdk, fmk, tj hj, ne_eq, not_false_eq_true, Nat.add_left_cancel_iff, Nat.reduceEqDiff, reduceIte] using he
  · simpa only [rdI_, rdJ1, fdk, fmk, tj hj, ne_eq, not_false_eq_true, Nat.add_left_cancel_iff, Nat.reduceEqDiff, reduceIte] using w0
  · simpa only [rdI_, rdJ1, fdk, fmk, tj hj, ne_eq, not_false_eq_true, Nat.add_left_cancel_iff, Nat.reduceEqDiff, reduceIte] using w1
  · simpa only [rdI_, rdJ1, fdk, fmk, tj hj, ne_eq, not_false_eq_true, Nat.add_left_cancel_iff, Nat.reduceEqDiff, reduceIte] using w2
  · simpa only [rdI_, rdJ1, fdk, fmk, tj hj, ne_eq, not_false_eq_true, Nat.add_left_cancel_iff, Nat.reduceEqDiff, reduceIte] using w3
  · simpa only [rdI_, rdJ1, fdk, fmk, tj hj, ne_eq, not_false_eq_true, Nat.add_left_cancel_iff, Nat.reduceEqDiff, reduceIte] using i1
  · simpa only [rdI_, rdJ1, fdk, fmk, tj hj, ne_eq, not_false_eq_true, Nat.add_left_cancel_iff, Nat.reduceEqDiff, reduceIte] using i2
  · simpa only [rdI_, rdJ1, fdk, fmk, tj hj, ne_eq, not_false_eq_true, Nat.add_left_cancel_iff, Nat.reduceEqDiff, reduceIte] using i3
  · simpa only [rdI_, rdJ1, fdk, fmk, tj hj, ne_eq, not_false_eq_true, Nat.add_left_cancel_iff, Nat.reduceEqDiff, reduceIte] using i4
  · simpa only [rdI_, rdJ1, fdk, fmk, tj hj, ne_eq, not_false_eq_true, Nat.add_left_cancel_iff, Nat.reduceEqDiff, reduceIte] using i5
  · simpa only [rdI_, rdJ1, fdk, fmk, tj hj, ne_eq, not_false_eq_true, Nat.add_left_cancel_iff, Nat.reduceEqDiff, reduceIte] using i6
  · simpa only [rdI_, rdJ1, fdk, fmk, tj hj, ne_eq, not_false_eq_true, Nat.add_left_cancel_iff, Nat.reduceEqDiff, reduceIte] using i7
  · simpa only [rdI_, rdJ1, fdk, fmk, tj hj, ne_eq, not_false_eq_true, Nat.add_left_cancel_iff, Nat.reduceEqDiff, reduceIte] using i8
  · exact Or.inl (by simp only [rdI_, rdJ1, fdk, fmk, tj hj, ne_eq, not_false_eq_true, Nat.add_left_cancel_iff, Nat.reduceEqDiff, reduceIte])
  · simpa only [rdI_, rdJ1, fdk, fmk, tj hj, ne_eq, not_false_eq_true, Nat.add_left_cancel_iff, Nat.reduceEqDiff, reduceIte] using i10
  · intro i hi
    rw [fd6 hi, fd7 hi]
    exact ⟨Or.inl rfl, Or.inl rfl⟩
  · simpa only [rdI_, rdJ1, fdk, fmk, tj hj, ne_eq, not_false_eq_true, Nat.add_left_cancel_iff, Nat.reduceEqDiff, reduceIte] using i12
theorem ri_begin (hj : j < 4) (h : RI j σ τ) {s k m c r r2 : Int32} (hr : ∀ σ' : mmS, sp_b_limit r 4 σ' = r2) (hc : ∃ q, q < 64 ∧ c = Int32.ofNat q) (hm : 0 ≤ m.toInt ∧ m.toInt < 70) : RI j (sp_n_enterTime j s k (sp_t_begin j m c r σ)) (sp_m_begin (Int32.ofNat j) s c m r2 k τ) := by
  obtain ⟨x0, x1, x2, x3, x4, x5, x6, x7, t0, t1, t2, t3, t4, s0, s1, s2, dv, he, w0, w1, w2, w3, i1, i2, i3, i4, i5, i6, i7, i8, i9, i10, i11, i12⟩ := h
  have hr4 : rg r2 (-4) 4 := hr σ ▸ lim4
  unfold RI sp_n_enterTime sp_t_begin sp_m_begin
  simp only [hr]
  refine ⟨?_, ?_, ?_, ?_, ?_, ?_, ?_, ?_, ?_, ?_, ?_, ?_, ?_, ?_, ?_, ?_, ?_, ?_, ?_, ?_, ?_, ?_, ?_, ?_, ?_, ?_, ?_, ?_, ?_, ?_, ?_, ?_, ?_, ?_⟩
  · simpa only [rdI_, rdJ1, fdk, fmk, tj hj, ne_eq, not_false_eq_true, Nat.add_left_cancel_iff, Nat.reduceEqDiff, reduceIte] using x0
  · simpa only [rdI_, rdJ1, fdk, fmk, tj hj, ne_eq, not_false_eq_true, Nat.add_left_cancel_iff, Nat.reduceEqDiff, reduceIte] using x1
  · simp only [rdI_, rdJ1, fdk, fmk, tj hj, ne_eq, not_false_eq_true, Nat.add_left_cancel_iff, Nat.reduceEqDiff, reduceIte]
  · simpa only [rdI_, rdJ1, fdk, fmk, tj hj, ne_eq, not_false_eq_true, Nat.add_left_cancel_iff, Nat.reduceEqDiff, reduceIte] using x3
  · simp only [rdI_, rdJ1, fdk, fmk, tj hj, ne_eq, not_false_eq_true, Nat.add_left_cancel_iff, Nat.reduceEqDiff, reduceIte]
  · simp only [rdI_, rdJ1, fdk, fmk, tj hj, ne_eq, not_false_eq_true, Nat.add_left_cancel_iff, Nat.reduceEqDiff, reduceIte]
  · simp only [rdI_, rdJ1, fdk, fmk, tj hj, ne_eq, not_false_eq_true, Nat.add_left_cancel_iff, Nat.reduceEqDiff, reduceIte]
  · simpa only [rdI_, rdJ1, fdk, fmk, tj hj, ne_eq, not_false_eq_true, Nat.add_left_cancel_iff, Nat.reduceEqDiff, reduceIte] using x7
  · simp only [rdI_, rdJ1, fdk, fmk, tj hj, ne_eq, not_false_eq_true, Nat.add_left_cancel_iff, Nat.reduceEqDiff, reduceIte]
  · simp only [rdI_, rdJ1, fdk, fmk, tj hj, ne_eq, not_false_eq_true, Nat.add_left_cancel_iff, Nat.reduceEqDiff, reduceIte]
  · simp only [rdI_, rdJ1, fdk, fmk, tj hj, ne_eq, not_false_eq_true, Nat.add_left_cancel_iff, Nat.reduceEqDiff, reduceIte]
  · simp only [rdI_, rdJ1, fdk, fmk, tj hj, ne_eq, not_false_eq_true, Nat.add_left_cancel_iff, Nat.reduceEqDiff, reduceIte]
  · simp only [rdI_, rdJ1, fdk, fmk, tj hj, ne_eq, not_false_eq_true, Nat.add_left_cancel_iff, Nat.reduceEqDiff, reduceIte]
  · simpa only [rdI_, rdJ1, fdk, fmk, tj hj, ne_eq, not_false_eq_true, Nat.add_left_cancel_iff, Nat.reduceEqDiff, reduceIte] using s0
  · simpa only [rdI_, rdJ1, fdk, fmk, tj hj, ne_eq, not_false_eq_true, Nat.add_left_cancel_iff, Nat.reduceEqDiff, reduceIte] using s1
  · simpa only [rdI_, rdJ1, fdk, fmk, tj hj, ne_eq, not_false_eq_true, Nat.add_left_cancel_iff, Nat.reduceEqDiff, reduceIte] using s2
  · intro i hi
    rw [fd6 hi, fd7 hi, fm57 hj (show 2 * i < 8 by omega), fm57 hj (show 2 * i + 1 < 8 by omega)]
    exact ⟨rfl, rfl⟩
  · simpa only [rdI_, rdJ1, fdk, fmk, tj hj, ne_eq, not_false_eq_true, Nat.add_left_cancel_iff, Nat.reduceEqDiff, reduceIte] using he
  · simpa only [rdI_, rdJ1, fdk, fmk, tj hj, ne_eq, not_false_eq_true, Nat.add_left_cancel_iff, Nat.reduceEqDiff, reduceIte] using w0
  · simpa only [rdI_, rdJ1, fdk, fmk, tj hj, ne_eq, not_false_eq_true, Nat.add_left_cancel_iff, Nat.reduceEqDiff, reduceIte] using w1
  · simpa only [rdI_, rdJ1, fdk, fmk, tj hj, ne_eq, not_false_eq_true, Nat.add_left_cancel_iff, Nat.reduceEqDiff, reduceIte] using w2
  · simpa only [rdI_, rdJ1, fdk, fmk, tj hj, ne_eq, not_false_eq_true, Nat.add_left_cancel_iff, Nat.reduceEqDiff, reduceIte] using w3
  · simpa only [rdI_, rdJ1, fdk, fmk, tj hj, ne_eq, not_false_eq_true, Nat.add_left_cancel_iff, Nat.reduceEqDiff, reduceIte] using i1
  · simpa only [rdI_, rdJ1, fdk, fmk, tj hj, ne_eq, not_false_eq_true, Nat.add_left_cancel_iff, Nat.reduceEqDiff, reduceIte] using i2
  · simpa only [rdI_, rdJ1, fdk, fmk, tj hj, ne_eq, not_false_eq_true, Nat.add_left_cancel_iff, Nat.reduceEqDiff, reduceIte] using i3
  · simpa only [rdI_, rdJ1, fdk, fmk, tj hj, ne_eq, not_false_eq_true, Nat.add_left_cancel_iff, Nat.reduceEqDiff, reduceIte] using hc
  · simpa only [rdI_, rdJ1, fdk, fmk, tj hj, ne_eq, not_false_eq_true, Nat.add_left_cancel_iff, Nat.reduceEqDiff, reduceIte] using hr4
  · simpa only [rdI_, rdJ1, fdk, fmk, tj hj, ne_eq, not_false_eq_true, Nat.add_left_cancel_iff, Nat.reduceEqDiff, reduceIte] using hr4
  · simp only [rdI_, rdJ1, fdk, fmk, tj hj, ne_eq, not_false_eq_true, Nat.add_left_cancel_iff, Nat.reduceEqDiff, reduceIte]
    exact ⟨by decide, by decide⟩
  · simp only [rdI_, rdJ1, fdk, fmk, tj hj, ne_eq, not_false_eq_true, Nat.add_left_cancel_iff, Nat.reduceEqDiff, reduceIte]
    have h1 := hr4.1
    refine ⟨hm.1, ?_⟩
    rw [i0]
    split <;> omega
  · simpa only [rdI_, rdJ1, fdk, fmk, tj hj, ne_eq, not_false_eq_true, Nat.add_left_cancel_iff, Nat.reduceEqDiff, reduceIte] using i9
  · simpa only [rdI_, rdJ1, fdk, fmk, tj hj, ne_eq, not_false_eq_true, Nat.add_left_cancel_iff, Nat.reduceEqDiff, reduceIte] using i10
  · intro i hi
    rw [fd6 hi, fd7 hi]
    exact ⟨Or.inl rfl, Or.inl rfl⟩
  · simpa only [rdI_, rdJ1, fdk, fmk, tj hj, ne_eq, not_false_eq_true, Nat.add_left_cancel_iff, Nat.reduceEqDiff, reduceIte] using i12
theorem ri_pm (hj : j < 4) (h : RI j σ τ) : RI j (sp_s_passMicrotick j σ) (mmI (mmI τ 46 j ((τ.1 46 j) + (1 : Int32))) 47 j ((τ.1 47 j) + (1 : Int32))) := by
  obtain ⟨x0, x1, x2, x3, x4, x5, x6, x7, t0, t1, t2, t3, t4, s0, s1, s2, dv, he, w0, w1, w2, w3, i1, i2, i3, i4, i5, i6, i7, i8, i9, i10, i11, i12⟩ := h
  unfold RI sp_s_passMicrotick
  refine ⟨?_, ?_, ?_, ?_, ?_, ?_, ?_, ?_, ?_, ?_, ?_, ?_, ?_, ?_, ?_, ?_, ?_, ?_, ?_, ?_, ?_, ?_, ?_, ?_, ?_, ?_, ?_, ?_, ?_, ?_, ?_, ?_, ?_, ?_⟩
  · simpa only [rdI_, rdJ1, fdk, fmk, tj hj, ne_eq, not_false_eq_true, Nat.add_left_cancel_iff, Nat.reduceEqDiff, reduceIte] using x0
  · simpa only [rdI_, rdJ1, fdk, fmk, tj hj, ne_eq, not_false_eq_true, Nat.add_left_cancel_iff, Nat.reduceEqDiff, reduceIte] using x1
  · simpa only [rdI_, rdJ1, fdk, fmk, tj hj, ne_eq, not_false_eq_true, Nat.add_left_cancel_iff, Nat.reduceEqDiff, reduceIte] using x2
  · simpa only [rdI_, rdJ1, fdk, fmk, tj hj, ne_eq, not_false_eq_true, Nat.add_left_cancel_iff, Nat.reduceEqDiff, reduceIte] using x3
  · simpa only [rdI_, rdJ1, fdk, fmk, tj hj, ne_eq, not_false_eq_true, Nat.add_left_cancel_iff, Nat.reduceEqDiff, reduceIte] using x4
  · simpa only [rdI_, rdJ1, fdk, fmk, tj hj, ne_eq, not_false_eq_true, Nat.add_left_cancel_iff, Nat.reduceEqDiff, reduceIte] using x5
  · simpa only [rdI_, rdJ1, fdk, fmk, tj hj, ne_eq, not_false_eq_true, Nat.add_left_cancel_iff, Nat.reduceEqDiff, reduceIte] using x6
  · simpa only [rdI_, rdJ1, fdk, fmk, tj hj, ne_eq, not_false_eq_true, Nat.add_left_cancel_iff, Nat.reduceEqDiff, reduceIte] using x7
  · simpa only [rdI_, rdJ1, fdk, fmk, tj hj, ne_eq, not_false_eq_true, Nat.add_left_cancel_iff, Nat.reduceEqDiff, reduceIte] using t0
  · simpa only [rdI_, rdJ1, fdk, fmk, tj hj, ne_eq, not_false_eq_true, Nat.add_left_cancel_iff, Nat.reduceEqDiff, reduceIte] using t1
  · simpa only [rdI_, rdJ1, fdk, fmk, tj hj, ne_eq, not_false_eq_true, Nat.add_left_cancel_iff, Nat.reduceEqDiff, reduceIte] using t2
  · simpa only [rdI_, rdJ1, fdk, fmk, tj hj, ne_eq, not_false_eq_true, Nat.add_left_cancel_iff, Nat.reduceEqDiff, reduceIte] using t3
  · simpa only [rdI_, rdJ1, fdk, fmk, tj hj, ne_eq, not_false_eq_true, Nat.add_left_cancel_iff, Nat.reduceEqDiff, reduceIte] using t4
  · simp only [rdI_, rdJ1, fdk, fmk, tj hj, ne_eq, not_false_eq_true, Nat.add_left_cancel_iff, Nat.reduceEqDiff, reduceIte, s0]
  · simp only [rdI_, rdJ1, fdk, fmk, tj hj, ne_eq, not_false_eq_true, Nat.add_left_cancel_iff, Nat.reduceEqDiff, reduceIte, s1]
  · simpa only [rdI_, rdJ1, fdk, fmk, tj hj, ne_eq, not_false_eq_true, Nat.add_left_cancel_iff, Nat.reduceEqDiff, reduceIte] using s2
  · simpa only [rdI_, rdJ1, fdk, fmk, tj hj, ne_eq, not_false_eq_true, Nat.add_left_cancel_iff, Nat.reduceEqDiff, reduceIte] using dv
  · simpa only [rdI_, rdJ1, fdk, fmk, tj hj, ne_eq, not_false_eq_true, Nat.add_left_cancel_iff, Nat.reduceEqDiff, reduceIte] using he
  · simpa only [rdI_, rdJ1, fdk, fmk, tj hj, ne_eq, not_false_eq_true, Nat.add_left_cancel_iff, Nat.reduceEqDiff, reduceIte] using w0
  · simpa only [rdI_, rdJ1, fdk, fmk, tj hj, ne_eq, not_false_eq_true, Nat.add_left_cancel_iff, Nat.reduceEqDiff, reduceIte] using w1
  · simpa only [rdI_, rdJ1, fdk, fmk, tj hj, ne_eq, not_false_eq_true, Nat.add_left_cancel_iff, Nat.reduceEqDiff, reduceIte] using w2
  · simpa only [rdI_, rdJ1, fdk, fmk, tj hj, ne_eq, not_false_eq_true, Nat.add_left_cancel_iff, Nat.reduceEqDiff, reduceIte] using w3
  · simpa only [rdI_, rdJ1, fdk, fmk, tj hj, ne_eq, not_false_eq_true, Nat.add_left_cancel_iff, Nat.reduceEqDiff, reduceIte] using i1
  · simpa only [rdI_, rdJ1, fdk, fmk, tj hj, ne_eq, not_false_eq_true, Nat.add_left_cancel_iff, Nat.reduceEqDiff, reduceIte] using i2
  · simpa only [rdI_, rdJ1, fdk, fmk, tj hj, ne_eq, not_false_eq_true, Nat.add_left_cancel_iff, Nat.reduceEqDiff, reduceIte] using i3
  · simpa only [rdI_, rdJ1, fdk, fmk, tj hj, ne_eq, not_false_eq_true, Nat.add_left_cancel_iff, Nat.reduceEqDiff, reduceIte] using i4
  · simpa only [rdI_, rdJ1, fdk, fmk, tj hj, ne_eq, not_false_eq_true, Nat.add_left_cancel_iff, Nat.reduceEqDiff, reduceIte] using i5
  · simpa only [rdI_, rdJ1, fdk, fmk, tj hj, ne_eq, not_false_eq_true, Nat.add_left_cancel_iff, Nat.reduceEqDiff, reduceIte] using i6
  · simpa only [rdI_, rdJ1, fdk, fmk, tj hj, ne_eq, not_false_eq_true, Nat.add_left_cancel_iff, Nat.reduceEqDiff, reduceIte] using i7
  · simpa only [rdI_, rdJ1, fdk, fmk, tj hj, ne_eq, not_false_eq_true, Nat.add_left_cancel_iff, Nat.reduceEqDiff, reduceIte] using i8
  · simpa only [rdI_, rdJ1, fdk, fmk, tj hj, ne_eq, not_false_eq_true, Nat.add_left_cancel_iff, Nat.reduceEqDiff, reduceIte] using i9
  · simpa only [rdI_, rdJ1, fdk, fmk, tj hj, ne_eq, not_false_eq_true, Nat.add_left_cancel_iff, Nat.reduceEqDiff, reduceIte] using i10
  · simpa only [rdI_, rdJ1, fdk, fmk, tj hj, ne_eq, not_false_eq_true, Nat.add_left_cancel_iff, Nat.reduceEqDiff, reduceIte] using i11
  · simpa only [rdI_, rdJ1, fdk, fmk, tj hj, ne_eq, not_false_eq_true, Nat.add_left_cancel_iff, Nat.reduceEqDiff, reduceIte] using i12
theorem ri_plist (hj : j < 4) (h : RI j σ τ) (h1 : τ.1 44 j = 1) : RI j (sp_n_passListening j σ) (sp_m_passes (Int32.ofNat j) τ).2 ∧ (sp_m_passes (Int32.ofNat j) τ).1 = 0 := by
  have r1 := ri_pm hj h
  have e0 : (sp_s_passMicrotick j σ).1 (10 * j + 2) 0 = Int32.ofNat j := r1.1
  have e4 : (sp_s_passMicrotick j σ).1 (10 * j + 4) 0 = τ.1 46 j + 1 := by
    have q : σ.1 (10 * j + 4) 0 = τ.1 46 j := h.2.2.2.2.2.2.2.2.2.2.2.2.2.1
    unfold sp_s_passMicrotick
    simp only [rdI_, rdJ1, fdk, fmk, tj hj, ne_eq, not_false_eq_true, Nat.add_left_cancel_iff, Nat.reduceEqDiff, reduceIte, q]
  unfold sp_m_passes sp_n_passListening sp_n_isStarter
  rw [tj hj, if_pos h1, e0, e4]
  by_cases c : (2 : Int32) ≤ Int32.ofNat j
  · rw [if_pos c, if_pos c, if_pos rfl]
    exact ⟨r1, rfl⟩
  · rw [if_neg c, if_neg c, if_neg (by decide)]
    by_cases c2 : τ.1 46 j + 1 = 160 + 20 * Int32.ofNat j
    · rw [if_pos c2, if_pos c2]
      exact ⟨ri_begin hj r1 (fun _ => by unfold sp_b_limit; rw [if_pos (show (0 : Int32) ≤ 4 by decide), if_pos (show -(4 : Int32) ≤ 0 by decide)]) ⟨0, by decide, rfl⟩ ⟨by decide, by decide⟩, rfl⟩
    · rw [if_neg c2, if_neg c2]
      exact ⟨r1, rfl⟩
end RL
