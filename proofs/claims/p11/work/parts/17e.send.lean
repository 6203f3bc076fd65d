/-! what a node sends; a tick of a node -/
section SD
variable {j : Nat} {σ τ : mmS}
theorem mkM_lt {h v : Nat} (hlt : h < 4096) (hv : v < 1024) (σ' : mmS) : ∃ q, q < 2 ^ 57 ∧ mkM σ' (lN h) (lN v) = lN q := by
  unfold mkM
  rw [m12 (by omega), nI_l (by have := hN12_lt h; omega)]
  have h12 := hN12_lt h
  generalize hN12 h = p at h12 ⊢
  have e5 : (lN h * (2048 : Int64) + lN p) * (1024 : Int64) + lN v = lN ((h * 2048 + p) * 1024 + v) := by
    rw [show (2048 : Int64) = lN 2048 from rfl, show (1024 : Int64) = lN 1024 from rfl, lN_mul, lN_add, lN_mul, lN_add]
  rw [e5]
  generalize hb : (h * 2048 + p) * 1024 + v = b
  have hblt : b < 2 ^ 33 := by omega
  rw [m33 (by omega), nI_l (by have := hN33_lt b; omega)]
  have h33 := hN33_lt b
  generalize hN33 b = q at h33 ⊢
  rw [show (16777216 : Int64) = lN 16777216 from rfl, lN_mul, lN_add]
  exact ⟨b * 16777216 + q, by omega, rfl⟩
theorem word_lt {a c v : Nat} (ha : a < 32) (hc : c < 64) (hv : v < 1024) (s : Int32) (hs : s = 0 ∨ s = 1) (σ' : mmS) : ∃ q, q < 2 ^ 57 ∧ sp_m_wordOf (nI a) (nI c) s (nI v) σ' = lN q := by
  have ea : (nI a).toInt64 = lN a := nI_l (by omega)
  have ev : (nI v).toInt64 = lN v := nI_l (by omega)
  have ecl : (nI c).toInt64 = lN c := nI_l (by omega)
  have hm : ∀ z : Nat, (nI a).toInt64 * (128 : Int64) + (nI c).toInt64 * (2 : Int64) + lN z = lN ((a * 64 + c) * 2 + z) := by
    intro z
    rw [ea, ecl, show (128 : Int64) = lN 128 from rfl, show (2 : Int64) = lN 2 from rfl, lN_mul, lN_mul, lN_add, lN_add]
    congr 1
    omega
  rcases hs with rfl | rfl
  · have h2 : sp_m_wordOf (nI a) (nI c) 0 (nI v) σ' = mkM σ' ((nI a).toInt64 * (128 : Int64) + (nI c).toInt64 * (2 : Int64) + lN 0) (nI v).toInt64 := rfl
    rw [h2, hm 0, ev]
    exact mkM_lt (by omega) hv σ'
  · have h2 : sp_m_wordOf (nI a) (nI c) 1 (nI v) σ' = mkM σ' ((nI a).toInt64 * (128 : Int64) + (nI c).toInt64 * (2 : Int64) + lN 1) (nI v).toInt64 := rfl
    rw [h2, hm 1, ev]
    exact mkM_lt (by omega) hv σ'
theorem rg_of {x : Int32} {b : Nat} (h : rg x 0 b) : ∃ n, n ≤ b ∧ x = nI n := by
  obtain ⟨h1, h2⟩ := h
  have h3 := x.toInt_lt
  refine ⟨x.toInt.toNat, by omega, Int32.toInt_inj.mp ?_⟩
  show _ = (Int32.ofNat x.toInt.toNat).toInt
  rw [Int32.toInt_ofNat_of_lt (by omega)]
  omega
/-- what a node sends: nothing, or a word that both have -/
def SW (w : Int64) (b : Int32) (wd : Int64) : Prop := (w = -1 ∧ b = 0) ∨ (b = 1 ∧ wd = w ∧ ∃ q, q < 2 ^ 57 ∧ w = lN q)
theorem sw_of {a c v : Nat} {A C V : Int32} (eA : A = nI a) (eC : C = nI c) (eV : V = nI v) (ha : a < 32) (hc : c < 64) (hv : v < 1024) {s : Int32} (hs : s = 0 ∨ s = 1) (σ1 σ2 : mmS) : SW (sp_w_make A C s V σ1) 1 (sp_m_wordOf A C s V σ2) := by
  subst eA eC eV
  have e := make_eq ha hc hv s hs σ1 σ2
  obtain ⟨q, hq, hw⟩ := word_lt ha hc hv s hs σ2
  exact Or.inr ⟨rfl, e.symm, q, hq, e.trans hw⟩
theorem msm0 (h : sp_n_isInMinislots j σ = 0) : sp_n_maySendMessage j σ = 0 := by
  unfold sp_n_maySendMessage
  rw [if_pos h]
  by_cases h1 : σ.1 (10 * j + 2) 7 = 4
  · rw [if_pos h1]
    by_cases h2 : σ.1 (10 * j + 2) 11 = 0
    · rw [if_pos h2]
    · rw [if_neg h2]
  · rw [if_neg h1]
theorem slot_out {j : Nat} (hj : j < 4) (σ : mmS) : sp_b_isWithin ((10 * Int32.ofNat j) + 4) 40 59 σ = 0 := by
  unfold sp_b_isWithin
  exact if_pos (by rcases j4c hj with rfl | rfl | rfl | rfl <;> decide)
theorem wts_no (h : sp_n_maySendMessage j σ = 0) (h2 : ¬ (σ.1 (10 * j + 3) 0 = sp_n_dueAt (σ.1 (10 * j + 2) 0) σ) ∨ sp_n_maySendInSlot j σ = 0) : sp_n_wordToSend j σ = (-1, σ) := by
  unfold sp_n_wordToSend
  rw [if_pos h]
  by_cases c : σ.1 (10 * j + 3) 0 = sp_n_dueAt (σ.1 (10 * j + 2) 0) σ
  · rw [if_pos c, if_pos (h2.resolve_left (fun z => z c))]
  · rw [if_neg c]
theorem ri_sent (hj : j < 4) (h : RI j σ τ) (wd : Int64) : RI j (mmI (mmI σ (10 * j + 10) 0 0) (10 * j + 2) 11 1) (mmI (mmI (mmJ τ 42 23 wd) 60 j 0) 56 j 1) := by
  obtain ⟨x0, x1, x2, x3, x4, x5, x6, x7, t0, t1, t2, t3, t4, s0, s1, s2, dv, he, w0, w1, w2, w3, i1, i2, i3, i4, i5, i6, i7, i8, i9, i10, i11, i12⟩ := h
  unfold RI
  refine ⟨?_, ?_, ?_, ?_, ?_, ?_, ?_, ?_, ?_, ?_, ?_, ?_, ?_, ?_, ?_, ?_, ?_, ?_, ?_, ?_, ?_, ?_, ?_, ?_, ?_, ?_, ?_, ?_, ?_, ?_, ?_, ?_, ?_, ?_⟩
  · simpa only [rdI_, rdJ1, fdk, fmk, tj hj, ne_eq, not_false_eq_true, Nat.add_left_cancel_iff, Nat.reduceEqDiff, reduceIte] using x0
  · simpa only [rdI_, rdJ1, fdk, fmk, tj hj, ne_eq, not_false_eq_true, Nat.add_left_cancel_iff, Nat.reduceEqDiff, reduceIte] using x1
  · simpa only [rdI_, rdJ1, fdk, fmk, tj hj, ne_eq, not_false_eq_true, Nat.add_left_cancel_iff, Nat.reduceEqDiff, reduceIte] using x2
  · simpa only [rdI_, rdJ1, fdk, fmk, tj hj, ne_eq, not_false_eq_true, Nat.add_left_cancel_iff, Nat.reduceEqDiff, reduceIte] using x3
  · simpa only [rdI_, rdJ1, fdk, fmk, tj hj, ne_eq, not_false_eq_true, Nat.add_left_cancel_iff, Nat.reduceEqDiff, reduceIte] using x4
  · simpa only [rdI_, rdJ1, fdk, fmk, tj hj, ne_eq, not_false_eq_true, Nat.add_left_cancel_iff, Nat.reduceEqDiff, reduceIte] using x5
  · simp only [rdI_, rdJ1, fdk, fmk, tj hj, ne_eq, not_false_eq_true, Nat.add_left_cancel_iff, Nat.reduceEqDiff, reduceIte]
  · simpa only [rdI_, rdJ1, fdk, fmk, tj hj, ne_eq, not_false_eq_true, Nat.add_left_cancel_iff, Nat.reduceEqDiff, reduceIte] using x7
  · simpa only [rdI_, rdJ1, fdk, fmk, tj hj, ne_eq, not_false_eq_true, Nat.add_left_cancel_iff, Nat.reduceEqDiff, reduceIte] using t0
  · simpa only [rdI_, rdJ1, fdk, fmk, tj hj, ne_eq, not_false_eq_true, Nat.add_left_cancel_iff, Nat.reduceEqDiff, reduceIte] using t1
  · simpa only [rdI_, rdJ1, fdk, fmk, tj hj, ne_eq, not_false_eq_true, Nat.add_left_cancel_iff, Nat.reduceEqDiff, reduceIte] using t2
  · simpa only [rdI_, rdJ1, fdk, fmk, tj hj, ne_eq, not_false_eq_true, Nat.add_left_cancel_iff, Nat.reduceEqDiff, reduceIte] using t3
  · simpa only [rdI_, rdJ1, fdk, fmk, tj hj, ne_eq, not_false_eq_true, Nat.add_left_cancel_iff, Nat.reduceEqDiff, reduceIte] using t4
  · simpa only [rdI_, rdJ1, fdk, fmk, tj hj, ne_eq, not_false_eq_true, Nat.add_left_cancel_iff, Nat.reduceEqDiff, reduceIte] using s0
  · simpa only [rdI_, rdJ1, fdk, fmk, tj hj, ne_eq, not_false_eq_true, Nat.add_left_cancel_iff, Nat.reduceEqDiff, reduceIte] using s1
  · simpa only [rdI_, rdJ1, fdk, fmk, tj hj, ne_eq, not_false_eq_true, Nat.add_left_cancel_iff, Nat.reduceEqDiff, reduceIte] using s2
  · simpa only [rdI_, rdJ1, fdk, fmk, tj hj, ne_eq, not_false_eq_true, Nat.add_left_cancel_iff, Nat.reduceEqDiff, reduceIte] using dv
  · simpa only [rdI_, rdJ1, fdk, fmk, tj hj, ne_eq, not_false_eq_true, Nat.add_left_cancel_iff, Nat.reduceEqDiff, reduceIte] using he
  · simp only [rdI_, rdJ1, fdk, fmk, tj hj, ne_eq, not_false_eq_true, Nat.add_left_cancel_iff, Nat.reduceEqDiff, reduceIte]
  · simpa only [rdI_, rdJ1, fdk, fmk, tj hj, ne_eq, not_false_eq_true, Nat.add_left_cancel_iff, Nat.reduceEqDiff, reduceIte] using w1
  · simpa only [rdI_, rdJ1, fdk, fmk, tj hj, ne_eq, not_false_eq_true, Nat.add_left_cancel_iff, Nat.reduceEqDiff, reduceIte] using w2
  · simpa only [rdI_, rdJ1, fdk, fmk, tj hj, ne_eq, not_false_eq_true, Nat.add_left_cancel_iff, Nat.reduceEqDiff, reduceIte] using w3
  · simpa only [rdI_, rdJ1, fdk, fmk, tj hj, ne_eq, not_false_eq_true, Nat.add_left_cancel_iff, Nat.reduceEqDiff, reduceIte] using i1
  · simpa only [rdI_, rdJ1, fdk, fmk, tj hj, ne_eq, not_false_eq_true, Nat.add_left_cancel_iff, Nat.reduceEqDiff, reduceIte] using i2
  · simpa only [rdI_, rdJ1, fdk, fmk, tj hj, ne_eq, not_false_eq_true, Nat.add_left_cancel_iff, Nat.reduceEqDiff, reduceIte] using i3
  · simpa only [rdI_, rdJ1, fdk, fmk, tj hj, ne_eq, not_false_eq_true, Nat.add_left_cancel_iff, Nat.reduceEqDiff, reduceIte] using i4
  · simpa only [rdI_, rdJ1, fdk, fmk, tj hj, ne_eq, not_false_eq_true, Nat.add_left_cancel_iff, Nat.reduceEqDiff, reduceIte] using i5
  · simpa only [rdI_, rdJ1, fdk, fmk, tj hj, ne_eq, not_false_eq_true, Nat.add_left_cancel_iff, Nat.reduceEqDiff, reduceIte] using i6
  · simpa only [rdI_, rdJ1, fdk, fmk, tj hj, ne_eq, not_false_eq_true, Nat.add_left_cancel_iff, Nat.reduceEqDiff, reduceIte] using i7
  · simpa only [rdI_, rdJ1, fdk, fmk, tj hj, ne_eq, not_false_eq_true, Nat.add_left_cancel_iff, Nat.reduceEqDiff, reduceIte] using i8
  · simpa only [rdI_, rdJ1, fdk, fmk, tj hj, ne_eq, not_false_eq_true, Nat.add_left_cancel_iff, Nat.reduceEqDiff, reduceIte] using i9
  · simpa only [rdI_, rdJ1, fdk, fmk, tj hj, ne_eq, not_false_eq_true, Nat.add_left_cancel_iff, Nat.reduceEqDiff, reduceIte] using i10
  · simpa only [rdI_, rdJ1, fdk, fmk, tj hj, ne_eq, not_false_eq_true, Nat.add_left_cancel_iff, Nat.reduceEqDiff, reduceIte] using i11
  · exact Or.inl (by simp only [rdI_, rdJ1, fdk, fmk, tj hj, ne_eq, not_false_eq_true, Nat.add_left_cancel_iff, Nat.reduceEqDiff, reduceIte])
theorem ri_send (hj : j < 4) (h : RI j σ τ) : RI j (sp_n_wordToSend j σ).2 (sp_m_sends (Int32.ofNat j) τ).2 ∧ SW (sp_n_wordToSend j σ).1 (sp_m_sends (Int32.ofNat j) τ).1 ((sp_m_sends (Int32.ofNat j) τ).2.2 42 23) := by
  have h0 := h
  obtain ⟨x0, x1, x2, x3, x4, x5, x6, x7, t0, t1, t2, t3, t4, s0, s1, s2, dv, he, w0, w1, w2, w3, i1, i2, i3, i4, i5, i6, i7, i8, i9, i10, i11, i12⟩ := h
  obtain ⟨q, hq, em⟩ := m_of i8 i5 i7
  have em2 : τ.1 49 j = Int32.ofNat q := t0 ▸ em
  obtain ⟨d1, d2, d3⟩ := mn_dec q hq
  obtain ⟨cc, hcc, ecc⟩ := i4
  have ecc2 : τ.1 50 j = nI cc := t1 ▸ ecc
  have hdue : sp_n_dueAt (σ.1 (10 * j + 2) 0) σ = 10 * Int32.ofNat j + 4 := by
    unfold sp_n_dueAt
    rw [x0]
  have no : sp_n_wordToSend j σ = (-1, σ) → sp_m_sends (Int32.ofNat j) τ = (0, τ) → RI j (sp_n_wordToSend j σ).2 (sp_m_sends (Int32.ofNat j) τ).2 ∧ SW (sp_n_wordToSend j σ).1 (sp_m_sends (Int32.ofNat j) τ).1 ((sp_m_sends (Int32.ofNat j) τ).2.2 42 23) := fun a b => by
    rw [a, b]
    exact ⟨h0, Or.inl ⟨rfl, rfl⟩⟩
  by_cases c1 : τ.1 49 j = 10 * Int32.ofNat j + 4
  · have hin : sp_n_isInMinislots j σ = 0 := by
      unfold sp_n_isInMinislots
      rw [t0, c1]
      exact slot_out hj σ
    have c1' : σ.1 (10 * j + 3) 0 = sp_n_dueAt (σ.1 (10 * j + 2) 0) σ := by rw [hdue, t0]; exact c1
    obtain ⟨va, hva, eva⟩ := rg_of (b := 1023) i3
    have hst : sp_n_isStarter j σ = if 2 ≤ Int32.ofNat j then 0 else 1 := by
      unfold sp_n_isStarter
      rw [x0]
    -- a word in the own slot
    have yes : sp_n_maySendInSlot j σ = 1 → (sp_m_sends (Int32.ofNat j) τ = if 2 ≤ Int32.ofNat j then (1, mmJ τ 42 23 (sp_m_wordOf (Int32.ofNat j + 1) (τ.1 50 j) 0 (τ.1 59 j) τ)) else (1, mmJ τ 42 23 (sp_m_wordOf (Int32.ofNat j + 1) (τ.1 50 j) 1 (τ.1 59 j) τ))) → RI j (sp_n_wordToSend j σ).2 (sp_m_sends (Int32.ofNat j) τ).2 ∧ SW (sp_n_wordToSend j σ).1 (sp_m_sends (Int32.ofNat j) τ).1 ((sp_m_sends (Int32.ofNat j) τ).2.2 42 23) := fun a b => by
      have e : sp_n_wordToSend j σ = (sp_w_make (Int32.ofNat j + 1) (τ.1 50 j) (sp_n_isStarter j σ) (τ.1 59 j) σ, σ) := by
        unfold sp_n_wordToSend
        rw [if_pos c1', if_neg (by rw [a]; decide), x0, t1, x7]
      rw [e, b, hst]
      have ej : Int32.ofNat j + 1 = nI (j + 1) := (n5d j (by omega)).2.2
      by_cases z : (2 : Int32) ≤ Int32.ofNat j
      · rw [if_pos z, if_pos z]
        exact ⟨h0, sw_of ej ecc2 (x7 ▸ eva) (by omega) hcc (by omega) (Or.inl rfl) σ τ⟩
      · rw [if_neg z, if_neg z]
        exact ⟨h0, sw_of ej ecc2 (x7 ▸ eva) (by omega) hcc (by omega) (Or.inr rfl) σ τ⟩
    by_cases s2 : τ.1 44 j = 2
    · refine yes (by unfold sp_n_maySendInSlot; rw [x2, if_pos s2]) ?_
      unfold sp_m_sends
      rw [tj hj, if_pos c1, if_pos s2]
    · by_cases s4 : τ.1 44 j = 4
      · refine yes (by unfold sp_n_maySendInSlot; rw [x2, if_neg s2, if_pos s4]) ?_
        unfold sp_m_sends
        rw [tj hj, if_pos c1, if_neg s2, if_pos s4]
      · by_cases z : (2 : Int32) ≤ Int32.ofNat j
        · refine no (wts_no (msm0 hin) (Or.inr ?_)) ?_
          · unfold sp_n_maySendInSlot
            rw [x2, if_neg s2, if_neg s4, hst, if_pos z, if_pos rfl]
            by_cases s3 : τ.1 44 j = 3
            · rw [if_pos s3]
            · rw [if_neg s3]
          · unfold sp_m_sends
            rw [tj hj, if_pos c1, if_neg s2, if_neg s4, if_pos z]
        · by_cases s3 : τ.1 44 j = 3
          · by_cases k0 : τ.1 54 j ≤ 0
            · refine no (wts_no (msm0 hin) (Or.inr ?_)) ?_
              · unfold sp_n_maySendInSlot
                rw [x2, x4, if_neg s2, if_neg s4, if_pos s3, hst, if_neg z, if_neg (by decide), if_pos k0]
              · unfold sp_m_sends
                rw [tj hj, if_pos c1, if_neg s2, if_neg s4, if_neg z, if_pos s3, if_pos k0]
            · refine yes (by unfold sp_n_maySendInSlot; rw [x2, x4, if_neg s2, if_neg s4, if_pos s3, hst, if_neg z, if_neg (by decide), if_neg k0]) ?_
              unfold sp_m_sends
              rw [tj hj, if_pos c1, if_neg s2, if_neg s4, if_neg z, if_pos s3, if_neg k0]
          · refine no (wts_no (msm0 hin) (Or.inr ?_)) ?_
            · unfold sp_n_maySendInSlot
              rw [x2, if_neg s2, if_neg s4, if_neg s3]
            · unfold sp_m_sends
              rw [tj hj, if_pos c1, if_neg s2, if_neg s4, if_neg z, if_neg s3]
  · have c1' : ¬ σ.1 (10 * j + 3) 0 = sp_n_dueAt (σ.1 (10 * j + 2) 0) σ := by rw [hdue, t0]; exact c1
    have c1q : ¬ Int32.ofNat q = 10 * Int32.ofNat j + 4 := em2 ▸ c1
    have outm : sp_b_isWithin (Int32.ofNat q) 40 59 σ = 0 → sp_n_wordToSend j σ = (-1, σ) := fun z => wts_no (msm0 (by unfold sp_n_isInMinislots; rw [em]; exact z)) (Or.inl c1')
    by_cases a1 : Int32.ofNat q ≤ 40
    · refine no ?_ ?_
      · by_cases z : Int32.ofNat q = 40
        · refine wts_no ?_ (Or.inl c1')
          unfold sp_n_maySendMessage
          rw [em, z, if_neg (show ¬ ((40 : Int32) - 40) - (40 - 40) / 4 * 4 = 2 by decide)]
          by_cases z1 : σ.1 (10 * j + 2) 7 = 4
          · rw [if_pos z1]
            by_cases z2 : σ.1 (10 * j + 2) 11 = 0
            · rw [if_pos z2]
              by_cases z3 : sp_n_isInMinislots j σ = 0
              · rw [if_pos z3]
              · rw [if_neg z3]
            · rw [if_neg z2]
          · rw [if_neg z1]
        · exact outm (by unfold sp_b_isWithin; rw [if_pos (d1 z a1)])
      · unfold sp_m_sends
        rw [tj hj, em2, if_neg c1q, if_pos a1]
    · by_cases a2 : 60 ≤ Int32.ofNat q
      · refine no (outm ?_) ?_
        · unfold sp_b_isWithin
          by_cases z : Int32.ofNat q < 40
          · rw [if_pos z]
          · rw [if_neg z, if_pos (d2 a2)]
        · unfold sp_m_sends
          rw [tj hj, em2, if_neg c1q, if_neg a1, if_pos a2]
      · obtain ⟨e1, e2, -, e4⟩ := d3 a1 a2
        have hin : ¬ sp_n_isInMinislots j σ = 0 := by
          unfold sp_n_isInMinislots sp_b_isWithin
          rw [em, if_neg e1, if_neg e2]
          decide
        by_cases a3 : Int32.ofNat q - Int32.ofNat q / 4 * 4 = 2
        · by_cases a4 : τ.1 44 j = 4
          · by_cases a5 : τ.1 56 j = 0
            · have hmay : sp_n_maySendMessage j σ = 1 := by
                unfold sp_n_maySendMessage
                rw [em, x2, x6, if_pos a4, if_pos a5, if_neg hin, if_pos (e4.mpr a3)]
              have nd : sp_g_isDue j (σ.1 (10 * j + 2) 10) (σ.1 (10 * j + 3) 1) σ = 0 → sp_n_wordToSend j σ = (-1, σ) := fun z => by
                unfold sp_n_wordToSend
                rw [if_neg c1', if_neg (by rw [hmay]; decide), if_pos z]
              by_cases a6 : σ.1 (10 * j + 10) 0 = 0
              · rw [if_pos a6] at w0
                refine no (nd (by unfold sp_g_isDue; rw [if_pos a6])) ?_
                unfold sp_m_sends
                rw [tj hj, em2, if_neg c1q, if_neg a1, if_neg a2, if_pos a3, if_pos a4, if_pos a5, if_pos w0.symm]
              · rw [if_neg a6] at w0
                obtain ⟨m1, m2, m3⟩ := i12.resolve_left a6
                have hid0 : ¬ τ.1 60 j = 0 := fun z => by
                  rw [← w0] at z
                  rw [z] at m1
                  exact absurd m1.1 (by decide)
                by_cases a7 : τ.1 60 j = τ.1 55 j
                · have hev : ¬ σ.1 (10 * j + 10) 4 ≤ 0 := by
                    rcases m3 with z | z | z <;> rw [z] <;> decide
                  by_cases a8 : τ.1 50 j - τ.1 50 j / τ.1 63 j * τ.1 63 j = τ.1 62 j
                  · have hdu : sp_g_isDue j (σ.1 (10 * j + 2) 10) (σ.1 (10 * j + 3) 1) σ = 1 := by
                      unfold sp_g_isDue
                      rw [if_neg a6, w0, x5, if_pos a7, if_neg hev, t1, w3, w2, if_pos a8]
                    have e : sp_n_wordToSend j σ = (sp_w_make (σ.1 (10 * j + 10) 1) (σ.1 (10 * j + 3) 1) 0 (σ.1 (10 * j + 10) 2) (mmI (mmI σ (10 * j + 10) 0 0) (10 * j + 2) 11 1), mmI (mmI σ (10 * j + 10) 0 0) (10 * j + 2) 11 1) := by
                      unfold sp_n_wordToSend
                      rw [if_neg c1', if_neg (by rw [hmay]; decide), if_neg (by rw [hdu]; decide)]
                    have e2 : sp_m_sends (Int32.ofNat j) τ = (1, mmI (mmI (mmJ τ 42 23 (sp_m_wordOf (τ.1 60 j) (τ.1 50 j) 0 (τ.1 61 j) τ)) 60 j 0) 56 j 1) := by
                      unfold sp_m_sends
                      rw [tj hj, em2, if_neg c1q, if_neg a1, if_neg a2, if_pos a3, if_pos a4, if_pos a5, if_neg hid0, if_pos a7, if_pos a8]
                    obtain ⟨d, hd, ed⟩ := rg_of (b := 9) (x := σ.1 (10 * j + 10) 1) ⟨by have := m1.1; omega, m1.2⟩
                    obtain ⟨v, hv, ev⟩ := rg_of (b := 1023) m2
                    rw [e, e2, w0, t1, w1]
                    refine ⟨ri_sent hj h0 _, ?_⟩
                    exact sw_of (w0 ▸ ed) ecc2 (w1 ▸ ev) (by omega) hcc (by omega) (Or.inl rfl) _ τ
                  · refine no (nd ?_) ?_
                    · unfold sp_g_isDue
                      rw [if_neg a6, w0, x5, if_pos a7, if_neg hev, t1, w3, w2, if_neg a8]
                    · unfold sp_m_sends
                      rw [tj hj, em2, if_neg c1q, if_neg a1, if_neg a2, if_pos a3, if_pos a4, if_pos a5, if_neg hid0, if_pos a7, if_neg a8]
                · refine no (nd ?_) ?_
                  · unfold sp_g_isDue
                    rw [if_neg a6, w0, x5, if_neg a7]
                  · unfold sp_m_sends
                    rw [tj hj, em2, if_neg c1q, if_neg a1, if_neg a2, if_pos a3, if_pos a4, if_pos a5, if_neg hid0, if_neg a7]
            · refine no (wts_no ?_ (Or.inl c1')) ?_
              · unfold sp_n_maySendMessage
                rw [x2, x6, if_pos a4, if_neg a5]
              · unfold sp_m_sends
                rw [tj hj, em2, if_neg c1q, if_neg a1, if_neg a2, if_pos a3, if_pos a4, if_neg a5]
          · refine no (wts_no ?_ (Or.inl c1')) ?_
            · unfold sp_n_maySendMessage
              rw [x2, if_neg a4]
            · unfold sp_m_sends
              rw [tj hj, em2, if_neg c1q, if_neg a1, if_neg a2, if_pos a3, if_neg a4]
        · refine no (wts_no ?_ (Or.inl c1')) ?_
          · unfold sp_n_maySendMessage
            rw [em, x2, x6, if_neg hin, if_neg (fun z => a3 (e4.mp z))]
            by_cases a4 : τ.1 44 j = 4
            · rw [if_pos a4]
              by_cases a5 : τ.1 56 j = 0
              · rw [if_pos a5]
              · rw [if_neg a5]
            · rw [if_neg a4]
          · unfold sp_m_sends
            rw [tj hj, em2, if_neg c1q, if_neg a1, if_neg a2, if_neg a3]
theorem ph_eq (a s : Int32) : a + (1000 - s) = (a + 1000) - s := by
  rw [Int32.sub_eq_add_neg, Int32.sub_eq_add_neg, Int32.add_assoc]
theorem ri_ph (hj : j < 4) (h : RI j σ τ) {x y v : Int32} (hv : rg v 0 999) : RI j (mmI (mmI σ (10 * j + 2) 8 x) (10 * j + 2) 8 v) (mmI (mmI τ 45 j y) 45 j v) := by
  obtain ⟨x0, x1, x2, x3, x4, x5, x6, x7, t0, t1, t2, t3, t4, s0, s1, s2, dv, he, w0, w1, w2, w3, i1, i2, i3, i4, i5, i6, i7, i8, i9, i10, i11, i12⟩ := h
  unfold RI
  refine ⟨?_, ?_, ?_, ?_, ?_, ?_, ?_, ?_, ?_, ?_, ?_, ?_, ?_, ?_, ?_, ?_, ?_, ?_, ?_, ?_, ?_, ?_, ?_, ?_, ?_, ?_, ?_, ?_, ?_, ?_, ?_, ?_, ?_, ?_⟩
  · simpa only [rdI_, rdJ1, fdk, fmk, tj hj, ne_eq, not_false_eq_true, Nat.add_left_cancel_iff, Nat.reduceEqDiff, reduceIte] using x0
  · simpa only [rdI_, rdJ1, fdk, fmk, tj hj, ne_eq, not_false_eq_true, Nat.add_left_cancel_iff, Nat.reduceEqDiff, reduceIte] using x1
  · simpa only [rdI_, rdJ1, fdk, fmk, tj hj, ne_eq, not_false_eq_true, Nat.add_left_cancel_iff, Nat.reduceEqDiff, reduceIte] using x2
  · simp only [rdI_, rdJ1, fdk, fmk, tj hj, ne_eq, not_false_eq_true, Nat.add_left_cancel_iff, Nat.reduceEqDiff, reduceIte]
  · simpa only [rdI_, rdJ1, fdk, fmk, tj hj, ne_eq, not_false_eq_true, Nat.add_left_cancel_iff, Nat.reduceEqDiff, reduceIte] using x4
  · simpa only [rdI_, rdJ1, fdk, fmk, tj hj, ne_eq, not_false_eq_true, Nat.add_left_cancel_iff, Nat.reduceEqDiff, reduceIte] using x5
  · simpa only [rdI_, rdJ1, fdk, fmk, tj hj, ne_eq, not_false_eq_true, Nat.add_left_cancel_iff, Nat.reduceEqDiff, reduceIte] using x6
  · simpa only [rdI_, rdJ1, fdk, fmk, tj hj, ne_eq, not_false_eq_true, Nat.add_left_cancel_iff, Nat.reduceEqDiff, reduceIte] using x7
  · simpa only [rdI_, rdJ1, fdk, fmk, tj hj, ne_eq, not_false_eq_true, Nat.add_left_cancel_iff, Nat.reduceEqDiff, reduceIte] using t0
  · simpa only [rdI_, rdJ1, fdk, fmk, tj hj, ne_eq, not_false_eq_true, Nat.add_left_cancel_iff, Nat.reduceEqDiff, reduceIte] using t1
  · simpa only [rdI_, rdJ1, fdk, fmk, tj hj, ne_eq, not_false_eq_true, Nat.add_left_cancel_iff, Nat.reduceEqDiff, reduceIte] using t2
  · simpa only [rdI_, rdJ1, fdk, fmk, tj hj, ne_eq, not_false_eq_true, Nat.add_left_cancel_iff, Nat.reduceEqDiff, reduceIte] using t3
  · simpa only [rdI_, rdJ1, fdk, fmk, tj hj, ne_eq, not_false_eq_true, Nat.add_left_cancel_iff, Nat.reduceEqDiff, reduceIte] using t4
  · simpa only [rdI_, rdJ1, fdk, fmk, tj hj, ne_eq, not_false_eq_true, Nat.add_left_cancel_iff, Nat.reduceEqDiff, reduceIte] using s0
  · simpa only [rdI_, rdJ1, fdk, fmk, tj hj, ne_eq, not_false_eq_true, Nat.add_left_cancel_iff, Nat.reduceEqDiff, reduceIte] using s1
  · simpa only [rdI_, rdJ1, fdk, fmk, tj hj, ne_eq, not_false_eq_true, Nat.add_left_cancel_iff, Nat.reduceEqDiff, reduceIte] using s2
  · simpa only [rdI_, rdJ1, fdk, fmk, tj hj, ne_eq, not_false_eq_true, Nat.add_left_cancel_iff, Nat.reduceEqDiff, reduceIte] using dv
  · simpa only [rdI_, rdJ1, fdk, fmk, tj hj, ne_eq, not_false_eq_true, Nat.add_left_cancel_iff, Nat.reduceEqDiff, reduceIte] using he
  · simpa only [rdI_, rdJ1, fdk, fmk, tj hj, ne_eq, not_false_eq_true, Nat.add_left_cancel_iff, Nat.reduceEqDiff, reduceIte] using w0
  · simpa only [rdI_, rdJ1, fdk, fmk, tj hj, ne_eq, not_false_eq_true, Nat.add_left_cancel_iff, Nat.reduceEqDiff, reduceIte] using w1
  · simpa only [rdI_, rdJ1, fdk, fmk, tj hj, ne_eq, not_false_eq_true, Nat.add_left_cancel_iff, Nat.reduceEqDiff, reduceIte] using w2
  · simpa only [rdI_, rdJ1, fdk, fmk, tj hj, ne_eq, not_false_eq_true, Nat.add_left_cancel_iff, Nat.reduceEqDiff, reduceIte] using w3
  · simpa only [rdI_, rdJ1, fdk, fmk, tj hj, ne_eq, not_false_eq_true, Nat.add_left_cancel_iff, Nat.reduceEqDiff, reduceIte] using i1
  · simpa only [rdI_, rdJ1, fdk, fmk, tj hj, ne_eq, not_false_eq_true, Nat.add_left_cancel_iff, Nat.reduceEqDiff, reduceIte] using hv
  · simpa only [rdI_, rdJ1, fdk, fmk, tj hj, ne_eq, not_false_eq_true, Nat.add_left_cancel_iff, Nat.reduceEqDiff, reduceIte] using i3
  · simpa only [rdI_, rdJ1, fdk, fmk, tj hj, ne_eq, not_false_eq_true, Nat.add_left_cancel_iff, Nat.reduceEqDiff, reduceIte] using i4
  · simpa only [rdI_, rdJ1, fdk, fmk, tj hj, ne_eq, not_false_eq_true, Nat.add_left_cancel_iff, Nat.reduceEqDiff, reduceIte] using i5
  · simpa only [rdI_, rdJ1, fdk, fmk, tj hj, ne_eq, not_false_eq_true, Nat.add_left_cancel_iff, Nat.reduceEqDiff, reduceIte] using i6
  · simpa only [rdI_, rdJ1, fdk, fmk, tj hj, ne_eq, not_false_eq_true, Nat.add_left_cancel_iff, Nat.reduceEqDiff, reduceIte] using i7
  · simpa only [rdI_, rdJ1, fdk, fmk, tj hj, ne_eq, not_false_eq_true, Nat.add_left_cancel_iff, Nat.reduceEqDiff, reduceIte] using i8
  · simpa only [rdI_, rdJ1, fdk, fmk, tj hj, ne_eq, not_false_eq_true, Nat.add_left_cancel_iff, Nat.reduceEqDiff, reduceIte] using i9
  · simpa only [rdI_, rdJ1, fdk, fmk, tj hj, ne_eq, not_false_eq_true, Nat.add_left_cancel_iff, Nat.reduceEqDiff, reduceIte] using i10
  · simpa only [rdI_, rdJ1, fdk, fmk, tj hj, ne_eq, not_false_eq_true, Nat.add_left_cancel_iff, Nat.reduceEqDiff, reduceIte] using i11
  · simpa only [rdI_, rdJ1, fdk, fmk, tj hj, ne_eq, not_false_eq_true, Nat.add_left_cancel_iff, Nat.reduceEqDiff, reduceIte] using i12
theorem ri_ph1 (hj : j < 4) (h : RI j σ τ) {v : Int32} (hv : rg v 0 999) : RI j (mmI σ (10 * j + 2) 8 v) (mmI (mmI τ 45 j v) 45 j v) := by
  obtain ⟨x0, x1, x2, x3, x4, x5, x6, x7, t0, t1, t2, t3, t4, s0, s1, s2, dv, he, w0, w1, w2, w3, i1, i2, i3, i4, i5, i6, i7, i8, i9, i10, i11, i12⟩ := h
  unfold RI
  refine ⟨?_, ?_, ?_, ?_, ?_, ?_, ?_, ?_, ?_, ?_, ?_, ?_, ?_, ?_, ?_, ?_, ?_, ?_, ?_, ?_, ?_, ?_, ?_, ?_, ?_, ?_, ?_, ?_, ?_, ?_, ?_, ?_, ?_, ?_⟩
  · simpa only [rdI_, rdJ1, fdk, fmk, tj hj, ne_eq, not_false_eq_true, Nat.add_left_cancel_iff, Nat.reduceEqDiff, reduceIte] using x0
  · simpa only [rdI_, rdJ1, fdk, fmk, tj hj, ne_eq, not_false_eq_true, Nat.add_left_cancel_iff, Nat.reduceEqDiff, reduceIte] using x1
  · simpa only [rdI_, rdJ1, fdk, fmk, tj hj, ne_eq, not_false_eq_true, Nat.add_left_cancel_iff, Nat.reduceEqDiff, reduceIte] using x2
  · simp only [rdI_, rdJ1, fdk, fmk, tj hj, ne_eq, not_false_eq_true, Nat.add_left_cancel_iff, Nat.reduceEqDiff, reduceIte]
  · simpa only [rdI_, rdJ1, fdk, fmk, tj hj, ne_eq, not_false_eq_true, Nat.add_left_cancel_iff, Nat.reduceEqDiff, reduceIte] using x4
  · simpa only [rdI_, rdJ1, fdk, fmk, tj hj, ne_eq, not_false_eq_true, Nat.add_left_cancel_iff, Nat.reduceEqDiff, reduceIte] using x5
  · simpa only [rdI_, rdJ1, fdk, fmk, tj hj, ne_eq, not_false_eq_true, Nat.add_left_cancel_iff, Nat.reduceEqDiff, reduceIte] using x6
  · simpa only [rdI_, rdJ1, fdk, fmk, tj hj, ne_eq, not_false_eq_true, Nat.add_left_cancel_iff, Nat.reduceEqDiff, reduceIte] using x7
  · simpa only [rdI_, rdJ1, fdk, fmk, tj hj, ne_eq, not_false_eq_true, Nat.add_left_cancel_iff, Nat.reduceEqDiff, reduceIte] using t0
  · simpa only [rdI_, rdJ1, fdk, fmk, tj hj, ne_eq, not_false_eq_true, Nat.add_left_cancel_iff, Nat.reduceEqDiff, reduceIte] using t1
  · simpa only [rdI_, rdJ1, fdk, fmk, tj hj, ne_eq, not_false_eq_true, Nat.add_left_cancel_iff, Nat.reduceEqDiff, reduceIte] using t2
  · simpa only [rdI_, rdJ1, fdk, fmk, tj hj, ne_eq, not_false_eq_true, Nat.add_left_cancel_iff, Nat.reduceEqDiff, reduceIte] using t3
  · simpa only [rdI_, rdJ1, fdk, fmk, tj hj, ne_eq, not_false_eq_true, Nat.add_left_cancel_iff, Nat.reduceEqDiff, reduceIte] using t4
  · simpa only [rdI_, rdJ1, fdk, fmk, tj hj, ne_eq, not_false_eq_true, Nat.add_left_cancel_iff, Nat.reduceEqDiff, reduceIte] using s0
  · simpa only [rdI_, rdJ1, fdk, fmk, tj hj, ne_eq, not_false_eq_true, Nat.add_left_cancel_iff, Nat.reduceEqDiff, reduceIte] using s1
  · simpa only [rdI_, rdJ1, fdk, fmk, tj hj, ne_eq, not_false_eq_true, Nat.add_left_cancel_iff, Nat.reduceEqDiff, reduceIte] using s2
  · simpa only [rdI_, rdJ1, fdk, fmk, tj hj, ne_eq, not_false_eq_true, Nat.add_left_cancel_iff, Nat.reduceEqDiff, reduceIte] using dv
  · simpa only [rdI_, rdJ1, fdk, fmk, tj hj, ne_eq, not_false_eq_true, Nat.add_left_cancel_iff, Nat.reduceEqDiff, reduceIte] using he
  · simpa only [rdI_, rdJ1, fdk, fmk, tj hj, ne_eq, not_false_eq_true, Nat.add_left_cancel_iff, Nat.reduceEqDiff, reduceIte] using w0
  · simpa only [rdI_, rdJ1, fdk, fmk, tj hj, ne_eq, not_false_eq_true, Nat.add_left_cancel_iff, Nat.reduceEqDiff, reduceIte] using w1
  · simpa only [rdI_, rdJ1, fdk, fmk, tj hj, ne_eq, not_false_eq_true, Nat.add_left_cancel_iff, Nat.reduceEqDiff, reduceIte] using w2
  · simpa only [rdI_, rdJ1, fdk, fmk, tj hj, ne_eq, not_false_eq_true, Nat.add_left_cancel_iff, Nat.reduceEqDiff, reduceIte] using w3
  · simpa only [rdI_, rdJ1, fdk, fmk, tj hj, ne_eq, not_false_eq_true, Nat.add_left_cancel_iff, Nat.reduceEqDiff, reduceIte] using i1
  · simpa only [rdI_, rdJ1, fdk, fmk, tj hj, ne_eq, not_false_eq_true, Nat.add_left_cancel_iff, Nat.reduceEqDiff, reduceIte] using hv
  · simpa only [rdI_, rdJ1, fdk, fmk, tj hj, ne_eq, not_false_eq_true, Nat.add_left_cancel_iff, Nat.reduceEqDiff, reduceIte] using i3
  · simpa only [rdI_, rdJ1, fdk, fmk, tj hj, ne_eq, not_false_eq_true, Nat.add_left_cancel_iff, Nat.reduceEqDiff, reduceIte] using i4
  · simpa only [rdI_, rdJ1, fdk, fmk, tj hj, ne_eq, not_false_eq_true, Nat.add_left_cancel_iff, Nat.reduceEqDiff, reduceIte] using i5
  · simpa only [rdI_, rdJ1, fdk, fmk, tj hj, ne_eq, not_false_eq_true, Nat.add_left_cancel_iff, Nat.reduceEqDiff, reduceIte] using i6
  · simpa only [rdI_, rdJ1, fdk, fmk, tj hj, ne_eq, not_false_eq_true, Nat.add_left_cancel_iff, Nat.reduceEqDiff, reduceIte] using i7
  · simpa only [rdI_, rdJ1, fdk, fmk, tj hj, ne_eq, not_false_eq_true, Nat.add_left_cancel_iff, Nat.reduceEqDiff, reduceIte] using i8
  · simpa only [rdI_, rdJ1, fdk, fmk, tj hj, ne_eq, not_false_eq_true, Nat.add_left_cancel_iff, Nat.reduceEqDiff, reduceIte] using i9
  · simpa only [rdI_, rdJ1, fdk, fmk, tj hj, ne_eq, not_false_eq_true, Nat.add_left_cancel_iff, Nat.reduceEqDiff, reduceIte] using i10
  · simpa only [rdI_, rdJ1, fdk, fmk, tj hj, ne_eq, not_false_eq_true, Nat.add_left_cancel_iff, Nat.reduceEqDiff, reduceIte] using i11
  · simpa only [rdI_, rdJ1, fdk, fmk, tj hj, ne_eq, not_false_eq_true, Nat.add_left_cancel_iff, Nat.reduceEqDiff, reduceIte] using i12
theorem ri_works (hj : j < 4) (h : RI j σ τ) : sp_m_works (Int32.ofNat j) τ = sp_n_isAwake j σ := by
  have e2 : σ.1 (10 * j + 2) 7 = τ.1 44 j := h.2.2.1
  unfold sp_m_works sp_n_isAwake
  rw [tj hj, e2]
theorem ri_ptick (hj : j < 4) (h : RI j σ τ) : (sp_m_works (Int32.ofNat j) τ = 0 ∧ sp_n_passTick j σ = (-1, σ)) ∨ (¬ sp_m_works (Int32.ofNat j) τ = 0 ∧ ((τ.1 45 j + 1000) - τ.1 43 j) < 1000 ∧ (sp_n_passTick j σ).1 = -1 ∧ RI j (sp_n_passTick j σ).2 (mmI (mmI τ 45 j ((τ.1 45 j + 1000) - τ.1 43 j)) 45 j ((τ.1 45 j + 1000) - τ.1 43 j))) ∨ (¬ sp_m_works (Int32.ofNat j) τ = 0 ∧ ¬ ((τ.1 45 j + 1000) - τ.1 43 j) < 1000 ∧ RI j (sp_n_passTick j σ).2 (sp_m_passes (Int32.ofNat j) (mmI (mmI τ 45 j ((τ.1 45 j + 1000) - τ.1 43 j)) 45 j (((τ.1 45 j + 1000) - τ.1 43 j) - 1000))).2 ∧ SW (sp_n_passTick j σ).1 (sp_m_passes (Int32.ofNat j) (mmI (mmI τ 45 j ((τ.1 45 j + 1000) - τ.1 43 j)) 45 j (((τ.1 45 j + 1000) - τ.1 43 j) - 1000))).1 ((sp_m_passes (Int32.ofNat j) (mmI (mmI τ 45 j ((τ.1 45 j + 1000) - τ.1 43 j)) 45 j (((τ.1 45 j + 1000) - τ.1 43 j) - 1000))).2.2 42 23)) := by
  have e1 : σ.1 (10 * j + 2) 1 = τ.1 43 j := h.2.1
  have e2 : σ.1 (10 * j + 2) 7 = τ.1 44 j := h.2.2.1
  have e3 : σ.1 (10 * j + 2) 8 = τ.1 45 j := h.2.2.2.1
  have hw := ri_works hj h
  have hP : σ.1 (10 * j + 2) 8 + (1000 - σ.1 (10 * j + 2) 1) = ((τ.1 45 j + 1000) - τ.1 43 j) := by rw [e1, e3, ph_eq]
  have bounds : 970 ≤ (((τ.1 45 j + 1000) - τ.1 43 j)).toInt ∧ (((τ.1 45 j + 1000) - τ.1 43 j)).toInt ≤ 1999 := by
    have i1 : rg (σ.1 (10 * j + 2) 1) 0 30 := h.2.2.2.2.2.2.2.2.2.2.2.2.2.2.2.2.2.2.2.2.2.2.1
    have i2 : rg (σ.1 (10 * j + 2) 8) 0 999 := h.2.2.2.2.2.2.2.2.2.2.2.2.2.2.2.2.2.2.2.2.2.2.2.1
    rw [e1] at i1
    rw [e3] at i2
    obtain ⟨p1, p2⟩ := i1
    obtain ⟨q1, q2⟩ := i2
    have e : (1000 : Int32).toInt = 1000 := by decide
    have f1 : (τ.1 45 j + 1000).toInt = (τ.1 45 j).toInt + 1000 := by rw [ti_add (by omega) (by omega) (by decide) (by decide), e]
    rw [ti_sub (by omega) (by omega) (by omega) (by omega), f1]
    omega
  have e1000 : (1000 : Int32).toInt = 1000 := by decide
  by_cases c0 : sp_n_isAwake j σ = 0
  · refine Or.inl ⟨hw.trans c0, ?_⟩
    unfold sp_n_passTick
    rw [if_pos c0]
  · have c0' : ¬ sp_m_works (Int32.ofNat j) τ = 0 := fun z => c0 (hw ▸ z)
    right
    by_cases c1 : ((τ.1 45 j + 1000) - τ.1 43 j) < 1000
    · left
      have hv : rg ((τ.1 45 j + 1000) - τ.1 43 j) 0 999 := ⟨by omega, by rw [Int32.lt_iff_toInt_lt] at c1; omega⟩
      have e : sp_n_passTick j σ = (-1, mmI σ (10 * j + 2) 8 ((τ.1 45 j + 1000) - τ.1 43 j)) := by
        unfold sp_n_passTick
        rw [hP, if_neg c0, if_neg (by rw [Int32.not_le]; exact c1)]
      rw [e]
      exact ⟨c0', c1, rfl, ri_ph1 hj h hv⟩
    · right
      have hv : rg (((τ.1 45 j + 1000) - τ.1 43 j) - 1000) 0 999 := by
        have c1' := c1
        rw [Int32.lt_iff_toInt_lt] at c1'
        unfold rg
        rw [ti_sub (by omega) (by omega) (by decide) (by decide), e1000]
        omega
      have r1 : RI j (mmI (mmI σ (10 * j + 2) 8 ((τ.1 45 j + 1000) - τ.1 43 j)) (10 * j + 2) 8 (((τ.1 45 j + 1000) - τ.1 43 j) - 1000)) (mmI (mmI τ 45 j ((τ.1 45 j + 1000) - τ.1 43 j)) 45 j (((τ.1 45 j + 1000) - τ.1 43 j) - 1000)) := ri_ph hj h hv
      have es : (mmI (mmI τ 45 j ((τ.1 45 j + 1000) - τ.1 43 j)) 45 j (((τ.1 45 j + 1000) - τ.1 43 j) - 1000)).1 44 j = τ.1 44 j := by rw [rdK (by decide), rdK (by decide)]
      refine ⟨c0', c1, ?_⟩
      have hge : (1000 : Int32) ≤ ((τ.1 45 j + 1000) - τ.1 43 j) := Int32.not_lt.mp c1
      by_cases c2 : τ.1 44 j = 1
      · have e : sp_n_passTick j σ = (-1, sp_n_passListening j (mmI (mmI σ (10 * j + 2) 8 ((τ.1 45 j + 1000) - τ.1 43 j)) (10 * j + 2) 8 (((τ.1 45 j + 1000) - τ.1 43 j) - 1000))) := by
          unfold sp_n_passTick
          rw [hP, e2, if_neg c0, if_pos hge, if_pos c2]
        obtain ⟨r2, r3⟩ := ri_plist hj r1 (es.trans c2)
        rw [e]
        exact ⟨r2, Or.inl ⟨rfl, r3⟩⟩
      · have e : sp_n_passTick j σ = sp_n_wordToSend j (sp_n_passInTime j (mmI (mmI σ (10 * j + 2) 8 ((τ.1 45 j + 1000) - τ.1 43 j)) (10 * j + 2) 8 (((τ.1 45 j + 1000) - τ.1 43 j) - 1000))) := by
          unfold sp_n_passTick sp_n_passTick_74
          rw [hP, e2, if_neg c0, if_pos hge, if_neg c2]
        obtain ⟨σA, τA, a1, a2, a3⟩ := ri_time hj r1 (fun z => c2 (es ▸ z))
        obtain ⟨σB, τB, b1, b2, b3⟩ := ri_mini hj a3
        obtain ⟨τC, g1, g2⟩ := ri_45 hj b3
        have fin := ri_send hj g2
        have em : sp_m_passes (Int32.ofNat j) (mmI (mmI τ 45 j ((τ.1 45 j + 1000) - τ.1 43 j)) 45 j (((τ.1 45 j + 1000) - τ.1 43 j) - 1000)) = sp_m_sends (Int32.ofNat j) τC := by
          rw [a2, b2, g1]
          rfl
        rw [e, a1, b1, em]
        exact fin
end SD
