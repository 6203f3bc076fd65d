section CR
variable {N L : Nat} {xs : Nat → Int32} {σ : mmS}
abbrev LVp (p : Nat) : List (Nat × Value) := [(0, .ref 1000), (1, .ref 0), (2, .ref 42), (3, .ref 65), (4, .int (Int32.ofNat p))]
/-- from here the law comes to its end and answers 1 -/
def Fin1 (N L : Nat) (xs : Nat → Int32) (pc p e : Nat) (σ : mmS) : Prop := ∃ σ', Ev N L xs (132, pc, LVp p, [], e, σ) (mmPI σ' 1)
theorem st_0 (p : Nat) (hN : 66 ≤ N) (e : Nat) (hp : p + 6 ≤ L) (hL : L ≤ 3073) (he : e + 24 ≤ 20000) (hJ : Jm σ) (hk : ∀ e' σ', e' ≤ e + 12 → Jm σ' → Fin1 N L xs 773 p e' σ') : Fin1 N L xs 124 p e σ := by
  obtain ⟨k, σ1, hw, hf⟩ := oe_power (L := L) (xs := xs) hN (xs (p + 1)) σ
  obtain ⟨σ2, h⟩ := hk (e + 2) _ (by omega) (jm_m_power (jm_fI hf hJ))
  exact ⟨σ2, law_0 hN p e hp hL he σ σ1 k hw _ h⟩
theorem st_1 (p : Nat) (hN : 66 ≤ N) (e : Nat) (hp : p + 6 ≤ L) (hL : L ≤ 3073) (he : e + 24 ≤ 20000) (hJ : Jm σ) (hk : ∀ e' σ', e' ≤ e + 12 → Jm σ' → Fin1 N L xs 773 p e' σ') : Fin1 N L xs 149 p e σ := by
  obtain ⟨k, σ1, hw, hf⟩ := oe_off (L := L) (xs := xs) hN (xs (p + 1)) σ
  obtain ⟨σ2, h⟩ := hk (e + 1) _ (by omega) (jm_m_off (jm_fI hf hJ))
  exact ⟨σ2, law_1 hN p e hp hL he σ σ1 k hw _ h⟩
theorem st_2 (p : Nat) (hN : 66 ≤ N) (e : Nat) (hp : p + 6 ≤ L) (hL : L ≤ 3073) (he : e + 24 ≤ 20000) (hJ : Jm σ) (hk : ∀ e' σ', e' ≤ e + 12 → Jm σ' → Fin1 N L xs 773 p e' σ') : Fin1 N L xs 177 p e σ := by
  obtain ⟨k, σ1, hw, hf⟩ := oe_run (L := L) (xs := xs) hN (xs (p + 1)) σ
  obtain ⟨σ2, h⟩ := hk (e + 1) _ (by omega) (jm_m_run (jm_fI hf hJ))
  exact ⟨σ2, law_2 hN p e hp hL he σ σ1 k hw (jm_fI hf hJ) _ h⟩
theorem st_3 (p : Nat) (hN : 66 ≤ N) (e : Nat) (hp : p + 6 ≤ L) (hL : L ≤ 3073) (he : e + 24 ≤ 20000) (hJ : Jm σ) (hk : ∀ e' σ', e' ≤ e + 12 → Jm σ' → Fin1 N L xs 773 p e' σ') : Fin1 N L xs 205 p e σ := by
  obtain ⟨k, σ1, hw, hf⟩ := oe_value (L := L) (xs := xs) hN (xs (p + 1)) (xs (p + 2)) σ
  obtain ⟨σ2, h⟩ := hk (e + 3) _ (by omega) (jm_m_value (jm_fI hf hJ))
  exact ⟨σ2, law_3 hN p e hp hL he σ σ1 k hw _ h⟩
theorem st_4 (p : Nat) (hN : 66 ≤ N) (e : Nat) (hp : p + 6 ≤ L) (hL : L ≤ 3073) (he : e + 24 ≤ 20000) (hJ : Jm σ) (hk : ∀ e' σ', e' ≤ e + 12 → Jm σ' → Fin1 N L xs 773 p e' σ') : Fin1 N L xs 242 p e σ := by
  obtain ⟨k, σ1, hw, hf⟩ := oe_post (L := L) (xs := xs) hN (xs (p + 1)) (xs (p + 2)) (xs (p + 3)) (xs (p + 4)) (xs (p + 5)) σ
  obtain ⟨σ2, h⟩ := hk (e + 7) _ (by omega) (jm_m_post (jm_fI hf hJ))
  exact ⟨σ2, law_4 hN p e hp hL he σ σ1 k hw _ h⟩
theorem st_5 (p : Nat) (hN : 66 ≤ N) (e : Nat) (hp : p + 6 ≤ L) (hL : L ≤ 3073) (he : e + 24 ≤ 20000) (hJ : Jm σ) (hk : ∀ e' σ', e' ≤ e + 12 → Jm σ' → Fin1 N L xs 773 p e' σ') : Fin1 N L xs 315 p e σ := by
  obtain ⟨k, σ1, hw, hf⟩ := oe_disturb (L := L) (xs := xs) hN (((xs (p + 1)).toInt64 <<< ((32 : Int32).toInt64 &&& 63)) ||| ((xs (p + 2)).toInt64 &&& (4294967295 : Int64))) σ
  obtain ⟨σ2, h⟩ := hk (e + 1) _ (by omega) (jm_m_disturb (jm_fI hf hJ))
  exact ⟨σ2, law_5 hN p e hp hL he σ σ1 k hw _ h⟩
theorem st_6 (p : Nat) (hN : 66 ≤ N) (e : Nat) (hp : p + 6 ≤ L) (hL : L ≤ 3073) (he : e + 24 ≤ 20000) (hJ : Jm σ) (hk : ∀ e' σ', e' ≤ e + 12 → Jm σ' → Fin1 N L xs 773 p e' σ') : Fin1 N L xs 372 p e σ := by
  obtain ⟨k, σ1, hw, hf⟩ := oe_lose (L := L) (xs := xs) hN (xs (p + 1)) σ
  obtain ⟨σ2, h⟩ := hk (e + 1) _ (by omega) (jm_m_lose (jm_fI hf hJ))
  exact ⟨σ2, law_6 hN p e hp hL he σ σ1 k hw _ h⟩
theorem st_7 (p : Nat) (hN : 66 ≤ N) (e : Nat) (hp : p + 6 ≤ L) (hL : L ≤ 3073) (he : e + 24 ≤ 20000) (hJ : Jm σ) (hk : ∀ e' σ', e' ≤ e + 12 → Jm σ' → Fin1 N L xs 773 p e' σ') : Fin1 N L xs 400 p e σ := by
  obtain ⟨k, σ1, hw, hf⟩ := oe_state (L := L) (xs := xs) hN (xs (p + 1)) σ
  obtain ⟨σ2, h⟩ := hk (e + 1) _ (by omega) (jm_m_state (jm_fI hf hJ))
  exact ⟨σ2, law_7 hN p e hp hL he σ σ1 k hw _ h⟩
theorem st_8 (p : Nat) (hN : 66 ≤ N) (e : Nat) (hp : p + 6 ≤ L) (hL : L ≤ 3073) (he : e + 24 ≤ 20000) (hJ : Jm σ) (hk : ∀ e' σ', e' ≤ e + 12 → Jm σ' → Fin1 N L xs 773 p e' σ') : Fin1 N L xs 428 p e σ := by
  obtain ⟨k, σ1, hw, hf⟩ := oe_clock (L := L) (xs := xs) hN (xs (p + 1)) (xs (p + 2)) σ
  obtain ⟨σ2, h⟩ := hk (e + 3) _ (by omega) (jm_m_clock (jm_fI hf hJ))
  exact ⟨σ2, law_8 hN p e hp hL he σ σ1 k hw _ h⟩
theorem st_9f (p : Nat) (hb : (xs (p + 3)) = (0 : Int32)) (hN : 66 ≤ N) (e : Nat) (hp : p + 6 ≤ L) (hL : L ≤ 3073) (he : e + 24 ≤ 20000) (hJ : Jm σ) (hk : ∀ e' σ', e' ≤ e + 12 → Jm σ' → Fin1 N L xs 773 p e' σ') : Fin1 N L xs 468 p e σ := by
  obtain ⟨k, σ1, hw, hf⟩ := oe_deviation (L := L) (xs := xs) hN (xs (p + 1)) (xs (p + 2)) 0 σ
  obtain ⟨σ2, h⟩ := hk (e + 3) _ (by omega) (jm_m_deviation (jm_fI hf hJ))
  exact ⟨σ2, law_9f hN p e hp hL he σ σ1 k hb hw _ h⟩
theorem st_9t (p : Nat) (hb : ¬ ((xs (p + 3)) = (0 : Int32))) (hN : 66 ≤ N) (e : Nat) (hp : p + 6 ≤ L) (hL : L ≤ 3073) (he : e + 24 ≤ 20000) (hJ : Jm σ) (hk : ∀ e' σ', e' ≤ e + 12 → Jm σ' → Fin1 N L xs 773 p e' σ') : Fin1 N L xs 468 p e σ := by
  obtain ⟨k, σ1, hw, hf⟩ := oe_deviation (L := L) (xs := xs) hN (xs (p + 1)) (xs (p + 2)) 1 σ
  obtain ⟨σ2, h⟩ := hk (e + 3) _ (by omega) (jm_m_deviation (jm_fI hf hJ))
  exact ⟨σ2, law_9t hN p e hp hL he σ σ1 k hb hw _ h⟩
theorem st_10 (p : Nat) (hN : 66 ≤ N) (e : Nat) (hp : p + 6 ≤ L) (hL : L ≤ 3073) (he : e + 24 ≤ 20000) (hJ : Jm σ) (hk : ∀ e' σ', e' ≤ e + 12 → Jm σ' → Fin1 N L xs 773 p e' σ') : Fin1 N L xs 536 p e σ := by
  obtain ⟨k, σ1, hw, hf⟩ := oe_got (L := L) (xs := xs) hN (xs (p + 1)) (xs (p + 2)) σ
  obtain ⟨σ2, h⟩ := hk (e + 3) _ (by omega) (jm_m_got (jm_fI hf hJ))
  exact ⟨σ2, law_10 hN p e hp hL he σ σ1 k hw _ h⟩
theorem st_11 (p : Nat) (hN : 66 ≤ N) (e : Nat) (hp : p + 6 ≤ L) (hL : L ≤ 3073) (he : e + 24 ≤ 20000) (hJ : Jm σ) (hk : ∀ e' σ', e' ≤ e + 12 → Jm σ' → Fin1 N L xs 773 p e' σ') : Fin1 N L xs 576 p e σ := by
  obtain ⟨σ2, h⟩ := hk (e + 0) _ (by omega) (jm_m_frames hJ)
  exact ⟨σ2, law_11 hN p e hp hL he σ _ h⟩
theorem st_12 (p : Nat) (hN : 66 ≤ N) (e : Nat) (hp : p + 6 ≤ L) (hL : L ≤ 3073) (he : e + 24 ≤ 20000) (hJ : Jm σ) (hk : ∀ e' σ', e' ≤ e + 12 → Jm σ' → Fin1 N L xs 773 p e' σ') : Fin1 N L xs 589 p e σ := by
  obtain ⟨k, σ1, hw, hf⟩ := oe_last (L := L) (xs := xs) hN  σ
  obtain ⟨σ2, h⟩ := hk (e + 1) _ (by omega) (jm_m_last (jm_fI hf hJ))
  exact ⟨σ2, law_12 hN p e hp hL he σ σ1 k hw _ h⟩
theorem st_13f (p : Nat) (hb : (xs (p + 3)) = (0 : Int32)) (hN : 66 ≤ N) (e : Nat) (hp : p + 6 ≤ L) (hL : L ≤ 3073) (he : e + 24 ≤ 20000) (hJ : Jm σ) (hk : ∀ e' σ', e' ≤ e + 12 → Jm σ' → Fin1 N L xs 773 p e' σ') : Fin1 N L xs 605 p e σ := by
  obtain ⟨k, σ1, hw, hf⟩ := oe_encode (L := L) (xs := xs) hN (xs (p + 1)) (xs (p + 2)) 0 (xs (p + 4)) σ
  obtain ⟨σ2, h⟩ := hk (e + 3) _ (by omega) (jm_m_encode (jm_fI hf hJ))
  exact ⟨σ2, law_13f hN p e hp hL he σ σ1 k hb hw _ h⟩
theorem st_13t (p : Nat) (hb : ¬ ((xs (p + 3)) = (0 : Int32))) (hN : 66 ≤ N) (e : Nat) (hp : p + 6 ≤ L) (hL : L ≤ 3073) (he : e + 24 ≤ 20000) (hJ : Jm σ) (hk : ∀ e' σ', e' ≤ e + 12 → Jm σ' → Fin1 N L xs 773 p e' σ') : Fin1 N L xs 605 p e σ := by
  obtain ⟨k, σ1, hw, hf⟩ := oe_encode (L := L) (xs := xs) hN (xs (p + 1)) (xs (p + 2)) 1 (xs (p + 4)) σ
  obtain ⟨σ2, h⟩ := hk (e + 3) _ (by omega) (jm_m_encode (jm_fI hf hJ))
  exact ⟨σ2, law_13t hN p e hp hL he σ σ1 k hb hw _ h⟩
theorem no1 {P : Prop} : (1 : Int32) = 0 → P := fun h => absurd h (by decide)
theorem no2 {P : Prop} : (2 : Int32) = 0 → P := fun h => absurd h (by decide)
theorem eq_decode (w : Int64) (σ : mmS) : (sp_b_decode w σ = (.inr "java/lang/IllegalArgumentException", σ) ∧ ((sp_m_decode w σ).2).1 42 0 = 1) ∨ (sp_b_decode w σ = (.inr "java/lang/IllegalStateException", σ) ∧ ((sp_m_decode w σ).2).1 42 0 = 2) ∨ ∃ v, sp_b_decode w σ = (.inl (some (.int v)), σ) ∧ ∀ σ1, (sp_m_decode w σ1).1 = v ∧ (sp_m_decode w σ1).2 = mmI σ1 42 0 0 := by
  obtain ⟨n, hn, rfl⟩ := wb_of w
  have go1 : ∀ σ1 : mmS, sp_m_wrong (lN n) σ1 = 1 → ((sp_m_decode (lN n) σ1).2).1 42 0 = 1 := fun σ1 hq => by
    unfold sp_m_decode
    rw [hq, if_neg (by decide)]
    rfl
  have go2 : ∀ σ1 : mmS, sp_m_wrong (lN n) σ1 = 2 → ((sp_m_decode (lN n) σ1).2).1 42 0 = 2 := fun σ1 hq => by
    unfold sp_m_decode
    rw [hq, if_neg (by decide)]
    rfl
  by_cases h : n < 2 ^ 57
  · have hf : ¬ sp_w_fits (lN n) σ = 0 := fun q => (fits_iff hn σ).mp q h
    by_cases c1 : hN12 (n / 2 ^ 45) = n / 2 ^ 34 % 2048
    · have hh : ¬ sp_w_isHeadRight (lN n) σ = 0 := fun q => (head_iff h σ).mp q c1
      by_cases c2 : hN33 (n / 2 ^ 24) = n % 16777216
      · have hg : ¬ sp_w_isWholeRight (lN n) σ = 0 := fun q => (whole_iff h σ).mp q c2
        have hz : ∀ σ1 : mmS, sp_m_wrong (lN n) σ1 = 0 := fun σ1 => by rw [wrong_in h, if_pos c1, if_pos c2]
        refine Or.inr (Or.inr ?_)
        by_cases hs : sp_w_startupIn (lN n) σ = 0
        · refine ⟨_, by unfold sp_b_decode; rw [if_neg hf, if_neg hh, if_neg hg, if_pos hs], fun σ1 => ?_⟩
          unfold sp_m_decode
          rw [hz σ1, if_pos (by decide), if_pos (by rw [← sta_eq2 h σ]; exact hs)]
          exact ⟨by rw [id_eq2 h σ (mmI σ1 42 0 0), cyc_eq2 h σ (mmI σ1 42 0 0), val_eq2 h σ (mmI σ1 42 0 0)], rfl⟩
        · refine ⟨_, by unfold sp_b_decode; rw [if_neg hf, if_neg hh, if_neg hg, if_neg hs], fun σ1 => ?_⟩
          unfold sp_m_decode
          rw [hz σ1, if_pos (by decide), if_neg (by rw [← sta_eq2 h σ]; exact hs)]
          exact ⟨by rw [id_eq2 h σ (mmI σ1 42 0 0), cyc_eq2 h σ (mmI σ1 42 0 0), val_eq2 h σ (mmI σ1 42 0 0)], rfl⟩
      · have hg : sp_w_isWholeRight (lN n) σ = 0 := (whole_iff h σ).mpr c2
        exact Or.inr (Or.inl ⟨by unfold sp_b_decode; rw [if_neg hf, if_neg hh, if_pos hg], go2 σ (by rw [wrong_in h, if_pos c1, if_neg c2])⟩)
    · have hh : sp_w_isHeadRight (lN n) σ = 0 := (head_iff h σ).mpr c1
      exact Or.inl ⟨by unfold sp_b_decode; rw [if_neg hf, if_pos hh], go1 σ (by rw [wrong_in h, if_neg c1])⟩
  · have hf : sp_w_fits (lN n) σ = 0 := (fits_iff hn σ).mpr h
    exact Or.inl ⟨by unfold sp_b_decode; rw [if_pos hf], go1 σ (wrong_out hn h σ)⟩
theorem st_14 (p : Nat) (hN : 66 ≤ N) (e : Nat) (hp : p + 6 ≤ L) (hL : L ≤ 3073) (he : e + 24 ≤ 20000) (hJ : Jm σ) (hk : ∀ e' σ', e' ≤ e + 12 → Jm σ' → Fin1 N L xs 773 p e' σ') : Fin1 N L xs 685 p e σ := by
  rcases eq_decode (((xs (p + 1)).toInt64 <<< ((32 : Int32).toInt64 &&& 63)) ||| ((xs (p + 2)).toInt64 &&& (4294967295 : Int64))) σ with ⟨hr, hq⟩ | ⟨hr, hq⟩ | ⟨v, hr, hq⟩
  · obtain ⟨σ2, h⟩ := hk (e + 2) _ (by omega) (jm_m_decode hJ)
    exact ⟨σ2, law_14 hN p e hp hL he σ σ 1 (lw_decode_1 hN _ σ σ hr) hq no1 _ h⟩
  · obtain ⟨σ2, h⟩ := hk (e + 2) _ (by omega) (jm_m_decode hJ)
    exact ⟨σ2, law_14 hN p e hp hL he σ σ 2 (lw_decode_2 hN _ σ σ hr) hq no2 _ h⟩
  · obtain ⟨σ2, h⟩ := hk (e + 2) _ (by omega) (jm_m_decode (jm_J (k := 65) (i := 0) (v := v.toInt64) hJ))
    refine ⟨σ2, law_14 hN p e hp hL he σ _ 0 (lw_decode_ok hN _ σ σ v hr) ?_ (fun _ => ?_) _ h⟩
    · rw [(hq _).2]; rfl
    · rw [(hq _).2, (hq _).1]; exact lgS _

theorem lp_step (p : Nat) (hN : 66 ≤ N) (e : Nat) (hp : p + 6 ≤ L) (hL : L ≤ 3073) (he : e + 24 ≤ 20000) (hJ : Jm σ) (hk : ∀ e' σ', e' ≤ e + 12 → Jm σ' → Fin1 N L xs 773 p e' σ') : Fin1 N L xs 33 p e σ := by
  by_cases h0 : (xs p) &&& (15 : Int32) = 0
  · obtain ⟨σ2, h⟩ := st_0 (xs := xs) p hN e hp hL he hJ hk
    exact ⟨σ2, law_to0 p e hp hL σ _ h0 h⟩
  by_cases h1 : (xs p) &&& (15 : Int32) = 1
  · obtain ⟨σ2, h⟩ := st_1 (xs := xs) p hN e hp hL he hJ hk
    exact ⟨σ2, law_to1 p e hp hL σ _ h1 h⟩
  by_cases h2 : (xs p) &&& (15 : Int32) = 2
  · obtain ⟨σ2, h⟩ := st_2 (xs := xs) p hN e hp hL he hJ hk
    exact ⟨σ2, law_to2 p e hp hL σ _ h2 h⟩
  by_cases h3 : (xs p) &&& (15 : Int32) = 3
  · obtain ⟨σ2, h⟩ := st_3 (xs := xs) p hN e hp hL he hJ hk
    exact ⟨σ2, law_to3 p e hp hL σ _ h3 h⟩
  by_cases h4 : (xs p) &&& (15 : Int32) = 4
  · obtain ⟨σ2, h⟩ := st_4 (xs := xs) p hN e hp hL he hJ hk
    exact ⟨σ2, law_to4 p e hp hL σ _ h4 h⟩
  by_cases h5 : (xs p) &&& (15 : Int32) = 5
  · obtain ⟨σ2, h⟩ := st_5 (xs := xs) p hN e hp hL he hJ hk
    exact ⟨σ2, law_to5 p e hp hL σ _ h5 h⟩
  by_cases h6 : (xs p) &&& (15 : Int32) = 6
  · obtain ⟨σ2, h⟩ := st_6 (xs := xs) p hN e hp hL he hJ hk
    exact ⟨σ2, law_to6 p e hp hL σ _ h6 h⟩
  by_cases h7 : (xs p) &&& (15 : Int32) = 7
  · obtain ⟨σ2, h⟩ := st_7 (xs := xs) p hN e hp hL he hJ hk
    exact ⟨σ2, law_to7 p e hp hL σ _ h7 h⟩
  by_cases h8 : (xs p) &&& (15 : Int32) = 8
  · obtain ⟨σ2, h⟩ := st_8 (xs := xs) p hN e hp hL he hJ hk
    exact ⟨σ2, law_to8 p e hp hL σ _ h8 h⟩
  by_cases h9 : (xs p) &&& (15 : Int32) = 9
  · by_cases hb : (xs (p + 3)) = (0 : Int32)
    · obtain ⟨σ2, h⟩ := st_9f (xs := xs) p hb hN e hp hL he hJ hk
      exact ⟨σ2, law_to9 p e hp hL σ _ h9 h⟩
    · obtain ⟨σ2, h⟩ := st_9t (xs := xs) p hb hN e hp hL he hJ hk
      exact ⟨σ2, law_to9 p e hp hL σ _ h9 h⟩
  by_cases h10 : (xs p) &&& (15 : Int32) = 10
  · obtain ⟨σ2, h⟩ := st_10 (xs := xs) p hN e hp hL he hJ hk
    exact ⟨σ2, law_to10 p e hp hL σ _ h10 h⟩
  by_cases h11 : (xs p) &&& (15 : Int32) = 11
  · obtain ⟨σ2, h⟩ := st_11 (xs := xs) p hN e hp hL he hJ hk
    exact ⟨σ2, law_to11 p e hp hL σ _ h11 h⟩
  by_cases h12 : (xs p) &&& (15 : Int32) = 12
  · obtain ⟨σ2, h⟩ := st_12 (xs := xs) p hN e hp hL he hJ hk
    exact ⟨σ2, law_to12 p e hp hL σ _ h12 h⟩
  by_cases h13 : (xs p) &&& (15 : Int32) = 13
  · by_cases hb : (xs (p + 3)) = (0 : Int32)
    · obtain ⟨σ2, h⟩ := st_13f (xs := xs) p hb hN e hp hL he hJ hk
      exact ⟨σ2, law_to13 p e hp hL σ _ h13 h⟩
    · obtain ⟨σ2, h⟩ := st_13t (xs := xs) p hb hN e hp hL he hJ hk
      exact ⟨σ2, law_to13 p e hp hL σ _ h13 h⟩
  by_cases h14 : (xs p) &&& (15 : Int32) = 14
  · obtain ⟨σ2, h⟩ := st_14 (xs := xs) p hN e hp hL he hJ hk
    exact ⟨σ2, law_to14 p e hp hL σ _ h14 h⟩
  have g0 : ((xs p) &&& (15 : Int32)).toInt ≠ 0 := fun q => h0 (Int32.toInt_inj.mp (q.trans (by decide)))
  have g1 : ((xs p) &&& (15 : Int32)).toInt ≠ 1 := fun q => h1 (Int32.toInt_inj.mp (q.trans (by decide)))
  have g2 : ((xs p) &&& (15 : Int32)).toInt ≠ 2 := fun q => h2 (Int32.toInt_inj.mp (q.trans (by decide)))
  have g3 : ((xs p) &&& (15 : Int32)).toInt ≠ 3 := fun q => h3 (Int32.toInt_inj.mp (q.trans (by decide)))
  have g4 : ((xs p) &&& (15 : Int32)).toInt ≠ 4 := fun q => h4 (Int32.toInt_inj.mp (q.trans (by decide)))
  have g5 : ((xs p) &&& (15 : Int32)).toInt ≠ 5 := fun q => h5 (Int32.toInt_inj.mp (q.trans (by decide)))
  have g6 : ((xs p) &&& (15 : Int32)).toInt ≠ 6 := fun q => h6 (Int32.toInt_inj.mp (q.trans (by decide)))
  have g7 : ((xs p) &&& (15 : Int32)).toInt ≠ 7 := fun q => h7 (Int32.toInt_inj.mp (q.trans (by decide)))
  have g8 : ((xs p) &&& (15 : Int32)).toInt ≠ 8 := fun q => h8 (Int32.toInt_inj.mp (q.trans (by decide)))
  have g9 : ((xs p) &&& (15 : Int32)).toInt ≠ 9 := fun q => h9 (Int32.toInt_inj.mp (q.trans (by decide)))
  have g10 : ((xs p) &&& (15 : Int32)).toInt ≠ 10 := fun q => h10 (Int32.toInt_inj.mp (q.trans (by decide)))
  have g11 : ((xs p) &&& (15 : Int32)).toInt ≠ 11 := fun q => h11 (Int32.toInt_inj.mp (q.trans (by decide)))
  have g12 : ((xs p) &&& (15 : Int32)).toInt ≠ 12 := fun q => h12 (Int32.toInt_inj.mp (q.trans (by decide)))
  have g13 : ((xs p) &&& (15 : Int32)).toInt ≠ 13 := fun q => h13 (Int32.toInt_inj.mp (q.trans (by decide)))
  have g14 : ((xs p) &&& (15 : Int32)).toInt ≠ 14 := fun q => h14 (Int32.toInt_inj.mp (q.trans (by decide)))
  obtain ⟨σ2, h⟩ := hk e σ (by omega) hJ
  exact ⟨σ2, law_to15 p e hp hL σ _ (by omega) h⟩
theorem lp_all (hN : 66 ≤ N) (hL : L ≤ 3073) : ∀ (d p e : Nat) (σ : mmS), L < p + 6 * d + 6 → p < 3080 → e + 12 * d + 24 ≤ 20000 → Jm σ → Fin1 N L xs 33 p e σ
  | 0, p, e, σ, h, hp, _, _ => ⟨σ, law_end p e hp hL (by omega) σ⟩
  | d + 1, p, e, σ, h, hp, he, hJ => by
    by_cases hq : L < p + 6
    · exact ⟨σ, law_end p e hp hL hq σ⟩
    · refine lp_step p hN e (by omega) hL (by omega) hJ (fun e' σ' he' hJ' => ?_)
      obtain ⟨σ2, h2⟩ := lp_all hN hL d (p + 6) e' σ' (by omega) (by omega) (by omega) hJ'
      exact ⟨σ2, law_next p e' σ' _ h2⟩
theorem p_all (hN : 66 ≤ N) (hJ : Jm σ) (hL : L ≤ 3073) : ∃ σ', Ev N L xs (132, 30, [(0, .ref 1000), (1, .ref 0), (2, .ref 42), (3, .ref 65)], [], 0, σ) (mmPI σ' 1) := by
  obtain ⟨σ2, h⟩ := lp_all (xs := xs) hN hL 512 1 0 σ (by omega) (by omega) (by omega) hJ
  exact ⟨σ2, law_in σ _ h⟩
end CR
