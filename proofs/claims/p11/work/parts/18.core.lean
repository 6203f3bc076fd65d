section CR
variable {N L : Nat} {xs : Nat → Int32} {σ : mmS}
abbrev LVp (p : Nat) : List (Nat × Value) := [(0, .ref 1000), (1, .ref 0), (2, .ref 42), (3, .ref 65), (4, .int (Int32.ofNat p))]
/-- no call of the script asks a node for its own deviation -/
def noself (L : Nat) (xs : Nat → Int32) : Prop := ∀ p, p + 6 ≤ L → p % 6 = 1 → xs p &&& (15 : Int32) = 9 → ¬ xs (p + 1) = xs (p + 2)
/-- from here the law comes to its end and answers 1 -/
def Fin1 (N L : Nat) (xs : Nat → Int32) (pc p e : Nat) (σ : mmS) : Prop := ∃ σ', Ev N L xs (132, pc, LVp p, [], e, σ) (mmPI σ' 1)
theorem st_0 (p : Nat) (hN : 66 ≤ N) (e : Nat) (hp : p + 6 ≤ L) (hL : L ≤ 3073) (he : e + 24 ≤ 20000) (hJ : RB σ σ) (hk : ∀ e' σ', e' ≤ e + 12 → RB σ' σ' → Fin1 N L xs 773 p e' σ') : Fin1 N L xs 124 p e σ := by
  obtain ⟨k, σ1, hw, hi, q1, ho⟩ := sl_power (L := L) (xs := xs) hN (xs (p + 1)) hJ
  obtain ⟨σ2, h⟩ := hk (e + 2) _ (by omega) ho
  exact ⟨σ2, law_0 hN p e hp hL he σ σ1 k hw _ h⟩
theorem st_1 (p : Nat) (hN : 66 ≤ N) (e : Nat) (hp : p + 6 ≤ L) (hL : L ≤ 3073) (he : e + 24 ≤ 20000) (hJ : RB σ σ) (hk : ∀ e' σ', e' ≤ e + 12 → RB σ' σ' → Fin1 N L xs 773 p e' σ') : Fin1 N L xs 149 p e σ := by
  obtain ⟨k, σ1, hw, hi, q1, q2, ho⟩ := sl_off (L := L) (xs := xs) hN (xs (p + 1)) hJ
  obtain ⟨σ2, h⟩ := hk (e + 1) _ (by omega) ho
  exact ⟨σ2, law_1 hN p e hp hL he σ σ1 k hw _ h⟩
theorem st_2 (p : Nat) (hN : 66 ≤ N) (e : Nat) (hp : p + 6 ≤ L) (hL : L ≤ 3073) (he : e + 24 ≤ 20000) (hJ : RB σ σ) (hk : ∀ e' σ', e' ≤ e + 12 → RB σ' σ' → Fin1 N L xs 773 p e' σ') : Fin1 N L xs 177 p e σ := by
  obtain ⟨k, σ1, hw, hi, q1, q2, ho⟩ := sl_run (L := L) (xs := xs) hN (xs (p + 1)) hJ
  obtain ⟨σ2, h⟩ := hk (e + 1) _ (by omega) ho
  exact ⟨σ2, law_2 hN p e hp hL he σ σ1 k hw (rb_Jm hi) _ h⟩
theorem st_3 (p : Nat) (hN : 66 ≤ N) (e : Nat) (hp : p + 6 ≤ L) (hL : L ≤ 3073) (he : e + 24 ≤ 20000) (hJ : RB σ σ) (hk : ∀ e' σ', e' ≤ e + 12 → RB σ' σ' → Fin1 N L xs 773 p e' σ') : Fin1 N L xs 205 p e σ := by
  obtain ⟨k, σ1, hw, hi, q1, ho⟩ := sl_value (L := L) (xs := xs) hN (xs (p + 1)) (xs (p + 2)) hJ
  obtain ⟨σ2, h⟩ := hk (e + 3) _ (by omega) ho
  exact ⟨σ2, law_3 hN p e hp hL he σ σ1 k hw _ h⟩
theorem st_4 (p : Nat) (hN : 66 ≤ N) (e : Nat) (hp : p + 6 ≤ L) (hL : L ≤ 3073) (he : e + 24 ≤ 20000) (hJ : RB σ σ) (hk : ∀ e' σ', e' ≤ e + 12 → RB σ' σ' → Fin1 N L xs 773 p e' σ') : Fin1 N L xs 242 p e σ := by
  obtain ⟨k, σ1, hw, hi, q1, ho⟩ := sl_post (L := L) (xs := xs) hN (xs (p + 1)) (xs (p + 2)) (xs (p + 3)) (xs (p + 4)) (xs (p + 5)) hJ
  obtain ⟨σ2, h⟩ := hk (e + 7) _ (by omega) ho
  exact ⟨σ2, law_4 hN p e hp hL he σ σ1 k hw _ h⟩
theorem st_5 (p : Nat) (hN : 66 ≤ N) (e : Nat) (hp : p + 6 ≤ L) (hL : L ≤ 3073) (he : e + 24 ≤ 20000) (hJ : RB σ σ) (hk : ∀ e' σ', e' ≤ e + 12 → RB σ' σ' → Fin1 N L xs 773 p e' σ') : Fin1 N L xs 315 p e σ := by
  obtain ⟨k, σ1, hw, hi, q1, ho⟩ := sl_disturb (L := L) (xs := xs) hN (((xs (p + 1)).toInt64 <<< ((32 : Int32).toInt64 &&& 63)) ||| ((xs (p + 2)).toInt64 &&& (4294967295 : Int64))) hJ
  obtain ⟨σ2, h⟩ := hk (e + 1) _ (by omega) ho
  exact ⟨σ2, law_5 hN p e hp hL he σ σ1 k hw _ h⟩
theorem st_6 (p : Nat) (hN : 66 ≤ N) (e : Nat) (hp : p + 6 ≤ L) (hL : L ≤ 3073) (he : e + 24 ≤ 20000) (hJ : RB σ σ) (hk : ∀ e' σ', e' ≤ e + 12 → RB σ' σ' → Fin1 N L xs 773 p e' σ') : Fin1 N L xs 372 p e σ := by
  obtain ⟨k, σ1, hw, hi, q1, q2, ho⟩ := sl_lose (L := L) (xs := xs) hN (xs (p + 1)) hJ
  obtain ⟨σ2, h⟩ := hk (e + 1) _ (by omega) ho
  exact ⟨σ2, law_6 hN p e hp hL he σ σ1 k hw _ h⟩
theorem st_7 (p : Nat) (hN : 66 ≤ N) (e : Nat) (hp : p + 6 ≤ L) (hL : L ≤ 3073) (he : e + 24 ≤ 20000) (hJ : RB σ σ) (hk : ∀ e' σ', e' ≤ e + 12 → RB σ' σ' → Fin1 N L xs 773 p e' σ') : Fin1 N L xs 400 p e σ := by
  obtain ⟨k, σ1, hw, hi, q1, q2, ho⟩ := sl_state (L := L) (xs := xs) hN (xs (p + 1)) hJ
  obtain ⟨σ2, h⟩ := hk (e + 1) _ (by omega) ho
  exact ⟨σ2, law_7 hN p e hp hL he σ σ1 k hw _ h⟩
theorem st_8 (p : Nat) (hN : 66 ≤ N) (e : Nat) (hp : p + 6 ≤ L) (hL : L ≤ 3073) (he : e + 24 ≤ 20000) (hJ : RB σ σ) (hk : ∀ e' σ', e' ≤ e + 12 → RB σ' σ' → Fin1 N L xs 773 p e' σ') : Fin1 N L xs 428 p e σ := by
  obtain ⟨k, σ1, hw, hi, q1, q2, ho⟩ := sl_clock (L := L) (xs := xs) hN (xs (p + 1)) (xs (p + 2)) hJ
  obtain ⟨σ2, h⟩ := hk (e + 3) _ (by omega) ho
  exact ⟨σ2, law_8 hN p e hp hL he σ σ1 k hw _ h⟩
theorem st_9f (p : Nat) (hb : (xs (p + 3)) = (0 : Int32)) (hab : ¬ (xs (p + 1)) = (xs (p + 2))) (hN : 66 ≤ N) (e : Nat) (hp : p + 6 ≤ L) (hL : L ≤ 3073) (he : e + 24 ≤ 20000) (hJ : RB σ σ) (hk : ∀ e' σ', e' ≤ e + 12 → RB σ' σ' → Fin1 N L xs 773 p e' σ') : Fin1 N L xs 468 p e σ := by
  obtain ⟨k, σ1, hw, hi, q1, q2, ho⟩ := sl_deviationN (L := L) (xs := xs) hN (xs (p + 1)) (xs (p + 2)) 0 hab hJ
  obtain ⟨σ2, h⟩ := hk (e + 3) _ (by omega) ho
  exact ⟨σ2, law_9f hN p e hp hL he σ σ1 k hb hw q1 q2 _ h⟩
theorem st_9t (p : Nat) (hb : ¬ ((xs (p + 3)) = (0 : Int32))) (hab : ¬ (xs (p + 1)) = (xs (p + 2))) (hN : 66 ≤ N) (e : Nat) (hp : p + 6 ≤ L) (hL : L ≤ 3073) (he : e + 24 ≤ 20000) (hJ : RB σ σ) (hk : ∀ e' σ', e' ≤ e + 12 → RB σ' σ' → Fin1 N L xs 773 p e' σ') : Fin1 N L xs 468 p e σ := by
  obtain ⟨k, σ1, hw, hi, q1, q2, ho⟩ := sl_deviationN (L := L) (xs := xs) hN (xs (p + 1)) (xs (p + 2)) 1 hab hJ
  obtain ⟨σ2, h⟩ := hk (e + 3) _ (by omega) ho
  exact ⟨σ2, law_9t hN p e hp hL he σ σ1 k hb hw q1 q2 _ h⟩
theorem st_10 (p : Nat) (hN : 66 ≤ N) (e : Nat) (hp : p + 6 ≤ L) (hL : L ≤ 3073) (he : e + 24 ≤ 20000) (hJ : RB σ σ) (hk : ∀ e' σ', e' ≤ e + 12 → RB σ' σ' → Fin1 N L xs 773 p e' σ') : Fin1 N L xs 564 p e σ := by
  obtain ⟨k, σ1, hw, hi, q1, q2, ho⟩ := sl_got (L := L) (xs := xs) hN (xs (p + 1)) (xs (p + 2)) hJ
  obtain ⟨σ2, h⟩ := hk (e + 3) _ (by omega) ho
  exact ⟨σ2, law_10 hN p e hp hL he σ σ1 k hw _ h⟩
theorem st_11 (p : Nat) (hN : 66 ≤ N) (e : Nat) (hp : p + 6 ≤ L) (hL : L ≤ 3073) (he : e + 24 ≤ 20000) (hJ : RB σ σ) (hk : ∀ e' σ', e' ≤ e + 12 → RB σ' σ' → Fin1 N L xs 773 p e' σ') : Fin1 N L xs 604 p e σ := by
  obtain ⟨q1, ho⟩ := sl_frames hJ
  obtain ⟨σ2, h⟩ := hk (e + 0) _ (by omega) ho
  exact ⟨σ2, law_11 hN p e hp hL he σ _ h⟩
theorem st_12 (p : Nat) (hN : 66 ≤ N) (e : Nat) (hp : p + 6 ≤ L) (hL : L ≤ 3073) (he : e + 24 ≤ 20000) (hJ : RB σ σ) (hk : ∀ e' σ', e' ≤ e + 12 → RB σ' σ' → Fin1 N L xs 773 p e' σ') : Fin1 N L xs 617 p e σ := by
  obtain ⟨k, σ1, hw, hi, q1, q2, ho⟩ := sl_last (L := L) (xs := xs) hN  hJ
  obtain ⟨σ2, h⟩ := hk (e + 1) _ (by omega) ho
  exact ⟨σ2, law_12 hN p e hp hL he σ σ1 k hw _ h⟩
theorem st_13f (p : Nat) (hb : (xs (p + 3)) = (0 : Int32)) (hN : 66 ≤ N) (e : Nat) (hp : p + 6 ≤ L) (hL : L ≤ 3073) (he : e + 24 ≤ 20000) (hJ : RB σ σ) (hk : ∀ e' σ', e' ≤ e + 12 → RB σ' σ' → Fin1 N L xs 773 p e' σ') : Fin1 N L xs 633 p e σ := by
  obtain ⟨k, σ1, hw, hi, q1, q2, ho⟩ := sl_encode (L := L) (xs := xs) hN (xs (p + 1)) (xs (p + 2)) 0 (xs (p + 4)) (Or.inl rfl) hJ
  obtain ⟨σ2, h⟩ := hk (e + 3) _ (by omega) ho
  exact ⟨σ2, law_13f hN p e hp hL he σ σ1 k hb hw _ h⟩
theorem st_13t (p : Nat) (hb : ¬ ((xs (p + 3)) = (0 : Int32))) (hN : 66 ≤ N) (e : Nat) (hp : p + 6 ≤ L) (hL : L ≤ 3073) (he : e + 24 ≤ 20000) (hJ : RB σ σ) (hk : ∀ e' σ', e' ≤ e + 12 → RB σ' σ' → Fin1 N L xs 773 p e' σ') : Fin1 N L xs 633 p e σ := by
  obtain ⟨k, σ1, hw, hi, q1, q2, ho⟩ := sl_encode (L := L) (xs := xs) hN (xs (p + 1)) (xs (p + 2)) 1 (xs (p + 4)) (Or.inr rfl) hJ
  obtain ⟨σ2, h⟩ := hk (e + 3) _ (by omega) ho
  exact ⟨σ2, law_13t hN p e hp hL he σ σ1 k hb hw _ h⟩
theorem st_14 (p : Nat) (hN : 66 ≤ N) (e : Nat) (hp : p + 6 ≤ L) (hL : L ≤ 3073) (he : e + 24 ≤ 20000) (hJ : RB σ σ) (hk : ∀ e' σ', e' ≤ e + 12 → RB σ' σ' → Fin1 N L xs 773 p e' σ') : Fin1 N L xs 713 p e σ := by
  obtain ⟨k, σ1, hw, hi, q1, q2, ho⟩ := sl_decode (L := L) (xs := xs) hN (((xs (p + 1)).toInt64 <<< ((32 : Int32).toInt64 &&& 63)) ||| ((xs (p + 2)).toInt64 &&& (4294967295 : Int64))) hJ
  obtain ⟨σ2, h⟩ := hk (e + 2) _ (by omega) ho
  exact ⟨σ2, law_14 hN p e hp hL he σ σ1 k hw _ h⟩
theorem lp_step (p : Nat) (hns : (xs p) &&& (15 : Int32) = 9 → ¬ (xs (p + 1)) = (xs (p + 2))) (hN : 66 ≤ N) (e : Nat) (hp : p + 6 ≤ L) (hL : L ≤ 3073) (he : e + 24 ≤ 20000) (hJ : RB σ σ) (hk : ∀ e' σ', e' ≤ e + 12 → RB σ' σ' → Fin1 N L xs 773 p e' σ') : Fin1 N L xs 33 p e σ := by
  by_cases h0 : (xs p) &&& (15 : Int32) = 0
  · obtain ⟨σ2, h⟩ := st_0 (xs := xs) p hN e hp hL he hJ hk
    exact ⟨σ2, law_to0 p e hp hL σ _ h0 h⟩
  by_cases h1 : (xs p) &&& (15 : Int32) = 1
  · obtain ⟨σ2, h⟩ := st_1 (xs := xs) p hN e hp hL he hJ hk
    exact ⟨σ2, law_to1 p e hp hL σ _ h1 h⟩
  by_cases h2 : (xs p) &&& (15 : Int32) = 2
  · obtain ⟨σ2, h⟩ := st_2 (xs := xs) p hN e hp hL he hJ hk
    exact ⟨σ2, law_to2 p e hp hL σ _ h2 h⟩
  by_cases h3 : (xs p) &&& (15 : Int32) = 3
  · obtain ⟨σ2, h⟩ := st_3 (xs := xs) p hN e hp hL he hJ hk
    exact ⟨σ2, law_to3 p e hp hL σ _ h3 h⟩
  by_cases h4 : (xs p) &&& (15 : Int32) = 4
  · obtain ⟨σ2, h⟩ := st_4 (xs := xs) p hN e hp hL he hJ hk
    exact ⟨σ2, law_to4 p e hp hL σ _ h4 h⟩
  by_cases h5 : (xs p) &&& (15 : Int32) = 5
  · obtain ⟨σ2, h⟩ := st_5 (xs := xs) p hN e hp hL he hJ hk
    exact ⟨σ2, law_to5 p e hp hL σ _ h5 h⟩
  by_cases h6 : (xs p) &&& (15 : Int32) = 6
  · obtain ⟨σ2, h⟩ := st_6 (xs := xs) p hN e hp hL he hJ hk
    exact ⟨σ2, law_to6 p e hp hL σ _ h6 h⟩
  by_cases h7 : (xs p) &&& (15 : Int32) = 7
  · obtain ⟨σ2, h⟩ := st_7 (xs := xs) p hN e hp hL he hJ hk
    exact ⟨σ2, law_to7 p e hp hL σ _ h7 h⟩
  by_cases h8 : (xs p) &&& (15 : Int32) = 8
  · obtain ⟨σ2, h⟩ := st_8 (xs := xs) p hN e hp hL he hJ hk
    exact ⟨σ2, law_to8 p e hp hL σ _ h8 h⟩
  by_cases h9 : (xs p) &&& (15 : Int32) = 9
  · by_cases hb : (xs (p + 3)) = (0 : Int32)
    · obtain ⟨σ2, h⟩ := st_9f (xs := xs) p hb (hns h9) hN e hp hL he hJ hk
      exact ⟨σ2, law_to9 p e hp hL σ _ h9 h⟩
    · obtain ⟨σ2, h⟩ := st_9t (xs := xs) p hb (hns h9) hN e hp hL he hJ hk
      exact ⟨σ2, law_to9 p e hp hL σ _ h9 h⟩
  by_cases h10 : (xs p) &&& (15 : Int32) = 10
  · obtain ⟨σ2, h⟩ := st_10 (xs := xs) p hN e hp hL he hJ hk
    exact ⟨σ2, law_to10 p e hp hL σ _ h10 h⟩
  by_cases h11 : (xs p) &&& (15 : Int32) = 11
  · obtain ⟨σ2, h⟩ := st_11 (xs := xs) p hN e hp hL he hJ hk
    exact ⟨σ2, law_to11 p e hp hL σ _ h11 h⟩
  by_cases h12 : (xs p) &&& (15 : Int32) = 12
  · obtain ⟨σ2, h⟩ := st_12 (xs := xs) p hN e hp hL he hJ hk
    exact ⟨σ2, law_to12 p e hp hL σ _ h12 h⟩
  by_cases h13 : (xs p) &&& (15 : Int32) = 13
  · by_cases hb : (xs (p + 3)) = (0 : Int32)
    · obtain ⟨σ2, h⟩ := st_13f (xs := xs) p hb hN e hp hL he hJ hk
      exact ⟨σ2, law_to13 p e hp hL σ _ h13 h⟩
    · obtain ⟨σ2, h⟩ := st_13t (xs := xs) p hb hN e hp hL he hJ hk
      exact ⟨σ2, law_to13 p e hp hL σ _ h13 h⟩
  by_cases h14 : (xs p) &&& (15 : Int32) = 14
  · obtain ⟨σ2, h⟩ := st_14 (xs := xs) p hN e hp hL he hJ hk
    exact ⟨σ2, law_to14 p e hp hL σ _ h14 h⟩
  have g0 : ((xs p) &&& (15 : Int32)).toInt ≠ 0 := fun q => h0 (Int32.toInt_inj.mp (q.trans (by decide)))
  have g1 : ((xs p) &&& (15 : Int32)).toInt ≠ 1 := fun q => h1 (Int32.toInt_inj.mp (q.trans (by decide)))
  have g2 : ((xs p) &&& (15 : Int32)).toInt ≠ 2 := fun q => h2 (Int32.toInt_inj.mp (q.trans (by decide)))
  have g3 : ((xs p) &&& (15 : Int32)).toInt ≠ 3 := fun q => h3 (Int32.toInt_inj.mp (q.trans (by decide)))
  have g4 : ((xs p) &&& (15 : Int32)).toInt ≠ 4 := fun q => h4 (Int32.toInt_inj.mp (q.trans (by decide)))
  have g5 : ((xs p) &&& (15 : Int32)).toInt ≠ 5 := fun q => h5 (Int32.toInt_inj.mp (q.trans (by decide)))
  have g6 : ((xs p) &&& (15 : Int32)).toInt ≠ 6 := fun q => h6 (Int32.toInt_inj.mp (q.trans (by decide)))
  have g7 : ((xs p) &&& (15 : Int32)).toInt ≠ 7 := fun q => h7 (Int32.toInt_inj.mp (q.trans (by decide)))
  have g8 : ((xs p) &&& (15 : Int32)).toInt ≠ 8 := fun q => h8 (Int32.toInt_inj.mp (q.trans (by decide)))
  have g9 : ((xs p) &&& (15 : Int32)).toInt ≠ 9 := fun q => h9 (Int32.toInt_inj.mp (q.trans (by decide)))
  have g10 : ((xs p) &&& (15 : Int32)).toInt ≠ 10 := fun q => h10 (Int32.toInt_inj.mp (q.trans (by decide)))
  have g11 : ((xs p) &&& (15 : Int32)).toInt ≠ 11 := fun q => h11 (Int32.toInt_inj.mp (q.trans (by decide)))
  have g12 : ((xs p) &&& (15 : Int32)).toInt ≠ 12 := fun q => h12 (Int32.toInt_inj.mp (q.trans (by decide)))
  have g13 : ((xs p) &&& (15 : Int32)).toInt ≠ 13 := fun q => h13 (Int32.toInt_inj.mp (q.trans (by decide)))
  have g14 : ((xs p) &&& (15 : Int32)).toInt ≠ 14 := fun q => h14 (Int32.toInt_inj.mp (q.trans (by decide)))
  obtain ⟨σ2, h⟩ := hk e σ (by omega) hJ
  exact ⟨σ2, law_to15 p e hp hL σ _ (by omega) h⟩
theorem lp_all (hS : noself L xs) (hN : 66 ≤ N) (hL : L ≤ 3073) : ∀ (d p e : Nat) (σ : mmS), L < p + 6 * d + 6 → p < 3080 → p % 6 = 1 → e + 12 * d + 24 ≤ 20000 → RB σ σ → Fin1 N L xs 33 p e σ
  | 0, p, e, σ, h, hp, _, _, _ => ⟨σ, law_end p e hp hL (by omega) σ⟩
  | d + 1, p, e, σ, h, hp, h6, he, hJ => by
    by_cases hq : L < p + 6
    · exact ⟨σ, law_end p e hp hL hq σ⟩
    · refine lp_step p (hS p (by omega) h6) hN e (by omega) hL (by omega) hJ (fun e' σ' he' hJ' => ?_)
      obtain ⟨σ2, h2⟩ := lp_all hS hN hL d (p + 6) e' σ' (by omega) (by omega) (by omega) (by omega) hJ'
      exact ⟨σ2, law_next p e' σ' _ h2⟩
theorem p_all (hS : noself L xs) (hN : 66 ≤ N) (hJ : RB σ σ) (hL : L ≤ 3073) : ∃ σ', Ev N L xs (132, 30, [(0, .ref 1000), (1, .ref 0), (2, .ref 42), (3, .ref 65)], [], 0, σ) (mmPI σ' 1) := by
  obtain ⟨σ2, h⟩ := lp_all (xs := xs) hS hN hL 512 1 0 σ (by omega) (by omega) (by omega) (by omega) hJ
  exact ⟨σ2, law_in σ _ h⟩
end CR
