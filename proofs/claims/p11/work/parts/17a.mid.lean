/-! the middle of a few numbers: the class's ordered row and the reference's search say the same -/
section MD
def cnt : Nat → (Nat → Int) → Int → Nat
  | 0, _, _ => 0
  | n + 1, f, v => cnt n f v + (if f n ≤ v then 1 else 0)
def cgt (n : Nat) (f : Nat → Int) (v : Int) : Nat := cnt n (fun i => - f i) (-v - 1)
theorem cnt_cgt (f : Nat → Int) (v : Int) : ∀ n, cnt n f v + cgt n f v = n
  | 0 => rfl
  | n + 1 => by
    have h := cnt_cgt f v n
    unfold cgt at h ⊢
    show cnt n f v + (if f n ≤ v then 1 else 0) + (cnt n (fun i => - f i) (-v - 1) + (if - f n ≤ -v - 1 then 1 else 0)) = n + 1
    by_cases h1 : f n ≤ v
    · rw [if_pos h1, if_neg (by omega)]; omega
    · rw [if_neg h1, if_pos (by omega)]; omega
theorem cnt_congr {f g : Nat → Int} {v : Int} : ∀ n, (∀ i, i < n → f i = g i) → cnt n f v = cnt n g v
  | 0, _ => rfl
  | n + 1, h => by
    unfold cnt
    rw [cnt_congr n (fun i hi => h i (by omega)), h n (by omega)]
theorem cnt_one (f : Nat → Int) (v : Int) : ∀ n, 1 ≤ cnt n f v ↔ ∃ i, i < n ∧ f i ≤ v
  | 0 => ⟨fun h => absurd h (Nat.not_succ_le_zero 0), fun ⟨_, h, _⟩ => absurd h (Nat.not_lt_zero _)⟩
  | n + 1 => by
    have h := cnt_one f v n
    unfold cnt
    by_cases h1 : f n ≤ v
    · rw [if_pos h1]
      exact ⟨fun _ => ⟨n, by omega, h1⟩, fun _ => by omega⟩
    · rw [if_neg h1, Nat.add_zero, h]
      constructor
      · rintro ⟨i, h2, h3⟩; exact ⟨i, by omega, h3⟩
      · rintro ⟨i, h2, h3⟩
        have h4 : i ≠ n := fun q => h1 (q ▸ h3)
        exact ⟨i, by omega, h3⟩
theorem cnt_two (f : Nat → Int) (v : Int) : ∀ n, 2 ≤ cnt n f v ↔ ∃ i k, i < k ∧ k < n ∧ f i ≤ v ∧ f k ≤ v
  | 0 => ⟨fun h => absurd h (Nat.not_succ_le_zero 1), fun ⟨_, _, _, h, _⟩ => absurd h (Nat.not_lt_zero _)⟩
  | n + 1 => by
    have h := cnt_two f v n
    have h' := cnt_one f v n
    unfold cnt
    by_cases h1 : f n ≤ v
    · rw [if_pos h1]
      constructor
      · intro q
        obtain ⟨i, hi, hv⟩ := h'.mp (by omega)
        exact ⟨i, n, hi, by omega, hv, h1⟩
      · rintro ⟨i, k, h2, h3, h4, h5⟩
        have := h'.mpr ⟨i, by omega, h4⟩
        omega
    · rw [if_neg h1, Nat.add_zero, h]
      constructor
      · rintro ⟨i, k, h2, h3, h4, h5⟩; exact ⟨i, k, h2, by omega, h4, h5⟩
      · rintro ⟨i, k, h2, h3, h4, h5⟩
        have h6 : k ≠ n := fun q => h1 (q ▸ h5)
        exact ⟨i, k, h2, by omega, h4, h5⟩
theorem cgt_one (f : Nat → Int) (v : Int) (n : Nat) : 1 ≤ cgt n f v ↔ ∃ i, i < n ∧ v < f i := by
  unfold cgt
  rw [cnt_one]
  constructor
  · rintro ⟨i, h, h2⟩; exact ⟨i, h, by omega⟩
  · rintro ⟨i, h, h2⟩; exact ⟨i, h, by omega⟩
theorem cgt_two (f : Nat → Int) (v : Int) (n : Nat) : 2 ≤ cgt n f v ↔ ∃ i k, i < k ∧ k < n ∧ v < f i ∧ v < f k := by
  unfold cgt
  rw [cnt_two]
  constructor
  · rintro ⟨i, k, h, h2, h3, h4⟩; exact ⟨i, k, h, h2, by omega, by omega⟩
  · rintro ⟨i, k, h, h2, h3, h4⟩; exact ⟨i, k, h, h2, by omega, by omega⟩
def srt (n : Nat) (f : Nat → Int) : Prop := ∀ i k, i ≤ k → k < n → f i ≤ f k
theorem s_lo1 {n : Nat} {f : Nat → Int} (hs : srt n f) (h : 1 ≤ n) (v : Int) : f 0 ≤ v ↔ 1 ≤ cnt n f v := by
  rw [cnt_one]
  constructor
  · intro q; exact ⟨0, by omega, q⟩
  · rintro ⟨i, hi, hv⟩
    have := hs 0 i (by omega) hi
    omega
theorem s_hi1 {n : Nat} {f : Nat → Int} (hs : srt n f) (h : 1 ≤ n) (v : Int) : v < f (n - 1) ↔ 1 ≤ cgt n f v := by
  rw [cgt_one]
  constructor
  · intro q; exact ⟨n - 1, by omega, q⟩
  · rintro ⟨i, hi, hv⟩
    have := hs i (n - 1) (by omega) (by omega)
    omega
theorem s_lo2 {n : Nat} {f : Nat → Int} (hs : srt n f) (h : 2 ≤ n) (v : Int) : f 1 ≤ v ↔ 2 ≤ cnt n f v := by
  rw [cnt_two]
  constructor
  · intro q
    have := hs 0 1 (by omega) (by omega)
    exact ⟨0, 1, by omega, by omega, by omega, q⟩
  · rintro ⟨i, k, h1, h2, h3, h4⟩
    have := hs 1 k (by omega) (by omega)
    omega
theorem s_hi2 {n : Nat} {f : Nat → Int} (hs : srt n f) (h : 2 ≤ n) (v : Int) : v < f (n - 2) ↔ 2 ≤ cgt n f v := by
  rw [cgt_two]
  constructor
  · intro q
    have := hs (n - 2) (n - 1) (by omega) (by omega)
    exact ⟨n - 2, n - 1, by omega, by omega, q, by omega⟩
  · rintro ⟨i, k, h1, h2, h3, h4⟩
    have := hs i (n - 2) (by omega) (by omega)
    omega
/-- the class's row as numbers -/
def Fr_ (j : Nat) (σ : mmS) : Nat → Int := fun i => (σ.1 (10 * j + 9) i).toInt
theorem Fr_set {j m : Nat} {x w : Int32} {σ : mmS} : Fr_ j (mmI (mmI σ (10 * j + 9) m x) (10 * j + 8) 1 w) = fun i => if i = m then x.toInt else Fr_ j σ i := by
  funext i
  unfold Fr_
  rw [rdK (rdn (by decide))]
  by_cases h : i = m
  · subst h; rw [rdS, if_pos rfl]
  · rw [rdI h, if_neg h]
theorem Fr_set1 {j m : Nat} {x : Int32} {σ : mmS} : Fr_ j (mmI σ (10 * j + 9) m x) = fun i => if i = m then x.toInt else Fr_ j σ i := by
  funext i
  unfold Fr_
  by_cases h : i = m
  · subst h; rw [rdS, if_pos rfl]
  · rw [rdI h, if_neg h]
theorem addL_F (j : Nat) (x : Int32) : ∀ (n : Nat) (σ : mmS), srt n (Fr_ j σ) → srt (n + 1) (Fr_ j (addL j x n σ)) ∧ (∀ v, cnt (n + 1) (Fr_ j (addL j x n σ)) v = cnt n (Fr_ j σ) v + (if x.toInt ≤ v then 1 else 0)) ∧ (∀ i, n < i → Fr_ j (addL j x n σ) i = Fr_ j σ i) ∧ (∀ M : Int, x.toInt ≤ M → (∀ i, i < n → Fr_ j σ i ≤ M) → ∀ i, i ≤ n → Fr_ j (addL j x n σ) i ≤ M)
  | 0, σ, _ => by
    unfold addL
    rw [Fr_set]
    refine ⟨fun i k h1 h2 => ?_, fun v => ?_, fun i h => ?_, fun M h1 _ i h3 => ?_⟩
    · have h3 : i = 0 := by omega
      have h4 : k = 0 := by omega
      subst h3; subst h4; exact Int.le_refl _
    · show 0 + (if (if 0 = 0 then x.toInt else Fr_ j σ 0) ≤ v then 1 else 0) = 0 + (if x.toInt ≤ v then 1 else 0)
      rw [if_pos rfl]
    · exact if_neg (by omega)
    · have h4 : i = 0 := by omega
      subst h4
      show (if 0 = 0 then x.toInt else Fr_ j σ 0) ≤ M
      rw [if_pos rfl]; exact h1
  | n + 1, σ, hs => by
    unfold addL
    by_cases hc : σ.1 (10 * j + 9) n ≤ x
    · rw [if_pos hc, Fr_set]
      have hc2 : Fr_ j σ n ≤ x.toInt := Int32.le_iff_toInt_le.mp hc
      refine ⟨fun i k h1 h2 => ?_, fun v => ?_, fun i h => ?_, fun M h1 h2 i h3 => ?_⟩
      · show (if i = n + 1 then x.toInt else Fr_ j σ i) ≤ (if k = n + 1 then x.toInt else Fr_ j σ k)
        by_cases hk : k = n + 1
        · rw [if_pos hk]
          by_cases hi : i = n + 1
          · rw [if_pos hi]; exact Int.le_refl _
          · rw [if_neg hi]
            have := hs i n (by omega) (by omega)
            omega
        · rw [if_neg hk, if_neg (by omega)]
          exact hs i k h1 (by omega)
      · show cnt (n + 1) _ v + (if (if n + 1 = n + 1 then x.toInt else Fr_ j σ (n + 1)) ≤ v then 1 else 0) = _
        rw [if_pos rfl, cnt_congr (g := Fr_ j σ) (n + 1) (fun i hi => if_neg (by omega))]
      · exact if_neg (by omega)
      · show (if i = n + 1 then x.toInt else Fr_ j σ i) ≤ M
        by_cases hi : i = n + 1
        · rw [if_pos hi]; exact h1
        · rw [if_neg hi]; exact h2 i (by omega)
    · rw [if_neg hc]
      have hc2 : x.toInt < Fr_ j σ n := by
        have : ¬ (Fr_ j σ n ≤ x.toInt) := fun q => hc (Int32.le_iff_toInt_le.mpr q)
        omega
      have e1 : ∀ i, i ≠ n + 1 → Fr_ j (mmI σ (10 * j + 9) (n + 1) (σ.1 (10 * j + 9) n)) i = Fr_ j σ i := fun i hi => by rw [Fr_set1]; exact if_neg hi
      have e2 : Fr_ j (mmI σ (10 * j + 9) (n + 1) (σ.1 (10 * j + 9) n)) (n + 1) = Fr_ j σ n := by rw [Fr_set1]; exact if_pos rfl
      obtain ⟨r1, r2, r3, r4⟩ := addL_F j x n (mmI σ (10 * j + 9) (n + 1) (σ.1 (10 * j + 9) n)) (fun i k h1 h2 => by rw [e1 i (by omega), e1 k (by omega)]; exact hs i k h1 (by omega))
      have e3 := (r3 (n + 1) (by omega)).trans e2
      refine ⟨fun i k h1 h2 => ?_, fun v => ?_, fun i h => ?_, fun M h1 h2 i h3 => ?_⟩
      · by_cases hk : k = n + 1
        · subst hk
          rw [e3]
          by_cases hi : i = n + 1
          · subst hi; rw [e3]; exact Int.le_refl _
          · exact r4 _ (by omega) (fun q hq => by rw [e1 q (by omega)]; exact hs q n (by omega) (by omega)) i (by omega)
        · exact r1 i k h1 (by omega)
      · show cnt (n + 1) _ v + _ = cnt n (Fr_ j σ) v + (if Fr_ j σ n ≤ v then 1 else 0) + _
        rw [r2 v, e3, cnt_congr (g := Fr_ j σ) n (fun i hi => e1 i (by omega))]
        omega
      · rw [r3 i (by omega)]
        exact e1 i (by omega)
      · by_cases hi : i = n + 1
        · subst hi; rw [e3]; exact h2 n (by omega)
        · exact r4 M h1 (fun q hq => by rw [e1 q (by omega)]; exact h2 q (by omega)) i (by omega)
/-- the reference's row as numbers -/
def Xr (τ : mmS) : Nat → Int := fun i => (τ.1 64 i).toInt
def Ainv (x : Nat → Int) (k l h : Nat) : Prop := l < k ∧ h < k ∧ (∀ i, i < k → x l ≤ x i) ∧ (∀ i, i < k → x i ≤ x h) ∧ (∀ i, i < l → x l < x i) ∧ (∀ i, h < i → i < k → x i < x h)
theorem mdA_eq (τ : mmS) : ∀ (d k l h : Nat), Ainv (Xr τ) k l h → k + d ≤ 5 → ∃ l' h', Ainv (Xr τ) (k + d) l' h' ∧ mdA τ d k (Int32.ofNat l) (Int32.ofNat h) = sp_m_mid62 (Int32.ofNat l') (Int32.ofNat h') τ
  | 0, k, l, h, hA, _ => ⟨l, h, hA, rfl⟩
  | d + 1, k, l, h, hA, hk => by
    obtain ⟨a1, a2, a3, a4, a5, a6⟩ := hA
    have e1 : (Int32.ofNat l).toNatClampNeg = l := (natM l (by omega)).2
    have e2 : (Int32.ofNat h).toNatClampNeg = h := (natM h (by omega)).2
    have go : ∀ l2 h2, Ainv (Xr τ) (k + 1) l2 h2 → ∃ l' h', Ainv (Xr τ) (k + (d + 1)) l' h' ∧ mdA τ d (k + 1) (Int32.ofNat l2) (Int32.ofNat h2) = sp_m_mid62 (Int32.ofNat l') (Int32.ofNat h') τ := fun l2 h2 h3 => by
      have := mdA_eq τ d (k + 1) l2 h2 h3 (by omega)
      rwa [show k + 1 + d = k + (d + 1) by omega] at this
    unfold mdA
    rw [e1, e2]
    have lastc : ∀ i, i < k + 1 → i < k ∨ i = k := fun i hi => by omega
    by_cases c1 : τ.1 64 l ≤ τ.1 64 k
    · have c1' : Xr τ l ≤ Xr τ k := Int32.le_iff_toInt_le.mp c1
      rw [if_pos c1]
      by_cases c2 : τ.1 64 k < τ.1 64 h
      · have c2' : Xr τ k < Xr τ h := Int32.lt_iff_toInt_lt.mp c2
        rw [if_pos c2]
        refine go l h ⟨by omega, by omega, fun i hi => ?_, fun i hi => ?_, a5, fun i hi h2 => ?_⟩
        · rcases lastc i hi with q | rfl
          · exact a3 i q
          · exact c1'
        · rcases lastc i hi with q | rfl
          · exact a4 i q
          · omega
        · rcases lastc i h2 with q | rfl
          · exact a6 i hi q
          · exact c2'
      · have c2' : ¬ Xr τ k < Xr τ h := fun q => c2 (Int32.lt_iff_toInt_lt.mpr q)
        rw [if_neg c2]
        refine go l k ⟨by omega, by omega, fun i hi => ?_, fun i hi => ?_, a5, fun i hi h2 => by omega⟩
        · rcases lastc i hi with q | rfl
          · exact a3 i q
          · exact c1'
        · rcases lastc i hi with q | rfl
          · have := a4 i q; omega
          · omega
    · have c1' : ¬ Xr τ l ≤ Xr τ k := fun q => c1 (Int32.le_iff_toInt_le.mpr q)
      rw [if_neg c1]
      by_cases c2 : τ.1 64 k < τ.1 64 h
      · have c2' : Xr τ k < Xr τ h := Int32.lt_iff_toInt_lt.mp c2
        rw [if_pos c2]
        refine go k h ⟨by omega, by omega, fun i hi => ?_, fun i hi => ?_, fun i hi => ?_, fun i hi h2 => ?_⟩
        · rcases lastc i hi with q | rfl
          · have := a3 i q; omega
          · omega
        · rcases lastc i hi with q | rfl
          · exact a4 i q
          · omega
        · have := a3 i hi; omega
        · rcases lastc i h2 with q | rfl
          · exact a6 i hi q
          · exact c2'
      · have c2' : ¬ Xr τ k < Xr τ h := fun q => c2 (Int32.lt_iff_toInt_lt.mpr q)
        rw [if_neg c2]
        refine go k k ⟨by omega, by omega, fun i hi => ?_, fun i hi => ?_, fun i hi => ?_, fun i hi h2 => by omega⟩
        · rcases lastc i hi with q | rfl
          · have := a3 i q; omega
          · omega
        · rcases lastc i hi with q | rfl
          · have := a4 i q; omega
          · omega
        · have := a3 i hi; omega
theorem ofN5 : ∀ k, k < 6 → ∀ l, l < 6 → (Int32.ofNat k = Int32.ofNat l ↔ k = l) := by decide +kernel
def Binv (x : Nat → Int) (l h k : Nat) (a b : Int32) : Prop := (∀ i, i < k → i ≠ l → i ≠ h → a.toInt ≤ x i ∧ x i ≤ b.toInt) ∧ (a.toInt = 1000 ∨ ∃ i, i < k ∧ i ≠ l ∧ i ≠ h ∧ a.toInt = x i) ∧ (b.toInt = -1000 ∨ ∃ i, i < k ∧ i ≠ l ∧ i ≠ h ∧ b.toInt = x i)
theorem mdB_eq (τ : mmS) (l h : Nat) (hl : l < 5) (hh : h < 5) : ∀ (d k : Nat) (a b : Int32), Binv (Xr τ) l h k a b → k + d ≤ 5 → ∃ a' b', mdB τ (Int32.ofNat l) (Int32.ofNat h) d k a b = (a' + b') / 2 ∧ Binv (Xr τ) l h (k + d) a' b'
  | 0, k, a, b, hB, _ => ⟨a, b, rfl, hB⟩
  | d + 1, k, a, b, hB, hk => by
    obtain ⟨b1, b2, b3⟩ := hB
    have go : ∀ a2 b2 : Int32, Binv (Xr τ) l h (k + 1) a2 b2 → ∃ a' b', mdB τ (Int32.ofNat l) (Int32.ofNat h) d (k + 1) a2 b2 = (a' + b') / 2 ∧ Binv (Xr τ) l h (k + (d + 1)) a' b' := fun a2 b2 h3 => by
      have := mdB_eq τ l h hl hh d (k + 1) a2 b2 h3 (by omega)
      rwa [show k + 1 + d = k + (d + 1) by omega] at this
    have lastc : ∀ i, i < k + 1 → i < k ∨ i = k := fun i hi => by omega
    have up2 : ∀ {a : Int32}, (a.toInt = 1000 ∨ ∃ i, i < k ∧ i ≠ l ∧ i ≠ h ∧ a.toInt = Xr τ i) → (a.toInt = 1000 ∨ ∃ i, i < k + 1 ∧ i ≠ l ∧ i ≠ h ∧ a.toInt = Xr τ i) := fun q => q.imp id (fun ⟨i, q1, q2⟩ => ⟨i, by omega, q2⟩)
    have up3 : ∀ {a : Int32}, (a.toInt = -1000 ∨ ∃ i, i < k ∧ i ≠ l ∧ i ≠ h ∧ a.toInt = Xr τ i) → (a.toInt = -1000 ∨ ∃ i, i < k + 1 ∧ i ≠ l ∧ i ≠ h ∧ a.toInt = Xr τ i) := fun q => q.imp id (fun ⟨i, q1, q2⟩ => ⟨i, by omega, q2⟩)
    unfold mdB
    by_cases q1 : k = l
    · rw [if_pos ((ofN5 k (by omega) l (by omega)).mpr q1)]
      refine go a b ⟨fun i hi h2 h3 => ?_, up2 b2, up3 b3⟩
      rcases lastc i hi with q | rfl
      · exact b1 i q h2 h3
      · exact absurd q1 h2
    · rw [if_neg (fun z => q1 ((ofN5 k (by omega) l (by omega)).mp z))]
      by_cases q2 : k = h
      · rw [if_pos ((ofN5 k (by omega) h (by omega)).mpr q2)]
        refine go a b ⟨fun i hi h2 h3 => ?_, up2 b2, up3 b3⟩
        rcases lastc i hi with q | rfl
        · exact b1 i q h2 h3
        · exact absurd q2 h3
      · rw [if_neg (fun z => q2 ((ofN5 k (by omega) h (by omega)).mp z))]
        have kk : ∃ i, i < k + 1 ∧ i ≠ l ∧ i ≠ h ∧ (τ.1 64 k).toInt = Xr τ i := ⟨k, by omega, q1, q2, rfl⟩
        by_cases c1 : a ≤ τ.1 64 k
        · have c1' : a.toInt ≤ Xr τ k := Int32.le_iff_toInt_le.mp c1
          rw [if_pos c1]
          by_cases c2 : τ.1 64 k ≤ b
          · have c2' : Xr τ k ≤ b.toInt := Int32.le_iff_toInt_le.mp c2
            rw [if_pos c2]
            refine go a b ⟨fun i hi h2 h3 => ?_, up2 b2, up3 b3⟩
            rcases lastc i hi with q | rfl
            · exact b1 i q h2 h3
            · exact ⟨c1', c2'⟩
          · have c2' : ¬ Xr τ k ≤ b.toInt := fun z => c2 (Int32.le_iff_toInt_le.mpr z)
            rw [if_neg c2]
            refine go a (τ.1 64 k) ⟨fun i hi h2 h3 => ?_, up2 b2, Or.inr kk⟩
            rcases lastc i hi with q | rfl
            · have := b1 i q h2 h3
              exact ⟨this.1, show Xr τ i ≤ Xr τ k by omega⟩
            · exact ⟨c1', Int.le_refl _⟩
        · have c1' : ¬ a.toInt ≤ Xr τ k := fun z => c1 (Int32.le_iff_toInt_le.mpr z)
          rw [if_neg c1]
          by_cases c2 : τ.1 64 k ≤ b
          · have c2' : Xr τ k ≤ b.toInt := Int32.le_iff_toInt_le.mp c2
            rw [if_pos c2]
            refine go (τ.1 64 k) b ⟨fun i hi h2 h3 => ?_, Or.inr kk, up3 b3⟩
            rcases lastc i hi with q | rfl
            · have := b1 i q h2 h3
              exact ⟨show Xr τ k ≤ Xr τ i by omega, this.2⟩
            · exact ⟨Int.le_refl _, c2'⟩
          · have c2' : ¬ Xr τ k ≤ b.toInt := fun z => c2 (Int32.le_iff_toInt_le.mpr z)
            rw [if_neg c2]
            refine go (τ.1 64 k) (τ.1 64 k) ⟨fun i hi h2 h3 => ?_, Or.inr kk, Or.inr kk⟩
            rcases lastc i hi with q | rfl
            · have := b1 i q h2 h3
              exact ⟨show Xr τ k ≤ Xr τ i by omega, show Xr τ i ≤ Xr τ k by omega⟩
            · exact ⟨Int.le_refl _, Int.le_refl _⟩
theorem eq_of_le {a b : Int} (h : ∀ v, a ≤ v ↔ b ≤ v) : a = b := by
  have h1 := (h a).mp (Int.le_refl _)
  have h2 := (h b).mpr (Int.le_refl _)
  omega
theorem eq_of_lt {a b : Int} (h : ∀ v, v < a ↔ v < b) : a = b := by
  have h1 := h a
  have h2 := h b
  omega
theorem ne_lh {x : Nat → Int} {n l h : Nat} (hA : Ainv x n l h) (hn : 2 ≤ n) : l ≠ h := by
  obtain ⟨a1, a2, a3, a4, a5, a6⟩ := hA
  rintro rfl
  by_cases h0 : l = 0
  · subst h0
    have q1 := a6 1 (by omega) (by omega)
    have q2 := a3 1 (by omega)
    omega
  · have q1 := a5 0 (by omega)
    have q2 := a4 0 (by omega)
    omega
theorem third {n l h : Nat} (hn : 3 ≤ n) : ∃ i, i < n ∧ i ≠ l ∧ i ≠ h := by
  by_cases h0 : 0 ≠ l ∧ 0 ≠ h
  · exact ⟨0, by omega, h0.1, h0.2⟩
  · by_cases h1 : 1 ≠ l ∧ 1 ≠ h
    · exact ⟨1, by omega, h1.1, h1.2⟩
    · exact ⟨2, by omega, by omega, by omega⟩
theorem mid_big {x : Nat → Int} {n l h : Nat} {a b : Int32} (hn : 3 ≤ n) (hA : Ainv x n l h) (hB : Binv x l h n a b) (hb : ∀ i, i < n → -6 ≤ x i ∧ x i ≤ 6) : (∀ v, a.toInt ≤ v ↔ 2 ≤ cnt n x v) ∧ (∀ v, v < b.toInt ↔ 2 ≤ cgt n x v) := by
  have hne := ne_lh hA (by omega)
  obtain ⟨a1, a2, a3, a4, a5, a6⟩ := hA
  obtain ⟨b1, b2, b3⟩ := hB
  obtain ⟨t, t1, t2, t3⟩ := third (l := l) (h := h) hn
  have bt := b1 t t1 t2 t3
  have ct := hb t t1
  have b2' : ∃ i, i < n ∧ i ≠ l ∧ i ≠ h ∧ a.toInt = x i := b2.resolve_left (by omega)
  have b3' : ∃ i, i < n ∧ i ≠ l ∧ i ≠ h ∧ b.toInt = x i := b3.resolve_left (by omega)
  obtain ⟨p, p1, p2, p3, p4⟩ := b2'
  obtain ⟨q, q1, q2, q3, q4⟩ := b3'
  refine ⟨fun v => ?_, fun v => ?_⟩
  · rw [cnt_two]
    constructor
    · intro z
      have := a3 p p1
      rcases Nat.lt_or_gt_of_ne p2 with o | o
      · exact ⟨p, l, o, a1, by omega, by omega⟩
      · exact ⟨l, p, o, p1, by omega, by omega⟩
    · rintro ⟨i, k, h1, h2, h3, h4⟩
      by_cases z1 : i ≠ l ∧ i ≠ h
      · have := (b1 i (by omega) z1.1 z1.2).1; omega
      · by_cases z2 : k ≠ l ∧ k ≠ h
        · have := (b1 k h2 z2.1 z2.2).1; omega
        · have := a4 t t1
          have h5 : i = h ∨ k = h := by omega
          rcases h5 with rfl | rfl <;> omega
  · rw [cgt_two]
    constructor
    · intro z
      have := a4 q q1
      rcases Nat.lt_or_gt_of_ne q3 with o | o
      · exact ⟨q, h, o, a2, by omega, by omega⟩
      · exact ⟨h, q, o, q1, by omega, by omega⟩
    · rintro ⟨i, k, h1, h2, h3, h4⟩
      by_cases z1 : i ≠ l ∧ i ≠ h
      · have := (b1 i (by omega) z1.1 z1.2).2; omega
      · by_cases z2 : k ≠ l ∧ k ≠ h
        · have := (b1 k h2 z2.1 z2.2).2; omega
        · have := a3 t t1
          have h5 : i = l ∨ k = l := by omega
          rcases h5 with rfl | rfl <;> omega
theorem ix_n : ∀ n, n < 6 → 1 ≤ n → ((Int32.ofNat n - 1) - 0).toNatClampNeg = n - 1 ∧ (3 ≤ n → ((Int32.ofNat n - 1) - 1).toNatClampNeg = n - 2) ∧ (Int32.ofNat n < 3 ↔ n < 3) ∧ (3 ≤ Int32.ofNat n ↔ 3 ≤ n) := by decide +kernel
/-- class and reference find the same middle -/
theorem mid_eq {j n : Nat} {σ τ : mmS} (h1 : 1 ≤ n) (h5 : n ≤ 5) (hz : σ.1 (10 * j + 8) 1 = Int32.ofNat n) (hm : τ.1 42 28 = Int32.ofNat n) (hs : srt n (Fr_ j σ)) (hc : ∀ v, cnt n (Fr_ j σ) v = cnt n (Xr τ) v) (hb : ∀ i, i < n → -6 ≤ Xr τ i ∧ Xr τ i ≤ 6) : sp_i_answer j σ = sp_m_middle τ := by
  obtain ⟨i1, i2, i3, i4⟩ := ix_n n (by omega) h1
  have hg : ∀ v, cgt n (Fr_ j σ) v = cgt n (Xr τ) v := fun v => by
    have q1 := cnt_cgt (Fr_ j σ) v n
    have q2 := cnt_cgt (Xr τ) v n
    have q3 := hc v
    omega
  have z1 : ∀ i, i < 1 → i = 0 := fun i hi => by omega
  have hA0 : Ainv (Xr τ) 1 0 0 := by
    refine ⟨by decide, by decide, fun i hi => ?_, fun i hi => ?_, fun i hi => absurd hi (Nat.not_lt_zero _), fun i hi h2 => by omega⟩
    · rw [z1 i hi]; exact Int.le_refl _
    · rw [z1 i hi]; exact Int.le_refl _
  obtain ⟨l, h, hA, hE⟩ := mdA_eq τ (n - 1) 1 0 0 hA0 (by omega)
  rw [show 1 + (n - 1) = n by omega] at hA
  have hE2 : sp_m_middle τ = sp_m_mid62 (Int32.ofNat l) (Int32.ofNat h) τ := by
    unfold sp_m_middle
    rw [hm, (natM n (by omega)).2]
    exact hE
  rw [hE2]
  have l5 : l < 5 := by have := hA.1; omega
  have h5' : h < 5 := by have := hA.2.1; omega
  unfold sp_i_answer sp_m_mid62
  rw [hz, hm]
  by_cases h3 : n < 3
  · rw [if_pos (i3.mpr h3), if_neg (fun z => absurd (i4.mp z) (by omega)), i1, (natM l (by omega)).2, (natM h (by omega)).2]
    have e1 : σ.1 (10 * j + 9) 0 = τ.1 64 l := Int32.toInt_inj.mp (eq_of_le fun v => by
      have q1 := s_lo1 hs h1 v
      rw [show (σ.1 (10 * j + 9) 0).toInt = Fr_ j σ 0 from rfl, q1, hc v, cnt_one]
      constructor
      · rintro ⟨i, hi, hv⟩
        have := hA.2.2.1 i hi
        show Xr τ l ≤ v
        omega
      · intro z; exact ⟨l, hA.1, z⟩)
    have e2 : σ.1 (10 * j + 9) (n - 1) = τ.1 64 h := Int32.toInt_inj.mp (eq_of_lt fun v => by
      have q1 := s_hi1 hs h1 v
      rw [show (σ.1 (10 * j + 9) (n - 1)).toInt = Fr_ j σ (n - 1) from rfl, q1, hg v, cgt_one]
      constructor
      · rintro ⟨i, hi, hv⟩
        have := hA.2.2.2.1 i hi
        show v < Xr τ h
        omega
      · intro z; exact ⟨h, hA.2.1, z⟩)
    rw [e1, e2]
  · rw [if_neg (fun z => h3 (i3.mp z)), if_pos (i4.mpr (by omega)), i2 (by omega), (natM n (by omega)).2]
    obtain ⟨a, b, hBe, hB⟩ := mdB_eq τ l h l5 h5' n 0 1000 (-1000) ⟨fun i hi => absurd hi (Nat.not_lt_zero _), Or.inl (by decide), Or.inl (by decide)⟩ (by omega)
    rw [Nat.zero_add] at hB
    rw [hBe]
    obtain ⟨m1, m2⟩ := mid_big (by omega) hA hB hb
    have e1 : σ.1 (10 * j + 9) 1 = a := Int32.toInt_inj.mp (eq_of_le fun v => by
      rw [show (σ.1 (10 * j + 9) 1).toInt = Fr_ j σ 1 from rfl, s_lo2 hs (by omega) v, hc v, m1 v])
    have e2 : σ.1 (10 * j + 9) (n - 2) = b := Int32.toInt_inj.mp (eq_of_lt fun v => by
      rw [show (σ.1 (10 * j + 9) (n - 2)).toInt = Fr_ j σ (n - 2) from rfl, s_hi2 hs (by omega) v, hg v, m2 v])
    rw [e1, e2]
end MD
