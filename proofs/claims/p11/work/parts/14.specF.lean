theorem nx_and (a b : Nat) : nI a &&& nI b = nI (a &&& b) := by
  apply Int32.toBitVec_inj.1
  show BitVec.ofNat 32 a &&& BitVec.ofNat 32 b = BitVec.ofNat 32 (a &&& b)
  apply BitVec.eq_of_getLsbD_eq
  intro i hi
  simp [hi]
theorem nx_xor (a b : Nat) : nI a ^^^ nI b = nI (a ^^^ b) := by
  apply Int32.toBitVec_inj.1
  show BitVec.ofNat 32 a ^^^ BitVec.ofNat 32 b = BitVec.ofNat 32 (a ^^^ b)
  apply BitVec.eq_of_getLsbD_eq
  intro i hi
  simp [hi]
theorem wb_tb (n : Nat) : (lN n).toBitVec = BitVec.ofNat 64 n := rfl
theorem wb_inj {a b : Int64} (h : a.toBitVec = b.toBitVec) : a = b := Int64.toBitVec_inj.mp h
theorem wb_tn {n : Nat} (h : n < 2 ^ 64) : (lN n).toBitVec.toNat = n := by rw [wb_tb, BitVec.toNat_ofNat, Nat.mod_eq_of_lt h]
theorem wb_of (x : Int64) : ∃ n, n < 2 ^ 64 ∧ x = lN n := ⟨x.toBitVec.toNat, x.toBitVec.isLt, wb_inj (by rw [wb_tb]; simp)⟩
theorem wb_of32 (x : Int32) : ∃ n, n < 2 ^ 32 ∧ x = nI n := ⟨x.toBitVec.toNat, x.toBitVec.isLt, Int32.toBitVec_inj.mp (by show _ = BitVec.ofNat 32 _; simp)⟩
theorem wb_c : ∀ k, k < 64 → ((nI k).toInt64 &&& 63) = lN k := by decide +kernel
theorem wb_cu : ∀ k, k < 64 → ((nI k).toInt64.toUInt64 &&& Int64.toUInt64 63) = UInt64.ofNat k := by decide +kernel
theorem wb_sm : ∀ k, k < 64 → (BitVec.ofNat 64 k).smod 64 = BitVec.ofNat 64 k := by decide +kernel
theorem wb_pw {a b : Nat} (h : a ≤ b) : 2 ^ b = 2 ^ a * 2 ^ (b - a) := by rw [← Nat.pow_add]; congr 1; omega
theorem wb_lt2 {a b : Nat} (h : a < b) : 2 ^ a < 2 ^ b := Nat.pow_lt_pow_right (by decide) h
theorem wb_mod (n : Nat) : lN n = lN (n % 2 ^ 64) := wb_inj (by rw [wb_tb, wb_tb]; apply BitVec.eq_of_toNat_eq; rw [BitVec.toNat_ofNat, BitVec.toNat_ofNat, Nat.mod_mod])
theorem wb_shr {n k : Nat} (hn : n < 2 ^ 64) (hk : k < 64) : ((lN n).toUInt64 >>> ((nI k).toInt64.toUInt64 &&& Int64.toUInt64 63)).toInt64 = lN (n / 2 ^ k) := by
  rw [wb_cu k hk]
  apply wb_inj
  apply BitVec.eq_of_toNat_eq
  show ((lN n).toUInt64 >>> UInt64.ofNat k).toNat = (BitVec.ofNat 64 _).toNat
  have h1 : (UInt64.ofNat k).toNat = k := by
    show (BitVec.ofNat 64 k).toNat = k
    rw [BitVec.toNat_ofNat, Nat.mod_eq_of_lt (by omega)]
  have h2 : (lN n).toUInt64.toNat = n := wb_tn hn
  rw [UInt64.toNat_shiftRight, h1, h2, Nat.mod_eq_of_lt hk, Nat.shiftRight_eq_div_pow, BitVec.toNat_ofNat, Nat.mod_eq_of_lt (Nat.lt_of_le_of_lt (Nat.div_le_self _ _) hn)]
theorem wb_shl (n : Nat) {k : Nat} (hk : k < 64) : lN n <<< ((nI k).toInt64 &&& 63) = lN (n * 2 ^ k) := by
  rw [wb_c k hk]
  apply wb_inj
  rw [Int64.toBitVec_shiftLeft, wb_tb, wb_tb, wb_tb, wb_sm k hk]
  apply BitVec.eq_of_toNat_eq
  rw [BitVec.shiftLeft_eq', BitVec.toNat_shiftLeft, BitVec.toNat_ofNat, BitVec.toNat_ofNat, BitVec.toNat_ofNat, Nat.mod_eq_of_lt (show k < 2 ^ 64 by omega), Nat.shiftLeft_eq, Nat.mul_mod, Nat.mod_mod, ← Nat.mul_mod]
theorem wb_and {a b : Nat} (ha : a < 2 ^ 64) (hb : b < 2 ^ 64) : lN a &&& lN b = lN (a &&& b) := by
  apply wb_inj
  rw [Int64.toBitVec_and, wb_tb, wb_tb, wb_tb]
  apply BitVec.eq_of_toNat_eq
  rw [BitVec.toNat_and, BitVec.toNat_ofNat, BitVec.toNat_ofNat, BitVec.toNat_ofNat, Nat.mod_eq_of_lt ha, Nat.mod_eq_of_lt hb, Nat.mod_eq_of_lt (Nat.and_lt_two_pow _ hb)]
theorem wb_or {a b : Nat} (ha : a < 2 ^ 64) (hb : b < 2 ^ 64) : lN a ||| lN b = lN (a ||| b) := by
  apply wb_inj
  rw [Int64.toBitVec_or, wb_tb, wb_tb, wb_tb]
  apply BitVec.eq_of_toNat_eq
  rw [BitVec.toNat_or, BitVec.toNat_ofNat, BitVec.toNat_ofNat, BitVec.toNat_ofNat, Nat.mod_eq_of_lt ha, Nat.mod_eq_of_lt hb, Nat.mod_eq_of_lt (Nat.or_lt_two_pow ha hb)]
theorem wb_mask {n k : Nat} (hn : n < 2 ^ 64) (hk : k < 64) : lN n &&& lN (2 ^ k - 1) = lN (n % 2 ^ k) := by
  rw [wb_and hn (by have := wb_lt2 hk; omega), Nat.and_two_pow_sub_one_eq_mod]
theorem wb_a1 {n : Nat} (hn : n < 2 ^ 64) : lN n &&& 1 = lN (n % 2) := wb_mask (k := 1) hn (by decide)
theorem wb_bit {n k : Nat} (hn : n < 2 ^ 64) (hk : k < 64) : ((lN n).toUInt64 >>> ((nI k).toInt64.toUInt64 &&& Int64.toUInt64 63)).toInt64 &&& 1 = lN (n / 2 ^ k % 2) := by
  rw [wb_shr hn hk, wb_a1 (Nat.lt_of_le_of_lt (Nat.div_le_self _ _) hn)]
theorem wb_xor {q k : Nat} (hk : k < 63) (h : 2 ^ k ≤ q) (h2 : q < 2 ^ (k + 1)) : lN q ^^^ lN (2 ^ k) = lN (q - 2 ^ k) := by
  obtain ⟨r, rfl⟩ : ∃ r, q = 2 ^ k + r := ⟨q - 2 ^ k, by omega⟩
  have hr : r < 2 ^ k := by rw [Nat.pow_succ] at h2; omega
  have hx : (2 ^ k + r) ^^^ 2 ^ k = r := by
    apply Nat.eq_of_testBit_eq
    intro i
    rw [Nat.testBit_xor, Nat.testBit_two_pow]
    rcases Nat.lt_trichotomy i k with h | h | h
    · rw [Nat.testBit_two_pow_add_gt h]
      simp [show ¬ k = i by omega]
    · subst h
      rw [Nat.testBit_two_pow_add_eq]
      simp
    · have a1 : 2 ^ (k + 1) ≤ 2 ^ i := Nat.pow_le_pow_right (by decide) h
      rw [Nat.testBit_lt_two_pow (show 2 ^ k + r < 2 ^ i by omega), Nat.testBit_lt_two_pow (show r < 2 ^ i by omega)]
      simp [show ¬ k = i by omega]
  have b1 := wb_lt2 (show k + 1 < 64 by omega)
  have b2 := wb_lt2 (show k < 64 by omega)
  apply wb_inj
  rw [Int64.toBitVec_xor, wb_tb, wb_tb, wb_tb]
  apply BitVec.eq_of_toNat_eq
  rw [BitVec.toNat_xor, BitVec.toNat_ofNat, BitVec.toNat_ofNat, BitVec.toNat_ofNat, Nat.mod_eq_of_lt (by omega : 2 ^ k + r < 2 ^ 64), Nat.mod_eq_of_lt b2, hx, Nat.add_sub_cancel_left, Nat.mod_eq_of_lt (by omega)]
theorem u_tn {n : Nat} (h : n < 2 ^ 64) : (UInt64.ofNat n).toNat = n := Nat.mod_eq_of_lt h
theorem g_and {a b c : Nat} (ha : a < 2 ^ 64) (hb : b < 2 ^ 64) (hc : a &&& b = c) : lN a &&& lN b = lN c := by
  subst hc
  have h : UInt64.ofNat a &&& UInt64.ofNat b = UInt64.ofNat (a &&& b) := UInt64.toNat_inj.mp (by rw [UInt64.toNat_and, u_tn ha, u_tn hb, u_tn (Nat.and_lt_two_pow a hb)])
  have h2 := congrArg UInt64.toInt64 h
  exact h2
theorem g_and1 {a : Nat} (ha : a < 2 ^ 64) : lN a &&& 1 = lN (a % 2) := g_and (b := 1) ha (by decide) (Nat.and_two_pow_sub_one_eq_mod a 1)
theorem g_mask {a s p : Nat} (hp : 2 ^ s = p) (hs : s < 64) (ha : a < 2 ^ 64) : lN a &&& lN (p - 1) = lN (a % p) := by
  subst hp
  have := Nat.pow_lt_pow_right (show 1 < 2 by decide) hs
  exact g_and ha (by omega) (Nat.and_two_pow_sub_one_eq_mod a s)
theorem g_or {k p a b : Nat} (hp : 2 ^ k = p) (ha : a < p) (h : b * p + a < 2 ^ 64) : lN (b * p) ||| lN a = lN (b * p + a) := by
  subst hp
  have h1 : b * 2 ^ k ||| a = b * 2 ^ k + a := by rw [← Nat.shiftLeft_eq, Nat.shiftLeft_add_eq_or_of_lt ha]
  have h3 : UInt64.ofNat (b * 2 ^ k) ||| UInt64.ofNat a = UInt64.ofNat (b * 2 ^ k + a) := UInt64.toNat_inj.mp (by rw [UInt64.toNat_or, u_tn (by omega), u_tn (by omega), u_tn h, h1])
  have h2 := congrArg UInt64.toInt64 h3
  exact h2
theorem g_or' {k p a b : Nat} (hp : 2 ^ k = p) (ha : a < p) (h : a + b * p < 2 ^ 64) : lN a ||| lN (b * p) = lN (a + b * p) := by
  rw [Int64.or_comm, g_or hp ha (by omega), Nat.add_comm]
theorem g_ushr {a k p : Nat} {y : UInt64} (hy : y = UInt64.ofNat k) (hk : k < 64) (hp : 2 ^ k = p) (ha : a < 2 ^ 64) : ((lN a).toUInt64 >>> y).toInt64 = lN (a / p) := by
  subst hy hp
  have h : UInt64.ofNat a >>> UInt64.ofNat k = UInt64.ofNat (a / 2 ^ k) := UInt64.toNat_inj.mp (by rw [UInt64.toNat_shiftRight, u_tn ha, u_tn (by omega), u_tn (Nat.lt_of_le_of_lt (Nat.div_le_self _ _) ha), Nat.mod_eq_of_lt hk, Nat.shiftRight_eq_div_pow])
  have h2 := congrArg UInt64.toInt64 h
  exact h2
theorem g_shl {a k p : Nat} {y : Int64} (hy : y.toBitVec.smod 64 = BitVec.ofNat 64 k) (hk : k < 64) (hp : 2 ^ k = p) (ha : a < 2 ^ 64) : lN a <<< y = lN (a * p) := by
  subst hp
  apply Int64.toBitVec_inj.mp
  rw [Int64.toBitVec_shiftLeft, hy]
  apply BitVec.eq_of_toNat_eq
  have hb : (lN a).toBitVec.toNat = a := Nat.mod_eq_of_lt ha
  have hk' : (BitVec.ofNat 64 k).toNat = k := Nat.mod_eq_of_lt (by omega)
  have h : ((lN a).toBitVec <<< BitVec.ofNat 64 k).toNat = (a * 2 ^ k) % 2 ^ 64 := by simp only [BitVec.shiftLeft_eq', BitVec.toNat_shiftLeft, hb, hk', Nat.shiftLeft_eq]
  exact h
theorem pf_lI {a : Nat} (h : a < 2 ^ 63) : (lN a).toInt = (a : Int) := lg_ofNat_toInt h
theorem pf_shr {a d : Nat} {D : Int64} (hD : (D.toBitVec.smod 64).toNat = d) (h : a < 2 ^ 62) : lN a >>> D = lN (a / 2 ^ d) := by
  have hd : a / 2 ^ d ≤ a := Nat.div_le_self _ _
  apply Int64.toInt_inj.mp
  have e : (lN a >>> D).toInt = (lN a).toInt >>> d := by
    rw [← hD]
    exact BitVec.toInt_sshiftRight ..
  rw [e, Int.shiftRight_eq_div_pow, pf_lI (by omega), pf_lI (by omega)]
  rfl
section BT
theorem lgN {a b : Nat} (ha : a < 2 ^ 63) (hb : b < 2 ^ 63) : lg_cmp (lN a) (lN b) = 0 ↔ a = b := by
  unfold lg_cmp
  by_cases h1 : lN a > lN b
  · rw [if_pos h1]
    have h2 : b < a := (pk_lLT hb ha).mp h1
    exact ⟨fun h => absurd h (by decide), fun h => by omega⟩
  · rw [if_neg h1]
    by_cases h2 : lN a = lN b
    · rw [if_pos h2]
      exact ⟨fun _ => (pk_lEQ ha hb).mp h2, fun _ => rfl⟩
    · rw [if_neg h2]
      exact ⟨fun h => absurd h (by decide), fun h => absurd ((pk_lEQ ha hb).mpr h) h2⟩
theorem lgS (x : Int64) : lg_cmp x x = 0 := by
  unfold lg_cmp
  rw [if_neg (show ¬ x > x from Int64.lt_irrefl), if_pos rfl]
theorem lN_xor {a b : Nat} (ha : a < 2 ^ 64) (hb : b < 2 ^ 64) : lN a ^^^ lN b = lN (a ^^^ b) := by
  apply wb_inj
  apply BitVec.eq_of_toNat_eq
  rw [Int64.toBitVec_xor, BitVec.toNat_xor, wb_tn ha, wb_tn hb, wb_tn (Nat.xor_lt_two_pow ha hb)]
/-- one step of a check, on numbers; k = its width less one -/
def cNs (k J b R : Nat) : Nat := if R / 2 ^ k = b then R * 2 % 2 ^ (k + 1) else (R * 2 % 2 ^ (k + 1)) ^^^ J
def cN (k J B : Nat) : Nat → Nat → Nat
  | 0, R => R
  | n + 1, R => cN k J B n (cNs k J (B / 2 ^ n % 2) R)
theorem cNs_lt {k J b R : Nat} (hJ : J < 2 ^ (k + 1)) : cNs k J b R < 2 ^ (k + 1) := by
  unfold cNs
  have h1 : R * 2 % 2 ^ (k + 1) < 2 ^ (k + 1) := Nat.mod_lt _ (Nat.two_pow_pos _)
  split
  · exact h1
  · exact Nat.xor_lt_two_pow h1 hJ
theorem cN_lt {k J B : Nat} (hJ : J < 2 ^ (k + 1)) : ∀ n R, R < 2 ^ (k + 1) → cN k J B n R < 2 ^ (k + 1)
  | 0, _, h => h
  | n + 1, R, _ => cN_lt hJ n _ (cNs_lt hJ)
theorem ckC_N {k : Nat} {w32 : Int32} {joined mask : Int64} {J B : Nat} (h1 : w32 - 1 = nI k) (hm : mask = lN (2 ^ (k + 1) - 1)) (hj : joined = lN J) (hJ : J < 2 ^ (k + 1)) (hk : k ≤ 29) (hB : B < 2 ^ 64) :
    ∀ n, n < 64 → ∀ R, R < 2 ^ (k + 1) → ckC (lN B) w32 joined mask n (lN R) = lN (cN k J B n R)
  | 0, _, _, _ => rfl
  | n + 1, hn, R, hR => by
    have hp : 2 ^ (k + 1) ≤ 2 ^ 30 := Nat.pow_le_pow_right (by decide) (by omega)
    have hR4 : R < 2 ^ 64 := by omega
    have hJ4 : J < 2 ^ 64 := by omega
    have e1 : ((lN R).toUInt64 >>> ((w32 - 1).toInt64.toUInt64 &&& Int64.toUInt64 63)).toInt64 = lN (R / 2 ^ k) := by rw [h1]; exact wb_shr hR4 (by omega)
    have e2 : (((lN B).toUInt64 >>> ((Int32.ofNat n).toInt64.toUInt64 &&& Int64.toUInt64 63)).toInt64 &&& (1 : Int64)) = lN (B / 2 ^ n % 2) := wb_bit hB (by omega)
    have e3 : (lN R <<< ((1 : Int32).toInt64 &&& 63)) &&& mask = lN (R * 2 % 2 ^ (k + 1)) := by
      rw [show (1 : Int32) = nI 1 from rfl, wb_shl R (k := 1) (by decide), hm, Nat.pow_one]
      exact wb_mask (by omega) (by omega)
    have hq : R / 2 ^ k ≤ R := Nat.div_le_self _ _
    have hb2 : B / 2 ^ n % 2 < 2 := Nat.mod_lt _ (by decide)
    have hs : R * 2 % 2 ^ (k + 1) < 2 ^ (k + 1) := Nat.mod_lt _ (Nat.two_pow_pos _)
    unfold ckC
    rw [e1, e2, e3]
    show _ = lN (cN k J B n (cNs k J (B / 2 ^ n % 2) R))
    by_cases hc : R / 2 ^ k = B / 2 ^ n % 2
    · rw [if_pos ((lgN (by omega) (by omega)).mpr hc)]
      have hst : cNs k J (B / 2 ^ n % 2) R = R * 2 % 2 ^ (k + 1) := if_pos hc
      rw [hst]
      exact ckC_N h1 hm hj hJ hk hB n (by omega) _ hs
    · rw [if_neg (fun h => hc ((lgN (by omega) (by omega)).mp h))]
      have hst : cNs k J (B / 2 ^ n % 2) R = (R * 2 % 2 ^ (k + 1)) ^^^ J := if_neg hc
      rw [hst, hj, lN_xor (by omega) hJ4]
      exact ckC_N h1 hm rfl hJ hk hB n (by omega) _ (Nat.xor_lt_two_pow hs hJ)
theorem shrN {B n : Nat} (hB : B < 2 ^ 62) (hn : n < 64) : lN B >>> ((nI n).toInt64 &&& 63) = lN (B / 2 ^ n) := by
  refine pf_shr ?_ hB
  rw [wb_c n hn, wb_tb, wb_sm n hn, BitVec.toNat_ofNat, Nat.mod_eq_of_lt (by omega)]
theorem andTop {R k : Nat} (hk : k ≤ 29) (hR : R < 2 ^ (k + 1)) : (nI R &&& nI (2 ^ k)) = 0 ↔ R / 2 ^ k = 0 := by
  have hp : 2 ^ (k + 1) ≤ 2 ^ 30 := Nat.pow_le_pow_right (by decide) (by omega)
  have hp2 : 2 ^ k ≤ 2 ^ 29 := Nat.pow_le_pow_right (by decide) (by omega)
  have h2 : R / 2 ^ k < 2 := Nat.div_lt_of_lt_mul (by rw [← Nat.pow_succ]; exact hR)
  rw [nx_and]
  have hz : R &&& 2 ^ k = 0 ↔ R / 2 ^ k = 0 := by
    constructor
    · intro h
      have h9 : (R &&& 2 ^ k).testBit k = false := by rw [h]; exact Nat.zero_testBit k
      rw [Nat.testBit_and, Nat.testBit_two_pow_self, Bool.and_true, Nat.testBit_eq_decide_div_mod_eq] at h9
      have h8 := of_decide_eq_false h9
      generalize R / 2 ^ k = q at h2 h8 ⊢
      omega
    · intro h
      apply Nat.eq_of_testBit_eq
      intro i
      rw [Nat.testBit_and, Nat.zero_testBit, Nat.testBit_two_pow]
      by_cases hi : k = i
      · subst hi
        rw [Nat.testBit_eq_decide_div_mod_eq, h]
        rfl
      · simp [hi]
  have hle : R &&& 2 ^ k ≤ 2 ^ k := Nat.and_le_right
  by_cases h : R / 2 ^ k = 0
  · exact ⟨fun _ => h, fun _ => by rw [hz.mpr h]; rfl⟩
  · exact ⟨fun h9 => absurd h9 (nI_ne0 (Nat.pos_of_ne_zero (fun q => h (hz.mp q))) (by omega)), fun h9 => absurd h9 h⟩
theorem dblMod {R k : Nat} : R % 2 ^ k * 2 = R * 2 % 2 ^ (k + 1) := by rw [Nat.pow_succ, Nat.mul_mod_mul_right]
theorem ckM_N {k m : Nat} {by_ top : Int32} {J B : Nat} (ht : top = nI (2 ^ k)) (ht1 : (top - 1).toBitVec.toNat = 2 ^ k - 1) (hj : by_ = nI J) (hJ : J < 2 ^ (k + 1)) (hk : k ≤ 29) (hB : B < 2 ^ 62) :
    ∀ n, n < 64 → ∀ R, R < 2 ^ (k + 1) → ckM (lN B) m by_ top n (nI R) = nI (cN k J B n R)
  | 0, _, _, _ => rfl
  | n + 1, hn, R, hR => by
    have hp : 2 ^ (k + 1) ≤ 2 ^ 30 := Nat.pow_le_pow_right (by decide) (by omega)
    have e1 : ((lN B >>> ((Int32.ofNat n).toInt64 &&& 63)) &&& (1 : Int64)) = lN (B / 2 ^ n % 2) := by
      rw [show Int32.ofNat n = nI n from rfl, shrN hB (by omega)]
      exact wb_a1 (Nat.lt_of_le_of_lt (Nat.div_le_self _ _) (by omega))
    have e2 : (nI R &&& (top - 1)) * (2 : Int32) = nI (R * 2 % 2 ^ (k + 1)) := by
      rw [pk_andN (by omega) k ht1, show (2 : Int32) = nI 2 from rfl, pk_mul, dblMod]
    have hs : R * 2 % 2 ^ (k + 1) < 2 ^ (k + 1) := Nat.mod_lt _ (Nat.two_pow_pos _)
    have hb2 : B / 2 ^ n % 2 < 2 := Nat.mod_lt _ (by decide)
    have h2 : R / 2 ^ k < 2 := Nat.div_lt_of_lt_mul (by rw [← Nat.pow_succ]; exact hR)
    have htop : (nI R &&& top) = 0 ↔ R / 2 ^ k = 0 := by rw [ht]; exact andTop hk hR
    have hx : nI (R * 2 % 2 ^ (k + 1)) ^^^ by_ = nI ((R * 2 % 2 ^ (k + 1)) ^^^ J) := by rw [hj, nx_xor]
    have ih := fun R' hR' => ckM_N (m := m) ht ht1 hj hJ hk hB n (by omega) R' hR'
    unfold ckM
    rw [e1, e2, hx]
    show _ = nI (cN k J B n (cNs k J (B / 2 ^ n % 2) R))
    have hone : lg_cmp (lN (B / 2 ^ n % 2)) (1 : Int64) = 0 ↔ B / 2 ^ n % 2 = 1 := lgN (b := 1) (by omega) (by decide)
    by_cases hb : B / 2 ^ n % 2 = 1
    · rw [if_pos (hone.mpr hb)]
      by_cases hh : R / 2 ^ k = 0
      · rw [if_pos (htop.mpr hh)]
        have hst : cNs k J (B / 2 ^ n % 2) R = (R * 2 % 2 ^ (k + 1)) ^^^ J := if_neg (by omega)
        rw [hst]
        exact ih _ (Nat.xor_lt_two_pow hs hJ)
      · rw [if_neg (fun h => hh (htop.mp h))]
        have hq1 : R / 2 ^ k = 1 := by generalize R / 2 ^ k = q at h2 hh ⊢; omega
        have hst : cNs k J (B / 2 ^ n % 2) R = R * 2 % 2 ^ (k + 1) := if_pos (hq1.trans hb.symm)
        rw [hst]
        exact ih _ hs
    · rw [if_neg (fun h => hb (hone.mp h))]
      by_cases hh : R / 2 ^ k = 0
      · rw [if_pos (htop.mpr hh)]
        have hst : cNs k J (B / 2 ^ n % 2) R = R * 2 % 2 ^ (k + 1) := if_pos (by omega)
        rw [hst]
        exact ih _ hs
      · rw [if_neg (fun h => hh (htop.mp h))]
        have hst : cNs k J (B / 2 ^ n % 2) R = (R * 2 % 2 ^ (k + 1)) ^^^ J := if_neg (by omega)
        rw [hst]
        exact ih _ (Nat.xor_lt_two_pow hs hJ)
/-- the two checks on numbers -/
def hN12 (B : Nat) : Nat := cN 10 901 B 12 26
def hN33 (B : Nat) : Nat := cN 23 6122955 B 33 16702650
theorem hN12_lt (B : Nat) : hN12 B < 2048 := cN_lt (k := 10) (by decide) 12 26 (by decide)
theorem hN33_lt (B : Nat) : hN33 B < 16777216 := cN_lt (k := 23) (by decide) 33 16702650 (by decide)
theorem w12 {B : Nat} (hB : B < 2 ^ 64) (σ : mmS) : sp_w_headCheck (lN B) σ = lN (hN12 B) := ckC_N (k := 10) (J := 901) (by decide) (by decide) rfl (by decide) (by decide) hB 12 (by decide) 26 (by decide)
theorem w33 {B : Nat} (hB : B < 2 ^ 64) (σ : mmS) : sp_w_wholeCheck (lN B) σ = lN (hN33 B) := ckC_N (k := 23) (J := 6122955) (by decide) (by decide) rfl (by decide) (by decide) hB 33 (by decide) 16702650 (by decide)
theorem m12 {B : Nat} (hB : B < 2 ^ 62) (σ : mmS) : sp_m_check12 (lN B) σ = nI (hN12 B) := ckM_N (k := 10) (J := 901) (by decide) (by decide) rfl (by decide) (by decide) hB 12 (by decide) 26 (by decide)
theorem m33 {B : Nat} (hB : B < 2 ^ 62) (σ : mmS) : sp_m_check33 (lN B) σ = nI (hN33 B) := ckM_N (k := 23) (J := 6122955) (by decide) (by decide) rfl (by decide) (by decide) hB 33 (by decide) 16702650 (by decide)
def mkW (σ : mmS) (H v : Int64) : Int64 := (((((H <<< ((11 : Int32).toInt64 &&& 63)) ||| (sp_w_headCheck H σ)) <<< ((10 : Int32).toInt64 &&& 63)) ||| v) <<< ((24 : Int32).toInt64 &&& 63)) ||| (sp_w_wholeCheck ((((H <<< ((11 : Int32).toInt64 &&& 63)) ||| (sp_w_headCheck H σ)) <<< ((10 : Int32).toInt64 &&& 63)) ||| v) σ)
def mkM (σ : mmS) (H v : Int64) : Int64 := (((H * (2048 : Int64) + (sp_m_check12 H σ).toInt64) * (1024 : Int64) + v) * (16777216 : Int64)) + (sp_m_check33 ((H * (2048 : Int64) + (sp_m_check12 H σ).toInt64) * (1024 : Int64) + v) σ).toInt64
theorem mk_eq {h v : Nat} (hlt : h < 4096) (hv : v < 1024) (σ σ' : mmS) : mkW σ (lN h) (lN v) = mkM σ' (lN h) (lN v) := by
  unfold mkW mkM
  rw [w12 (by omega), m12 (by omega), nI_l (by have := hN12_lt h; omega)]
  have h12 := hN12_lt h
  generalize hN12 h = p at h12 ⊢
  have e3 : (lN h <<< ((11 : Int32).toInt64 &&& 63)) ||| lN p = lN (h * 2048 + p) := by
    rw [show (11 : Int32) = nI 11 from rfl, wb_shl h (k := 11) (by decide)]
    exact g_or (k := 11) (p := 2048) (by decide) h12 (by omega)
  have e4 : (lN (h * 2048 + p) <<< ((10 : Int32).toInt64 &&& 63)) ||| lN v = lN ((h * 2048 + p) * 1024 + v) := by
    rw [show (10 : Int32) = nI 10 from rfl, wb_shl _ (k := 10) (by decide)]
    exact g_or (k := 10) (p := 1024) (by decide) hv (by omega)
  have e5 : (lN h * (2048 : Int64) + lN p) * (1024 : Int64) + lN v = lN ((h * 2048 + p) * 1024 + v) := by
    rw [show (2048 : Int64) = lN 2048 from rfl, show (1024 : Int64) = lN 1024 from rfl, lN_mul, lN_add, lN_mul, lN_add]
  rw [e3, e4, e5]
  generalize hb : (h * 2048 + p) * 1024 + v = b
  have hblt : b < 2 ^ 33 := by omega
  rw [w33 (by omega), m33 (by omega), nI_l (by have := hN33_lt b; omega)]
  have h33 := hN33_lt b
  generalize hN33 b = q at h33 ⊢
  rw [show (24 : Int32) = nI 24 from rfl, wb_shl b (k := 24) (by decide), show (16777216 : Int64) = lN 16777216 from rfl, lN_mul, lN_add]
  exact g_or (k := 24) (p := 16777216) (by decide) h33 (by omega)
/-- a word: the class's and the reference's -/
theorem make_eq {a c v : Nat} (ha : a < 32) (hc : c < 64) (hv : v < 1024) (s : Int32) (hs : s = 0 ∨ s = 1) (σ σ' : mmS) : sp_w_make (nI a) (nI c) s (nI v) σ = sp_m_wordOf (nI a) (nI c) s (nI v) σ' := by
  have ea : (nI a).toInt64 = lN a := nI_l (by omega)
  have ev : (nI v).toInt64 = lN v := nI_l (by omega)
  have ecl : (nI c).toInt64 = lN c := nI_l (by omega)
  have e7 : lN a <<< ((7 : Int32).toInt64 &&& 63) = lN (a * 128) := wb_shl a (k := 7) (by decide)
  have ec : (nI c <<< ((1 : Int32) &&& 31)).toInt64 = lN (c * 2) := by
    rw [pk_shlN (n := c) ((1 : Int32) &&& 31) 1 (by decide) (by omega)]
    exact nI_l (by omega)
  have e1 : lN (a * 128) ||| lN (c * 2) = lN ((a * 64 + c) * 2) := by
    rw [g_or (k := 7) (p := 128) (by decide) (by omega) (by omega)]
    congr 1
    omega
  have hw : ∀ z : Nat, z < 2 → ((nI a).toInt64 <<< ((7 : Int32).toInt64 &&& 63)) ||| ((nI c <<< ((1 : Int32) &&& 31)).toInt64) ||| lN z = lN ((a * 64 + c) * 2 + z) := by
    intro z hz
    rw [ea, ec, e7, e1]
    exact g_or (k := 1) (p := 2) (by decide) hz (by omega)
  have hm : ∀ z : Nat, (nI a).toInt64 * (128 : Int64) + (nI c).toInt64 * (2 : Int64) + lN z = lN ((a * 64 + c) * 2 + z) := by
    intro z
    rw [ea, ecl, show (128 : Int64) = lN 128 from rfl, show (2 : Int64) = lN 2 from rfl, lN_mul, lN_mul, lN_add, lN_add]
    congr 1
    omega
  rcases hs with rfl | rfl
  · have h1 : sp_w_make (nI a) (nI c) 0 (nI v) σ = mkW σ (((nI a).toInt64 <<< ((7 : Int32).toInt64 &&& 63)) ||| ((nI c <<< ((1 : Int32) &&& 31)).toInt64) ||| lN 0) (nI v).toInt64 := by
      unfold sp_w_make
      rw [if_pos rfl]
      rfl
    have h2 : sp_m_wordOf (nI a) (nI c) 0 (nI v) σ' = mkM σ' ((nI a).toInt64 * (128 : Int64) + (nI c).toInt64 * (2 : Int64) + lN 0) (nI v).toInt64 := rfl
    rw [h1, h2, hw 0 (by decide), hm 0, ev]
    exact mk_eq (by omega) hv σ σ'
  · have h1 : sp_w_make (nI a) (nI c) 1 (nI v) σ = mkW σ (((nI a).toInt64 <<< ((7 : Int32).toInt64 &&& 63)) ||| ((nI c <<< ((1 : Int32) &&& 31)).toInt64) ||| lN 1) (nI v).toInt64 := by
      unfold sp_w_make
      rw [if_neg (by decide)]
      rfl
    have h2 : sp_m_wordOf (nI a) (nI c) 1 (nI v) σ' = mkM σ' ((nI a).toInt64 * (128 : Int64) + (nI c).toInt64 * (2 : Int64) + lN 1) (nI v).toInt64 := rfl
    rw [h1, h2, hw 1 (by decide), hm 1, ev]
    exact mk_eq (by omega) hv σ σ'
/-- is it a word at all: both say the same -/
theorem fits_iff {n : Nat} (hn : n < 2 ^ 64) (σ : mmS) : sp_w_fits (lN n) σ = 0 ↔ ¬ n < 2 ^ 57 := by
  unfold sp_w_fits
  rw [show (57 : Int32) = nI 57 from rfl, wb_shr hn (by decide)]
  have hd : n / 2 ^ 57 < 2 ^ 63 := Nat.lt_of_lt_of_le (Nat.div_lt_of_lt_mul (show n < 2 ^ 57 * 2 ^ 7 by omega)) (by decide)
  have h0 : lg_cmp (lN (n / 2 ^ 57)) (0 : Int64) = 0 ↔ n / 2 ^ 57 = 0 := lgN (b := 0) hd (by decide)
  by_cases h : n / 2 ^ 57 = 0
  · rw [if_pos (h0.mpr h)]
    exact ⟨fun q => absurd q (by decide), fun q => absurd (by omega) q⟩
  · rw [if_neg (fun q => h (h0.mp q))]
    exact ⟨fun _ => by omega, fun _ => rfl⟩
theorem lgL {a b : Nat} (ha : a < 2 ^ 63) (hb : b < 2 ^ 63) : lg_cmp (lN a) (lN b) < 0 ↔ a < b := by
  unfold lg_cmp
  by_cases h1 : lN a > lN b
  · rw [if_pos h1]
    have h2 : b < a := (pk_lLT hb ha).mp h1
    exact ⟨fun h => absurd h (by decide), fun h => by omega⟩
  · rw [if_neg h1]
    by_cases h2 : lN a = lN b
    · rw [if_pos h2]
      have h3 := (pk_lEQ ha hb).mp h2
      exact ⟨fun h => absurd h (by decide), fun h => by omega⟩
    · rw [if_neg h2]
      have h3 : ¬ b < a := fun q => h1 ((pk_lLT hb ha).mpr q)
      have h4 : a ≠ b := fun q => h2 ((pk_lEQ ha hb).mpr q)
      exact ⟨fun _ => by omega, fun _ => by decide⟩
theorem lgNeg {n : Nat} (hn : n < 2 ^ 64) (h : ¬ n < 2 ^ 63) : lg_cmp (lN n) (0 : Int64) < 0 := by
  have hneg : lN n < 0 := by
    rw [Int64.lt_iff_toInt_lt]
    show (lN n).toBitVec.toInt < _
    rw [BitVec.toInt_eq_toNat_cond, wb_tn hn, if_neg (by omega)]
    show (n : Int) - ((2 ^ 64 : Nat) : Int) < 0
    omega
  unfold lg_cmp
  rw [if_neg (show ¬ lN n > 0 from fun q => Int64.lt_irrefl (Int64.lt_trans q hneg)), if_neg (fun q => by rw [q] at hneg; exact Int64.lt_irrefl hneg)]
  decide
/-- what the reference says is wrong with a word -/
theorem wrong_out {n : Nat} (hn : n < 2 ^ 64) (h : ¬ n < 2 ^ 57) (σ : mmS) : sp_m_wrong (lN n) σ = 1 := by
  unfold sp_m_wrong
  by_cases h63 : n < 2 ^ 63
  · rw [if_neg (fun q => by have := (lgL (b := 0) h63 (by decide)).mp q; omega), if_neg (fun q => by have := (lgL (b := 144115188075855872) h63 (by decide)).mp q; omega)]
  · rw [if_pos (lgNeg hn h63)]
theorem wrong_in {n : Nat} (h : n < 2 ^ 57) (σ : mmS) : sp_m_wrong (lN n) σ = if hN12 (n / 2 ^ 45) = n / 2 ^ 34 % 2048 then (if hN33 (n / 2 ^ 24) = n % 16777216 then 0 else 2) else 1 := by
  have d45 : n / 2 ^ 45 ≤ n := Nat.div_le_self _ _
  have d34 : n / 2 ^ 34 ≤ n := Nat.div_le_self _ _
  have d24 : n / 2 ^ 24 ≤ n := Nat.div_le_self _ _
  have e34 : ((lN (n / 2 ^ 34)) &&& (2047 : Int64)).toInt32 = nI (n / 2 ^ 34 % 2048) := by
    rw [show (2047 : Int64) = lN (2 ^ 11 - 1) from rfl, wb_mask (k := 11) (by omega) (by decide), lN_i]
  have e24 : ((lN n) &&& (16777215 : Int64)).toInt32 = nI (n % 16777216) := by
    rw [show (16777215 : Int64) = lN (2 ^ 24 - 1) from rfl, wb_mask (k := 24) (by omega) (by decide), lN_i]
  unfold sp_m_wrong
  rw [if_neg (fun q => by have := (lgL (b := 0) (by omega) (by decide)).mp q; omega), if_pos (show lg_cmp (lN n) (144115188075855872 : Int64) < 0 from (lgL (b := 144115188075855872) (by omega) (by decide)).mpr (by omega)),
    show (45 : Int32) = nI 45 from rfl, show (34 : Int32) = nI 34 from rfl, show (24 : Int32) = nI 24 from rfl, shrN (by omega) (by decide), shrN (by omega) (by decide), shrN (by omega) (by decide), m12 (by omega), m33 (by omega), e34, e24]
  have h12 := hN12_lt (n / 2 ^ 45)
  have h33 := hN33_lt (n / 2 ^ 24)
  have q1 : nI (hN12 (n / 2 ^ 45)) = nI (n / 2 ^ 34 % 2048) ↔ hN12 (n / 2 ^ 45) = n / 2 ^ 34 % 2048 := nI_eq (by omega) (by omega)
  have q2 : nI (hN33 (n / 2 ^ 24)) = nI (n % 16777216) ↔ hN33 (n / 2 ^ 24) = n % 16777216 := nI_eq (by omega) (by omega)
  by_cases c1 : hN12 (n / 2 ^ 45) = n / 2 ^ 34 % 2048
  · rw [if_pos (q1.mpr c1), if_pos c1]
    by_cases c2 : hN33 (n / 2 ^ 24) = n % 16777216
    · rw [if_pos (q2.mpr c2), if_pos c2]
    · rw [if_neg (fun q => c2 (q2.mp q)), if_neg c2]
  · rw [if_neg (fun q => c1 (q1.mp q)), if_neg c1]
theorem head_iff {n : Nat} (h : n < 2 ^ 57) (σ : mmS) : sp_w_isHeadRight (lN n) σ = 0 ↔ ¬ hN12 (n / 2 ^ 45) = n / 2 ^ 34 % 2048 := by
  have d45 : n / 2 ^ 45 ≤ n := Nat.div_le_self _ _
  have d34 : n / 2 ^ 34 ≤ n := Nat.div_le_self _ _
  unfold sp_w_isHeadRight
  rw [show (45 : Int32) = nI 45 from rfl, show (34 : Int32) = nI 34 from rfl, wb_shr (by omega) (by decide), wb_shr (by omega) (by decide), w12 (by omega), show (2047 : Int64) = lN (2 ^ 11 - 1) from rfl, wb_mask (k := 11) (by omega) (by decide)]
  have h12 := hN12_lt (n / 2 ^ 45)
  have q := lgN (a := hN12 (n / 2 ^ 45)) (b := n / 2 ^ 34 % 2 ^ 11) (by omega) (by omega)
  by_cases c : hN12 (n / 2 ^ 45) = n / 2 ^ 34 % 2 ^ 11
  · rw [if_pos (q.mpr c)]
    exact ⟨fun z => absurd z (by decide), fun z => absurd c z⟩
  · rw [if_neg (fun z => c (q.mp z))]
    exact ⟨fun _ => c, fun _ => rfl⟩
theorem whole_iff {n : Nat} (h : n < 2 ^ 57) (σ : mmS) : sp_w_isWholeRight (lN n) σ = 0 ↔ ¬ hN33 (n / 2 ^ 24) = n % 16777216 := by
  have d24 : n / 2 ^ 24 ≤ n := Nat.div_le_self _ _
  unfold sp_w_isWholeRight
  rw [show (24 : Int32) = nI 24 from rfl, wb_shr (by omega) (by decide), w33 (by omega), show (16777215 : Int64) = lN (2 ^ 24 - 1) from rfl, wb_mask (k := 24) (by omega) (by decide)]
  have h33 := hN33_lt (n / 2 ^ 24)
  have q := lgN (a := hN33 (n / 2 ^ 24)) (b := n % 2 ^ 24) (by omega) (by omega)
  by_cases c : hN33 (n / 2 ^ 24) = n % 2 ^ 24
  · rw [if_pos (q.mpr c)]
    exact ⟨fun z => absurd z (by decide), fun z => absurd c z⟩
  · rw [if_neg (fun z => c (q.mp z))]
    exact ⟨fun _ => c, fun _ => rfl⟩
theorem part_eq {n k m : Nat} (h : n < 2 ^ 57) (hk : k < 64) (hm : m ≤ 20) : ((((lN n).toUInt64 >>> ((nI k).toInt64.toUInt64 &&& Int64.toUInt64 63)).toInt64).toInt32 &&& nI (2 ^ m - 1)) = ((lN n >>> ((nI k).toInt64 &&& 63)) &&& lN (2 ^ m - 1)).toInt32 := by
  have d : n / 2 ^ k ≤ n := Nat.div_le_self _ _
  have hp : 2 ^ m ≤ 2 ^ 20 := Nat.pow_le_pow_right (by decide) hm
  have hp0 : 0 < 2 ^ m := Nat.two_pow_pos m
  rw [wb_shr (by omega) hk, shrN (by omega) hk, wb_mask (by omega) (by omega), lN_i, lN_i]
  have e1 : (nI (2 ^ m - 1)).toBitVec.toNat = 2 ^ m - 1 := pk_tn (by omega)
  rw [pk_and _ m e1]
  have e2 : (nI (n / 2 ^ k)).toBitVec.toNat = n / 2 ^ k % 2 ^ 32 := BitVec.toNat_ofNat _ _
  rw [e2, Nat.mod_mod_of_dvd _ (Nat.pow_dvd_pow 2 (by omega))]
theorem id_eq2 {n : Nat} (h : n < 2 ^ 57) (σ σ' : mmS) : sp_w_idIn (lN n) σ = sp_m_idOf (lN n) σ' := part_eq (k := 52) (m := 5) h (by decide) (by decide)
theorem cyc_eq2 {n : Nat} (h : n < 2 ^ 57) (σ σ' : mmS) : sp_w_cycleIn (lN n) σ = sp_m_cycleOf (lN n) σ' := part_eq (k := 46) (m := 6) h (by decide) (by decide)
theorem val_eq2 {n : Nat} (h : n < 2 ^ 57) (σ σ' : mmS) : sp_w_valueIn (lN n) σ = sp_m_valueOf (lN n) σ' := part_eq (k := 24) (m := 10) h (by decide) (by decide)
theorem sta_eq2 {n : Nat} (h : n < 2 ^ 57) (σ σ' : mmS) : sp_w_startupIn (lN n) σ = sp_m_startupOf (lN n) σ' := by
  unfold sp_w_startupIn sp_m_startupOf
  rw [show (45 : Int32) = nI 45 from rfl, wb_shr (by omega) (by decide), shrN (by omega) (by decide)]
end BT
