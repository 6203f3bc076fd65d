section HP
abbrev mmPI (σ : mmS) (v : Int32) : mmR := (.inl (some (.int v)), σ)
abbrev mmPJ (σ : mmS) (v : Int64) : mmR := (.inl (some (.long v)), σ)
abbrev mmSI (p : Int32 × mmS) : mmR := (.inl (some (.int p.1)), p.2)
abbrev mmSJ (p : Int64 × mmS) : mmR := (.inl (some (.long p.1)), p.2)
abbrev mmSV (σ : mmS) : mmR := (.inl none, σ)
theorem vpi {j : Int32} {n : Nat} (h : ¬ (j < 0 ∨ n ≤ j.toNatClampNeg)) : vp_in j n := h
theorem ltk {a N : Nat} (h : a < 65) (hN : 65 ≤ N) : a < N := Nat.lt_of_lt_of_le h hN
theorem ltk6 {a N : Nat} (h : a < 66) (hN : 66 ≤ N) : a < N := Nat.lt_of_lt_of_le h hN
theorem ltn {j c N : Nat} (hc : c < 12) (hj : j < 4) (hN : 65 ≤ N) : 10 * j + c < N := by omega
theorem n4 {n : Int32} (h : vp_in n 4) : n = 0 ∨ n = 1 ∨ n = 2 ∨ n = 3 := by
  unfold vp_in at h
  have h1 : ¬ n < 0 := fun q => h (Or.inl q)
  have h2 : n.toInt.toNat < 4 := Nat.not_le.mp fun q => h (Or.inr q)
  rw [Int32.lt_iff_toInt_lt] at h1
  have h0 : (0 : Int32).toInt = 0 := by decide
  rw [h0] at h1
  have h3 : n.toInt = 0 ∨ n.toInt = 1 ∨ n.toInt = 2 ∨ n.toInt = 3 := by omega
  rcases h3 with h3 | h3 | h3 | h3
  · exact Or.inl (Int32.toInt_inj.mp (h3.trans (by decide)))
  · exact Or.inr (Or.inl (Int32.toInt_inj.mp (h3.trans (by decide))))
  · exact Or.inr (Or.inr (Or.inl (Int32.toInt_inj.mp (h3.trans (by decide)))))
  · exact Or.inr (Or.inr (Or.inr (Int32.toInt_inj.mp (h3.trans (by decide)))))
theorem n4_lt {n : Int32} (h : vp_in n 4) : n.toNatClampNeg < 4 := Nat.not_le.mp fun q => h (Or.inr q)
theorem shq_2 {j : Nat} (hj : j < 4) : shp (10 * j + 2) = .inl (3, [0, 0, (10 * j + 3) + 3, (10 * j + 4) + 3, (10 * j + 5) + 3, (10 * j + 10) + 3, (10 * j + 11) + 3, 0, 0, 0, 0, 2, 0]) := by
  have h : j = 0 ∨ j = 1 ∨ j = 2 ∨ j = 3 := by omega
  rcases h with rfl | rfl | rfl | rfl <;> rfl
theorem shq_3 {j : Nat} (hj : j < 4) : shp (10 * j + 3) = .inl (5, [0, 0, 0, 0, 0]) := by
  have h : j = 0 ∨ j = 1 ∨ j = 2 ∨ j = 3 := by omega
  rcases h with rfl | rfl | rfl | rfl <;> rfl
theorem shq_4 {j : Nat} (hj : j < 4) : shp (10 * j + 4) = .inl (4, [0, 0, 0, 0]) := by
  have h : j = 0 ∨ j = 1 ∨ j = 2 ∨ j = 3 := by omega
  rcases h with rfl | rfl | rfl | rfl <;> rfl
theorem shq_5 {j : Nat} (hj : j < 4) : shp (10 * j + 5) = .inl (0, [(10 * j + 6) + 3, (10 * j + 7) + 3, (10 * j + 8) + 3]) := by
  have h : j = 0 ∨ j = 1 ∨ j = 2 ∨ j = 3 := by omega
  rcases h with rfl | rfl | rfl | rfl <;> rfl
theorem shq_6 {j : Nat} (hj : j < 4) : shp (10 * j + 6) = .inr (0, 4) := by
  have h : j = 0 ∨ j = 1 ∨ j = 2 ∨ j = 3 := by omega
  rcases h with rfl | rfl | rfl | rfl <;> rfl
theorem shq_7 {j : Nat} (hj : j < 4) : shp (10 * j + 7) = .inr (0, 4) := by
  have h : j = 0 ∨ j = 1 ∨ j = 2 ∨ j = 3 := by omega
  rcases h with rfl | rfl | rfl | rfl <;> rfl
theorem shq_8 {j : Nat} (hj : j < 4) : shp (10 * j + 8) = .inl (2, [(10 * j + 9) + 3, 0]) := by
  have h : j = 0 ∨ j = 1 ∨ j = 2 ∨ j = 3 := by omega
  rcases h with rfl | rfl | rfl | rfl <;> rfl
theorem shq_9 {j : Nat} (hj : j < 4) : shp (10 * j + 9) = .inr (0, 5) := by
  have h : j = 0 ∨ j = 1 ∨ j = 2 ∨ j = 3 := by omega
  rcases h with rfl | rfl | rfl | rfl <;> rfl
theorem shq_10 {j : Nat} (hj : j < 4) : shp (10 * j + 10) = .inl (1, [2, 0, 0, 0, 0]) := by
  have h : j = 0 ∨ j = 1 ∨ j = 2 ∨ j = 3 := by omega
  rcases h with rfl | rfl | rfl | rfl <;> rfl
theorem shq_11 {j : Nat} (hj : j < 4) : shp (10 * j + 11) = .inr (0, 10) := by
  have h : j = 0 ∨ j = 1 ∨ j = 2 ∨ j = 3 := by omega
  rcases h with rfl | rfl | rfl | rfl <;> rfl
theorem cb_6 : (Int8.ofInt (6)).toInt32 = (6 : Int32) := by decide +kernel
theorem cb_7 : (Int8.ofInt (7)).toInt32 = (7 : Int32) := by decide +kernel
theorem cb_8 : (Int8.ofInt (8)).toInt32 = (8 : Int32) := by decide +kernel
theorem cb_9 : (Int8.ofInt (9)).toInt32 = (9 : Int32) := by decide +kernel
theorem cb_10 : (Int8.ofInt (10)).toInt32 = (10 : Int32) := by decide +kernel
theorem cb_11 : (Int8.ofInt (11)).toInt32 = (11 : Int32) := by decide +kernel
theorem cb_12 : (Int8.ofInt (12)).toInt32 = (12 : Int32) := by decide +kernel
theorem cb_15 : (Int8.ofInt (15)).toInt32 = (15 : Int32) := by decide +kernel
theorem cb_24 : (Int8.ofInt (24)).toInt32 = (24 : Int32) := by decide +kernel
theorem cb_26 : (Int8.ofInt (26)).toInt32 = (26 : Int32) := by decide +kernel
theorem cb_31 : (Int8.ofInt (31)).toInt32 = (31 : Int32) := by decide +kernel
theorem cb_32 : (Int8.ofInt (32)).toInt32 = (32 : Int32) := by decide +kernel
theorem cb_33 : (Int8.ofInt (33)).toInt32 = (33 : Int32) := by decide +kernel
theorem cb_34 : (Int8.ofInt (34)).toInt32 = (34 : Int32) := by decide +kernel
theorem cb_45 : (Int8.ofInt (45)).toInt32 = (45 : Int32) := by decide +kernel
theorem cb_46 : (Int8.ofInt (46)).toInt32 = (46 : Int32) := by decide +kernel
theorem cb_52 : (Int8.ofInt (52)).toInt32 = (52 : Int32) := by decide +kernel
theorem cb_57 : (Int8.ofInt (57)).toInt32 = (57 : Int32) := by decide +kernel
theorem cb_63 : (Int8.ofInt (63)).toInt32 = (63 : Int32) := by decide +kernel
theorem cb_64 : (Int8.ofInt (64)).toInt32 = (64 : Int32) := by decide +kernel
theorem cb_99 : (Int8.ofInt (99)).toInt32 = (99 : Int32) := by decide +kernel
theorem ci_m1 : Int32.ofInt (-1) = (-1 : Int32) := by decide +kernel
theorem ci_0 : Int32.ofInt (0) = (0 : Int32) := by decide +kernel
theorem ci_1 : Int32.ofInt (1) = (1 : Int32) := by decide +kernel
theorem ci_2 : Int32.ofInt (2) = (2 : Int32) := by decide +kernel
theorem ci_3 : Int32.ofInt (3) = (3 : Int32) := by decide +kernel
theorem ci_4 : Int32.ofInt (4) = (4 : Int32) := by decide +kernel
theorem ci_5 : Int32.ofInt (5) = (5 : Int32) := by decide +kernel
theorem cs_200 : (Int16.ofInt (200)).toInt32 = (200 : Int32) := by decide +kernel
theorem cs_901 : (Int16.ofInt (901)).toInt32 = (901 : Int32) := by decide +kernel
theorem cs_1000 : (Int16.ofInt (1000)).toInt32 = (1000 : Int32) := by decide +kernel
theorem cs_1023 : (Int16.ofInt (1023)).toInt32 = (1023 : Int32) := by decide +kernel
theorem cs_1024 : (Int16.ofInt (1024)).toInt32 = (1024 : Int32) := by decide +kernel
theorem cs_2048 : (Int16.ofInt (2048)).toInt32 = (2048 : Int32) := by decide +kernel
theorem cs_4096 : (Int16.ofInt (4096)).toInt32 = (4096 : Int32) := by decide +kernel
end HP
theorem xm_4_16 : (4, 16, 32, 34, 36, "java/lang/IllegalStateException") ∈ xsT := by decide +kernel
theorem xm_5_9 : (5, 9, 175, 180, 179, "java/lang/IllegalArgumentException") ∈ xsT := by decide +kernel
theorem xm_16_4 : (16, 4, 175, 177, 179, "java/lang/IllegalArgumentException") ∈ xsT := by decide +kernel
theorem xm_68_12 : (68, 12, 32, 182, 36, "java/lang/IllegalStateException") ∈ xsT := by decide +kernel
theorem xm_70_88 : (70, 88, 32, 76, 36, "java/lang/IllegalStateException") ∈ xsT := by decide +kernel
theorem xm_80_27 : (80, 27, 32, 97, 36, "java/lang/IllegalStateException") ∈ xsT := by decide +kernel
theorem xm_83_34 : (83, 34, 133, 135, 137, "java/util/NoSuchElementException") ∈ xsT := by decide +kernel
theorem xm_87_31 : (87, 31, 133, 146, 137, "java/util/NoSuchElementException") ∈ xsT := by decide +kernel
theorem xm_89_11 : (89, 11, 133, 148, 137, "java/util/NoSuchElementException") ∈ xsT := by decide +kernel
theorem xm_93_29 : (93, 29, 32, 160, 36, "java/lang/IllegalStateException") ∈ xsT := by decide +kernel
section FL
variable {N L : Nat} {xs : Nat → Int32}
def fillF (a i n : Nat) (v : Int32) (σ : mmS) : mmS := (va_up σ.1 a (fun j => if i ≤ j ∧ j < n then v else σ.1 a j), σ.2)
abbrev sp_fill (a n : Nat) (v : Int32) (σ : mmS) : mmS := fillF a 0 n v σ
theorem nat_s : ∀ i, i < 101 → (Int32.ofNat i).toNatClampNeg = i ∧ ¬ Int32.ofNat i < 0 ∧ Int32.ofNat i + Int32.ofInt 1 = Int32.ofNat (i + 1) ∧ (Int32.ofNat i).toInt = i := by decide +kernel
theorem fillF_end {a n : Nat} {v : Int32} {σ : mmS} : fillF a n n v σ = σ := by
  refine Prod.ext ?_ rfl
  funext k j
  show (if k = a then (fun j => if n ≤ j ∧ j < n then v else σ.1 a j) else σ.1 k) j = σ.1 k j
  by_cases h : k = a
  · subst h
    rw [if_pos rfl]
    exact if_neg (by omega)
  · rw [if_neg h]
theorem fillF_step {a i n : Nat} {v : Int32} {σ : mmS} (h : i < n) : fillF a (i + 1) n v (mmI σ a i v) = fillF a i n v σ := by
  refine Prod.ext ?_ rfl
  funext k j
  show (if k = a then (fun j => if i + 1 ≤ j ∧ j < n then v else (if a = a then upd (σ.1 a) i v else σ.1 a) j) else (if k = a then upd (σ.1 a) i v else σ.1 k)) j = (if k = a then (fun j => if i ≤ j ∧ j < n then v else σ.1 a j) else σ.1 k) j
  by_cases hk : k = a
  · rw [if_pos hk, if_pos hk, if_pos rfl]
    show (if i + 1 ≤ j ∧ j < n then v else upd (σ.1 a) i v j) = if i ≤ j ∧ j < n then v else σ.1 a j
    by_cases hj : j = i
    · subst hj
      rw [if_neg (by omega), if_pos (by omega)]
      exact pk_us
    · rw [pk_un hj]
      by_cases h1 : i + 1 ≤ j ∧ j < n
      · rw [if_pos h1, if_pos (by omega)]
      · rw [if_neg h1, if_neg (by omega)]
  · rw [if_neg hk, if_neg hk, if_neg hk]
theorem ev_fill_loop {a n : Nat} (ha : a < N) (hs : shp a = .inr (0, n)) (hn : n < 100) (v : Int32) : ∀ (d i : Nat), i + d = n → ∀ σ : mmS, Ev N L xs (0, 5, [(0, .ref a), (1, .int v), (2, .int (Int32.ofNat i)), (3, .int (Int32.ofNat n))], [], 0, σ) (mmSV (fillF a i n v σ))
  | 0, i, h, σ => by
    have hi : i = n := by omega
    subst hi
    refine ev_iload_n d_0_5 rfl ?_
    refine ev_iload_n d_0_6 rfl ?_
    refine ev_icmpT (tgt := 20) d_0_7 rfl (show Int32.ofNat i ≤ Int32.ofNat i from Int32.le_refl _) ?_
    rw [fillF_end]
    exact ev_vret d_0_20 rfl
  | d + 1, i, h, σ => by
    obtain ⟨e1, e2, e3, e4⟩ := nat_s i (by omega)
    obtain ⟨f1, f2, f3, f4⟩ := nat_s n (by omega)
    refine ev_iload_n d_0_5 rfl ?_
    refine ev_iload_n d_0_6 rfl ?_
    refine ev_icmpF (tgt := 20) d_0_7 rfl (show ¬ Int32.ofNat n ≤ Int32.ofNat i by rw [Int32.le_iff_toInt_le, e4, f4]; omega) ?_
    refine ev_aload_n d_0_10 rfl ?_
    refine ev_iload_n d_0_11 rfl ?_
    refine ev_iload_n d_0_12 rfl ?_
    refine ev_iastore (i := i) d_0_13 ha hs (vpi (by rw [e1]; rintro (h9 | h9); exact e2 h9; omega)) e1.symm ?_
    refine ev_iinc (lv' := [(2, .int (Int32.ofNat (i + 1))), (0, .ref a), (1, .int v), (3, .int (Int32.ofNat n))]) (v := Int32.ofNat (i + 1)) d_0_14 rfl e3 (by decide) rfl ?_
    refine ev_goto (tgt := 5) d_0_17 rfl ?_
    refine ev_sub (lv' := [(0, .ref a), (1, .int v), (2, .int (Int32.ofNat (i + 1))), (3, .int (Int32.ofNat n))]) (by simp) ?_
    rw [← fillF_step (show i < n by omega)]
    exact ev_fill_loop ha hs hn v d (i + 1) (by omega) _
theorem ev_fill {a n : Nat} (ha : a < N) (hs : shp a = .inr (0, n)) (hn : n < 100) (v : Int32) (σ : mmS) : Ev N L xs (0, 0, lv_args 0 [.ref a, .int v], [], 0, σ) (mmSV (sp_fill a n v σ)) := by
  show Ev N L xs (0, 0, [(0, .ref a), (1, .int v)], [], 0, σ) _
  refine ev_iconst d_0_0 ci_0 ?_
  refine ev_istore_n (lv' := [(2, .int (0 : Int32)), (0, .ref a), (1, .int v)]) d_0_1 (by decide) rfl ?_
  refine ev_aload_n d_0_2 rfl ?_
  refine ev_alen d_0_3 ha hs (by decide) ?_
  refine ev_istore_n (lv' := [(3, .int (Int32.ofNat n)), (2, .int (0 : Int32)), (0, .ref a), (1, .int v)]) d_0_4 (by decide) rfl ?_
  refine ev_sub (lv' := [(0, .ref a), (1, .int v), (2, .int (Int32.ofNat 0)), (3, .int (Int32.ofNat n))]) (by simp) ?_
  exact ev_fill_loop ha hs hn v n 0 (by omega) σ
end FL
