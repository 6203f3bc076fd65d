section SP
variable {N L : Nat} {xs : Nat → Int32}
def sp_m_limit (a0 : Int32) (a1 : Int32) (σ : mmS) : Int32 :=
if a0 ≤ a1 then
  if (-a1) ≤ a0 then
    a0
  else
    (-a1)
else
  a1
theorem ev_m_limit (hN : 65 ≤ N) (a0 : Int32) (a1 : Int32) (σ : mmS) : Ev N L xs (108, 0, lv_args 0 [.int a0, .int a1], [], 0, σ) ((mmPI σ) (sp_m_limit a0 a1 σ)) := by
  unfold sp_m_limit
  show Ev N L xs (108, 0, [(0, .int a0), (1, .int a1)], [], 0, σ) _
  refine ev_iload_n d_108_0 rfl ?_
  refine ev_iload_n d_108_1 rfl ?_
  refine ev_icmp_le (mmPI σ) (tgt := 9) d_108_2 rfl (fun _h2 => ?_) (fun _h2 => ?_)
  · refine ev_iload_n d_108_9 rfl ?_
    refine ev_iload_n d_108_10 rfl ?_
    refine ev_ineg (v := (-a1)) d_108_11 rfl ?_
    refine ev_icmp_ge (mmPI σ) (tgt := 20) d_108_12 rfl (fun _h12 => ?_) (fun _h12 => ?_)
    · refine ev_iload_n d_108_20 rfl ?_
      exact ev_iret d_108_21 rfl
    · refine ev_iload_n d_108_15 rfl ?_
      refine ev_ineg (v := (-a1)) d_108_16 rfl ?_
      refine ev_goto (tgt := 21) d_108_17 rfl ?_
      exact ev_iret d_108_21 rfl
  · refine ev_iload_n d_108_5 rfl ?_
    refine ev_goto (tgt := 21) d_108_6 rfl ?_
    exact ev_iret d_108_21 rfl
/-- what the reference's cells keep: a message that waits has a number to divide by; the cycles are small -/
def Jm (σ : mmS) : Prop := ∀ n, n < 4 → (σ.1 60 n = 0 ∨ ¬ σ.1 63 n = 0) ∧ ∃ c, c < 64 ∧ σ.1 50 n = Int32.ofNat c
theorem jm_I {σ : mmS} {k i : Nat} {v : Int32} (h : (k == 50 || k == 60 || k == 63) = false) (hJ : Jm σ) : Jm (mmI σ k i v) := by
  intro n hn
  have e : ∀ q, q = 50 ∨ q = 60 ∨ q = 63 → (mmI σ k i v).1 q = σ.1 q := by
    intro q hq
    show (if q = k then upd (σ.1 k) i v else σ.1 q) = σ.1 q
    rw [if_neg]
    rintro rfl
    rcases hq with rfl | rfl | rfl <;> exact absurd h (by decide)
  rw [e 50 (Or.inl rfl), e 60 (Or.inr (Or.inl rfl)), e 63 (Or.inr (Or.inr rfl))]
  exact hJ n hn
theorem jm_J {σ : mmS} {k i : Nat} {v : Int64} (hJ : Jm σ) : Jm (mmJ σ k i v) := hJ
theorem jm_c {σ : mmS} {i c : Nat} {v : Int32} (hc : c < 64) (hv : v = Int32.ofNat c) (hJ : Jm σ) : Jm (mmI σ 50 i v) := by
  intro n hn
  refine ⟨(hJ n hn).1, ?_⟩
  show ∃ c, c < 64 ∧ (upd (σ.1 50) i v) n = Int32.ofNat c
  by_cases h : n = i
  · subst h; exact ⟨c, hc, by rw [pk_us]; exact hv⟩
  · rw [pk_un h]; exact (hJ n hn).2
theorem jm_w {σ : mmS} {i : Nat} (hJ : Jm σ) : Jm (mmI σ 60 i 0) := by
  intro n hn
  refine ⟨?_, (hJ n hn).2⟩
  show (upd (σ.1 60) i 0) n = 0 ∨ _
  by_cases h : n = i
  · subst h; exact Or.inl pk_us
  · rw [pk_un h]; exact (hJ n hn).1
theorem jm_cs {σ : mmS} {a : Int32} (hJ : Jm σ) (hn : vp_in a 4) : ∃ c, c < 64 ∧ σ.1 50 a.toNatClampNeg = Int32.ofNat c := (hJ _ (n4_lt hn)).2
theorem c64 : ∀ c, c < 64 → (Int32.ofNat c - Int32.ofNat c / 2 * 2 = 0 ∨ Int32.ofNat c - Int32.ofNat c / 2 * 2 = 1) ∧ (¬ Int32.ofNat c = 63 → Int32.ofNat c + 1 = Int32.ofNat (c + 1) ∧ c + 1 < 64) := by decide +kernel
theorem jm_c1 {σ σ' : mmS} {a : Int32} {i : Nat} (hJ : Jm σ) (hn : vp_in a 4) (h : ¬ σ.1 50 a.toNatClampNeg = 63) (hJ' : Jm σ') : Jm (mmI σ' 50 i (σ.1 50 a.toNatClampNeg + 1)) := by
  obtain ⟨c, hc, hq⟩ := jm_cs hJ hn
  rw [hq] at h ⊢
  exact jm_c (c := c + 1) ((c64 c hc).2 h).2 ((c64 c hc).2 h).1 hJ'
theorem jm_c0 {σ : mmS} {i : Nat} (hJ : Jm σ) : Jm (mmI σ 50 i 0) := jm_c (c := 0) (by decide) rfl hJ
theorem jm_forget {σ : mmS} {a : Int32} (hJ : Jm σ) : Jm (sp_m_forget a σ) := by
  unfold sp_m_forget
  exact jm_I rfl (jm_I rfl (jm_I rfl (jm_I rfl (jm_I rfl (jm_I rfl (jm_I rfl (jm_I rfl hJ)))))))
theorem jm_listen {σ : mmS} {a : Int32} (hJ : Jm σ) : Jm (sp_m_listen a σ) := by
  unfold sp_m_listen
  exact jm_forget (jm_I rfl (jm_I rfl (jm_I rfl (jm_I rfl hJ))))
def sp_m_begin (a0 : Int32) (a1 : Int32) (a2 : Int32) (a3 : Int32) (a4 : Int32) (a5 : Int32) (σ : mmS) : mmS :=
(sp_m_forget a0 (mmI (mmI (mmI (mmI (mmI (mmI (mmI (mmI (mmI σ 44 a0.toNatClampNeg a1) 50 a0.toNatClampNeg a2) 49 a0.toNatClampNeg a3) 51 a0.toNatClampNeg a4) 53 a0.toNatClampNeg a4) 52 a0.toNatClampNeg (0 : Int32)) 54 a0.toNatClampNeg a5) 55 a0.toNatClampNeg (0 : Int32)) 56 a0.toNatClampNeg (0 : Int32)))
theorem ev_m_begin (hN : 65 ≤ N) (a0 : Int32) (a1 : Int32) (a2 : Int32) (a3 : Int32) (a4 : Int32) (a5 : Int32) (σ : mmS) (hn : vp_in a0 4) : Ev N L xs (105, 0, lv_args 0 [.ref 42, .int a0, .int a1, .int a2, .int a3, .int a4, .int a5], [], 0, σ) (mmSV (sp_m_begin a0 a1 a2 a3 a4 a5 σ)) := by
  unfold sp_m_begin
  show Ev N L xs (105, 0, [(0, .ref 42), (1, .int a0), (2, .int a1), (3, .int a2), (4, .int a3), (5, .int a4), (6, .int a5)], [], 0, σ) _
  refine ev_aload_n d_105_0 rfl ?_
  refine ev_getf (v := .ref 44) d_105_1 fl_7_13 (ltk (by decide) hN) rfl rfl ?_
  refine ev_iload_n d_105_4 rfl ?_
  refine ev_iload_n d_105_5 rfl ?_
  refine ev_iastore (i := a0.toNatClampNeg) d_105_6 (ltk (by decide) hN) rfl (by first | assumption | (rcases n4 hn with rfl | rfl | rfl | rfl <;> exact vpi (by decide))) rfl ?_
  refine ev_aload_n d_105_7 rfl ?_
  refine ev_getf (v := .ref 50) d_105_8 fl_7_31 (ltk (by decide) hN) rfl rfl ?_
  refine ev_iload_n d_105_11 rfl ?_
  refine ev_iload_n d_105_12 rfl ?_
  refine ev_iastore (i := a0.toNatClampNeg) d_105_13 (ltk (by decide) hN) rfl (by first | assumption | (rcases n4 hn with rfl | rfl | rfl | rfl <;> exact vpi (by decide))) rfl ?_
  refine ev_aload_n d_105_14 rfl ?_
  refine ev_getf (v := .ref 49) d_105_15 fl_7_28 (ltk (by decide) hN) rfl rfl ?_
  refine ev_iload_n d_105_18 rfl ?_
  refine ev_iload d_105_19 rfl ?_
  refine ev_iastore (i := a0.toNatClampNeg) d_105_21 (ltk (by decide) hN) rfl (by first | assumption | (rcases n4 hn with rfl | rfl | rfl | rfl <;> exact vpi (by decide))) rfl ?_
  refine ev_aload_n d_105_22 rfl ?_
  refine ev_getf (v := .ref 51) d_105_23 fl_7_34 (ltk (by decide) hN) rfl rfl ?_
  refine ev_iload_n d_105_26 rfl ?_
  refine ev_iload d_105_27 rfl ?_
  refine ev_iastore (i := a0.toNatClampNeg) d_105_29 (ltk (by decide) hN) rfl (by first | assumption | (rcases n4 hn with rfl | rfl | rfl | rfl <;> exact vpi (by decide))) rfl ?_
  refine ev_aload_n d_105_30 rfl ?_
  refine ev_getf (v := .ref 53) d_105_31 fl_7_40 (ltk (by decide) hN) rfl rfl ?_
  refine ev_iload_n d_105_34 rfl ?_
  refine ev_iload d_105_35 rfl ?_
  refine ev_iastore (i := a0.toNatClampNeg) d_105_37 (ltk (by decide) hN) rfl (by first | assumption | (rcases n4 hn with rfl | rfl | rfl | rfl <;> exact vpi (by decide))) rfl ?_
  refine ev_aload_n d_105_38 rfl ?_
  refine ev_getf (v := .ref 52) d_105_39 fl_7_37 (ltk (by decide) hN) rfl rfl ?_
  refine ev_iload_n d_105_42 rfl ?_
  refine ev_iconst d_105_43 ci_0 ?_
  refine ev_iastore (i := a0.toNatClampNeg) d_105_44 (ltk (by decide) hN) rfl (by first | assumption | (rcases n4 hn with rfl | rfl | rfl | rfl <;> exact vpi (by decide))) rfl ?_
  refine ev_aload_n d_105_45 rfl ?_
  refine ev_getf (v := .ref 54) d_105_46 fl_7_43 (ltk (by decide) hN) rfl rfl ?_
  refine ev_iload_n d_105_49 rfl ?_
  refine ev_iload d_105_50 rfl ?_
  refine ev_iastore (i := a0.toNatClampNeg) d_105_52 (ltk (by decide) hN) rfl (by first | assumption | (rcases n4 hn with rfl | rfl | rfl | rfl <;> exact vpi (by decide))) rfl ?_
  refine ev_aload_n d_105_53 rfl ?_
  refine ev_getf (v := .ref 55) d_105_54 fl_7_46 (ltk (by decide) hN) rfl rfl ?_
  refine ev_iload_n d_105_57 rfl ?_
  refine ev_iconst d_105_58 ci_0 ?_
  refine ev_iastore (i := a0.toNatClampNeg) d_105_59 (ltk (by decide) hN) rfl (by first | assumption | (rcases n4 hn with rfl | rfl | rfl | rfl <;> exact vpi (by decide))) rfl ?_
  refine ev_aload_n d_105_60 rfl ?_
  refine ev_getf (v := .ref 56) d_105_61 fl_7_49 (ltk (by decide) hN) rfl rfl ?_
  refine ev_iload_n d_105_64 rfl ?_
  refine ev_iconst d_105_65 ci_0 ?_
  refine ev_bastore (i := a0.toNatClampNeg) (u := (0 : Int32)) d_105_66 (ltk (by decide) hN) rfl (by first | assumption | (rcases n4 hn with rfl | rfl | rfl | rfl <;> exact vpi (by decide))) rfl (by decide) ?_
  refine ev_aload_n d_105_67 rfl ?_
  refine ev_iload_n d_105_68 rfl ?_
  refine ev_cvV (As := [.int a0]) (t := []) (e' := 0) d_105_69 ml_7_77 rfl rfl rfl rfl rfl (by decide) rfl (ltk (by decide) hN) rfl rfl rfl (ev_m_forget hN a0 (mmI (mmI (mmI (mmI (mmI (mmI (mmI (mmI (mmI σ 44 a0.toNatClampNeg a1) 50 a0.toNatClampNeg a2) 49 a0.toNatClampNeg a3) 51 a0.toNatClampNeg a4) 53 a0.toNatClampNeg a4) 52 a0.toNatClampNeg (0 : Int32)) 54 a0.toNatClampNeg a5) 55 a0.toNatClampNeg (0 : Int32)) 56 a0.toNatClampNeg (0 : Int32)) hn) ?_
  exact ev_vret d_105_72 rfl
theorem jm_begin {σ : mmS} {a s c m r k : Int32} (hc : ∃ q, q < 64 ∧ c = Int32.ofNat q) (hJ : Jm σ) : Jm (sp_m_begin a s c m r k σ) := by
  obtain ⟨q, hq, e⟩ := hc
  unfold sp_m_begin
  refine jm_forget ?_
  repeat' (first | exact hJ | exact jm_c hq e (jm_I rfl hJ) | refine jm_I rfl ?_)
theorem natk : ∀ M, M < 6 → ∀ k, k < M → ¬ Int32.ofNat M ≤ Int32.ofNat k ∧ Int32.ofNat k + Int32.ofInt 1 = Int32.ofNat (k + 1) ∧ k = (Int32.ofNat k).toNatClampNeg ∧ ¬ (Int32.ofNat k < 0 ∨ 5 ≤ (Int32.ofNat k).toNatClampNeg) := by decide +kernel
theorem natM : ∀ M, M < 6 → Int32.ofNat M ≤ Int32.ofNat M ∧ (Int32.ofNat M).toNatClampNeg = M := by decide +kernel
def mdB (σ : mmS) (l h : Int32) : Nat → Nat → Int32 → Int32 → Int32
  | 0, _, a, b => (a + b) / 2
  | d + 1, k, a, b =>
    if (Int32.ofNat k) = l then
      (mdB σ l h d (k + 1) a b)
    else
      if (Int32.ofNat k) = h then
        (mdB σ l h d (k + 1) a b)
      else
        if a ≤ (σ.1 64 k) then
          if (σ.1 64 k) ≤ b then
            (mdB σ l h d (k + 1) a b)
          else
            (mdB σ l h d (k + 1) a (σ.1 64 k))
        else
          if (σ.1 64 k) ≤ b then
            (mdB σ l h d (k + 1) (σ.1 64 k) b)
          else
            (mdB σ l h d (k + 1) (σ.1 64 k) (σ.1 64 k))
theorem ev_mdB (hN : 65 ≤ N) (σ : mmS) (l h : Int32) (M : Nat) (hM5 : M < 6) (hM : σ.1 42 28 = Int32.ofNat M) : ∀ d k, k + d = M → ∀ a b : Int32, Ev N L xs (107, 98, [(0, .ref 42), (1, .int l), (2, .int h), (3, .int a), (4, .int b), (5, .int (Int32.ofNat k))], [], 0, σ) (mmPI σ (mdB σ l h d k a b))
  | 0, k, hk, a, b => by
    have hi : k = M := by omega
    subst hi
    unfold mdB
    refine ev_iload d_107_98 rfl ?_
    refine ev_aload_n d_107_100 rfl ?_
    refine ev_getf (v := .int (σ.1 42 28)) d_107_101 fl_7_113 (ltk (by decide) hN) rfl rfl ?_
    refine ev_icmpT (tgt := 191) d_107_104 rfl (show σ.1 42 28 ≤ Int32.ofNat k by rw [hM]; exact (natM k hM5).1) ?_
    refine ev_iload_n d_107_191 rfl ?_
    refine ev_iload d_107_192 rfl ?_
    refine ev_iadd (v := (a + b)) d_107_194 rfl ?_
    refine ev_iconst d_107_195 ci_2 ?_
    refine ev_idiv (v := ((a + b) / 2)) d_107_196 (by decide) rfl ?_
    exact ev_iret d_107_197 rfl
  | d + 1, k, hk, a, b => by
    unfold mdB
    refine ev_iload d_107_98 rfl ?_
    refine ev_aload_n d_107_100 rfl ?_
    refine ev_getf (v := .int (σ.1 42 28)) d_107_101 fl_7_113 (ltk (by decide) hN) rfl rfl ?_
    refine ev_icmpF (tgt := 191) d_107_104 rfl (by rw [hM]; exact (natk M hM5 k (by omega)).1) ?_
    refine ev_iload d_107_107 rfl ?_
    refine ev_iload_n d_107_109 rfl ?_
    refine ev_icmp_eq (mmPI σ) (tgt := 123) d_107_110 rfl (fun _h110 => ?_) (fun _h110 => ?_)
    · refine ev_iconst d_107_123 ci_0 ?_
      refine ev_istore (lv' := [(6, .int (0 : Int32)), (0, .ref 42), (1, .int l), (2, .int h), (3, .int a), (4, .int b), (5, .int (Int32.ofNat k))]) d_107_124 (by decide) rfl ?_
      refine ev_iload d_107_126 rfl ?_
      refine ev_ifT (tgt := 152) d_107_128 rfl (show (0 : Int32) = (0 : Int32) by decide) ?_
      refine ev_iload_n d_107_152 rfl ?_
      refine ev_istore_n (lv' := [(3, .int a), (6, .int (0 : Int32)), (0, .ref 42), (1, .int l), (2, .int h), (4, .int b), (5, .int (Int32.ofNat k))]) d_107_153 (by decide) rfl ?_
      refine ev_iload d_107_154 rfl ?_
      refine ev_ifT (tgt := 181) d_107_156 rfl (show (0 : Int32) = (0 : Int32) by decide) ?_
      refine ev_iload d_107_181 rfl ?_
      refine ev_istore (lv' := [(4, .int b), (3, .int a), (6, .int (0 : Int32)), (0, .ref 42), (1, .int l), (2, .int h), (5, .int (Int32.ofNat k))]) d_107_183 (by decide) rfl ?_
      refine ev_iinc (lv' := [(5, .int (Int32.ofNat (k + 1))), (4, .int b), (3, .int a), (6, .int (0 : Int32)), (0, .ref 42), (1, .int l), (2, .int h)]) (v := (Int32.ofNat (k + 1))) d_107_185 rfl (natk M hM5 k (by omega)).2.1 (by decide) rfl ?_
      refine ev_goto (tgt := 98) d_107_188 rfl ?_
      refine ev_sub (lv' := [(0, .ref 42), (1, .int l), (2, .int h), (3, .int a), (4, .int b), (5, .int (Int32.ofNat (k + 1)))]) (by simp) ?_
      exact ev_mdB hN σ l h M hM5 hM d (k + 1) (by omega) a b
    · refine ev_iload d_107_113 rfl ?_
      refine ev_iload_n d_107_115 rfl ?_
      refine ev_icmp_eq (mmPI σ) (tgt := 123) d_107_116 rfl (fun _h116 => ?_) (fun _h116 => ?_)
      · refine ev_iconst d_107_123 ci_0 ?_
        refine ev_istore (lv' := [(6, .int (0 : Int32)), (0, .ref 42), (1, .int l), (2, .int h), (3, .int a), (4, .int b), (5, .int (Int32.ofNat k))]) d_107_124 (by decide) rfl ?_
        refine ev_iload d_107_126 rfl ?_
        refine ev_ifT (tgt := 152) d_107_128 rfl (show (0 : Int32) = (0 : Int32) by decide) ?_
        refine ev_iload_n d_107_152 rfl ?_
        refine ev_istore_n (lv' := [(3, .int a), (6, .int (0 : Int32)), (0, .ref 42), (1, .int l), (2, .int h), (4, .int b), (5, .int (Int32.ofNat k))]) d_107_153 (by decide) rfl ?_
        refine ev_iload d_107_154 rfl ?_
        refine ev_ifT (tgt := 181) d_107_156 rfl (show (0 : Int32) = (0 : Int32) by decide) ?_
        refine ev_iload d_107_181 rfl ?_
        refine ev_istore (lv' := [(4, .int b), (3, .int a), (6, .int (0 : Int32)), (0, .ref 42), (1, .int l), (2, .int h), (5, .int (Int32.ofNat k))]) d_107_183 (by decide) rfl ?_
        refine ev_iinc (lv' := [(5, .int (Int32.ofNat (k + 1))), (4, .int b), (3, .int a), (6, .int (0 : Int32)), (0, .ref 42), (1, .int l), (2, .int h)]) (v := (Int32.ofNat (k + 1))) d_107_185 rfl (natk M hM5 k (by omega)).2.1 (by decide) rfl ?_
        refine ev_goto (tgt := 98) d_107_188 rfl ?_
        refine ev_sub (lv' := [(0, .ref 42), (1, .int l), (2, .int h), (3, .int a), (4, .int b), (5, .int (Int32.ofNat (k + 1)))]) (by simp) ?_
        exact ev_mdB hN σ l h M hM5 hM d (k + 1) (by omega) a b
      · refine ev_iconst d_107_119 ci_1 ?_
        refine ev_goto (tgt := 124) d_107_120 rfl ?_
        refine ev_istore (lv' := [(6, .int (1 : Int32)), (0, .ref 42), (1, .int l), (2, .int h), (3, .int a), (4, .int b), (5, .int (Int32.ofNat k))]) d_107_124 (by decide) rfl ?_
        refine ev_iload d_107_126 rfl ?_
        refine ev_ifF (tgt := 152) d_107_128 rfl (show ¬ ((1 : Int32) = (0 : Int32)) by decide) ?_
        refine ev_aload_n d_107_131 rfl ?_
        refine ev_getf (v := .ref 64) d_107_132 fl_7_74 (ltk (by decide) hN) rfl rfl ?_
        refine ev_iload d_107_135 rfl ?_
        refine ev_iald (i := k) d_107_137 (ltk (by decide) hN) rfl (vpi (natk M hM5 k (by omega)).2.2.2) (natk M hM5 k (by omega)).2.2.1 ?_
        refine ev_iload_n d_107_138 rfl ?_
        refine ev_icmp_ge (mmPI σ) (tgt := 152) d_107_139 rfl (fun _h139 => ?_) (fun _h139 => ?_)
        · refine ev_iload_n d_107_152 rfl ?_
          refine ev_istore_n (lv' := [(3, .int a), (6, .int (1 : Int32)), (0, .ref 42), (1, .int l), (2, .int h), (4, .int b), (5, .int (Int32.ofNat k))]) d_107_153 (by decide) rfl ?_
          refine ev_iload d_107_154 rfl ?_
          refine ev_ifF (tgt := 181) d_107_156 rfl (show ¬ ((1 : Int32) = (0 : Int32)) by decide) ?_
          refine ev_aload_n d_107_159 rfl ?_
          refine ev_getf (v := .ref 64) d_107_160 fl_7_74 (ltk (by decide) hN) rfl rfl ?_
          refine ev_iload d_107_163 rfl ?_
          refine ev_iald (i := k) d_107_165 (ltk (by decide) hN) rfl (vpi (natk M hM5 k (by omega)).2.2.2) (natk M hM5 k (by omega)).2.2.1 ?_
          refine ev_iload d_107_166 rfl ?_
          refine ev_icmp_le (mmPI σ) (tgt := 181) d_107_168 rfl (fun _h168 => ?_) (fun _h168 => ?_)
          · refine ev_iload d_107_181 rfl ?_
            refine ev_istore (lv' := [(4, .int b), (3, .int a), (6, .int (1 : Int32)), (0, .ref 42), (1, .int l), (2, .int h), (5, .int (Int32.ofNat k))]) d_107_183 (by decide) rfl ?_
            refine ev_iinc (lv' := [(5, .int (Int32.ofNat (k + 1))), (4, .int b), (3, .int a), (6, .int (1 : Int32)), (0, .ref 42), (1, .int l), (2, .int h)]) (v := (Int32.ofNat (k + 1))) d_107_185 rfl (natk M hM5 k (by omega)).2.1 (by decide) rfl ?_
            refine ev_goto (tgt := 98) d_107_188 rfl ?_
            refine ev_sub (lv' := [(0, .ref 42), (1, .int l), (2, .int h), (3, .int a), (4, .int b), (5, .int (Int32.ofNat (k + 1)))]) (by simp) ?_
            exact ev_mdB hN σ l h M hM5 hM d (k + 1) (by omega) a b
          · refine ev_aload_n d_107_171 rfl ?_
            refine ev_getf (v := .ref 64) d_107_172 fl_7_74 (ltk (by decide) hN) rfl rfl ?_
            refine ev_iload d_107_175 rfl ?_
            refine ev_iald (i := k) d_107_177 (ltk (by decide) hN) rfl (vpi (natk M hM5 k (by omega)).2.2.2) (natk M hM5 k (by omega)).2.2.1 ?_
            refine ev_goto (tgt := 183) d_107_178 rfl ?_
            refine ev_istore (lv' := [(4, .int (σ.1 64 k)), (3, .int a), (6, .int (1 : Int32)), (0, .ref 42), (1, .int l), (2, .int h), (5, .int (Int32.ofNat k))]) d_107_183 (by decide) rfl ?_
            refine ev_iinc (lv' := [(5, .int (Int32.ofNat (k + 1))), (4, .int (σ.1 64 k)), (3, .int a), (6, .int (1 : Int32)), (0, .ref 42), (1, .int l), (2, .int h)]) (v := (Int32.ofNat (k + 1))) d_107_185 rfl (natk M hM5 k (by omega)).2.1 (by decide) rfl ?_
            refine ev_goto (tgt := 98) d_107_188 rfl ?_
            refine ev_sub (lv' := [(0, .ref 42), (1, .int l), (2, .int h), (3, .int a), (4, .int (σ.1 64 k)), (5, .int (Int32.ofNat (k + 1)))]) (by simp) ?_
            exact ev_mdB hN σ l h M hM5 hM d (k + 1) (by omega) a (σ.1 64 k)
        · refine ev_aload_n d_107_142 rfl ?_
          refine ev_getf (v := .ref 64) d_107_143 fl_7_74 (ltk (by decide) hN) rfl rfl ?_
          refine ev_iload d_107_146 rfl ?_
          refine ev_iald (i := k) d_107_148 (ltk (by decide) hN) rfl (vpi (natk M hM5 k (by omega)).2.2.2) (natk M hM5 k (by omega)).2.2.1 ?_
          refine ev_goto (tgt := 153) d_107_149 rfl ?_
          refine ev_istore_n (lv' := [(3, .int (σ.1 64 k)), (6, .int (1 : Int32)), (0, .ref 42), (1, .int l), (2, .int h), (4, .int b), (5, .int (Int32.ofNat k))]) d_107_153 (by decide) rfl ?_
          refine ev_iload d_107_154 rfl ?_
          refine ev_ifF (tgt := 181) d_107_156 rfl (show ¬ ((1 : Int32) = (0 : Int32)) by decide) ?_
          refine ev_aload_n d_107_159 rfl ?_
          refine ev_getf (v := .ref 64) d_107_160 fl_7_74 (ltk (by decide) hN) rfl rfl ?_
          refine ev_iload d_107_163 rfl ?_
          refine ev_iald (i := k) d_107_165 (ltk (by decide) hN) rfl (vpi (natk M hM5 k (by omega)).2.2.2) (natk M hM5 k (by omega)).2.2.1 ?_
          refine ev_iload d_107_166 rfl ?_
          refine ev_icmp_le (mmPI σ) (tgt := 181) d_107_168 rfl (fun _h168 => ?_) (fun _h168 => ?_)
          · refine ev_iload d_107_181 rfl ?_
            refine ev_istore (lv' := [(4, .int b), (3, .int (σ.1 64 k)), (6, .int (1 : Int32)), (0, .ref 42), (1, .int l), (2, .int h), (5, .int (Int32.ofNat k))]) d_107_183 (by decide) rfl ?_
            refine ev_iinc (lv' := [(5, .int (Int32.ofNat (k + 1))), (4, .int b), (3, .int (σ.1 64 k)), (6, .int (1 : Int32)), (0, .ref 42), (1, .int l), (2, .int h)]) (v := (Int32.ofNat (k + 1))) d_107_185 rfl (natk M hM5 k (by omega)).2.1 (by decide) rfl ?_
            refine ev_goto (tgt := 98) d_107_188 rfl ?_
            refine ev_sub (lv' := [(0, .ref 42), (1, .int l), (2, .int h), (3, .int (σ.1 64 k)), (4, .int b), (5, .int (Int32.ofNat (k + 1)))]) (by simp) ?_
            exact ev_mdB hN σ l h M hM5 hM d (k + 1) (by omega) (σ.1 64 k) b
          · refine ev_aload_n d_107_171 rfl ?_
            refine ev_getf (v := .ref 64) d_107_172 fl_7_74 (ltk (by decide) hN) rfl rfl ?_
            refine ev_iload d_107_175 rfl ?_
            refine ev_iald (i := k) d_107_177 (ltk (by decide) hN) rfl (vpi (natk M hM5 k (by omega)).2.2.2) (natk M hM5 k (by omega)).2.2.1 ?_
            refine ev_goto (tgt := 183) d_107_178 rfl ?_
            refine ev_istore (lv' := [(4, .int (σ.1 64 k)), (3, .int (σ.1 64 k)), (6, .int (1 : Int32)), (0, .ref 42), (1, .int l), (2, .int h), (5, .int (Int32.ofNat k))]) d_107_183 (by decide) rfl ?_
            refine ev_iinc (lv' := [(5, .int (Int32.ofNat (k + 1))), (4, .int (σ.1 64 k)), (3, .int (σ.1 64 k)), (6, .int (1 : Int32)), (0, .ref 42), (1, .int l), (2, .int h)]) (v := (Int32.ofNat (k + 1))) d_107_185 rfl (natk M hM5 k (by omega)).2.1 (by decide) rfl ?_
            refine ev_goto (tgt := 98) d_107_188 rfl ?_
            refine ev_sub (lv' := [(0, .ref 42), (1, .int l), (2, .int h), (3, .int (σ.1 64 k)), (4, .int (σ.1 64 k)), (5, .int (Int32.ofNat (k + 1)))]) (by simp) ?_
            exact ev_mdB hN σ l h M hM5 hM d (k + 1) (by omega) (σ.1 64 k) (σ.1 64 k)
def sp_m_mid62 (l h : Int32) (σ : mmS) : Int32 :=
if (3 : Int32) ≤ (σ.1 42 28) then
  (mdB σ l h (σ.1 42 28).toNatClampNeg 0 1000 (-1000))
else
  (((σ.1 64 l.toNatClampNeg) + (σ.1 64 h.toNatClampNeg)) / (2 : Int32))
theorem ev_m_mid62 (hN : 65 ≤ N) (σ : mmS) (l h : Int32) (hl : vp_in l 5) (hh : vp_in h 5) (M : Nat) (hM5 : M < 6) (hM : σ.1 42 28 = Int32.ofNat M) : Ev N L xs (107, 62, [(0, .ref 42), (1, .int l), (2, .int h)], [], 0, σ) (mmPI σ (sp_m_mid62 l h σ)) := by
  unfold sp_m_mid62
  refine ev_aload_n d_107_62 rfl ?_
  refine ev_getf (v := .int (σ.1 42 28)) d_107_63 fl_7_113 (ltk (by decide) hN) rfl rfl ?_
  refine ev_iconst d_107_66 ci_3 ?_
  refine ev_icmp_ge (mmPI σ) (tgt := 86) d_107_67 rfl (fun _h67 => ?_) (fun _h67 => ?_)
  · refine ev_sipush d_107_86 cs_1000 ?_
    refine ev_istore_n (lv' := [(3, .int (1000 : Int32)), (0, .ref 42), (1, .int l), (2, .int h)]) d_107_89 (by decide) rfl ?_
    refine ev_sipush d_107_90 cs_m1000 ?_
    refine ev_istore (lv' := [(4, .int (-1000 : Int32)), (3, .int (1000 : Int32)), (0, .ref 42), (1, .int l), (2, .int h)]) d_107_93 (by decide) rfl ?_
    refine ev_iconst d_107_95 ci_0 ?_
    refine ev_istore (lv' := [(5, .int (0 : Int32)), (4, .int (-1000 : Int32)), (3, .int (1000 : Int32)), (0, .ref 42), (1, .int l), (2, .int h)]) d_107_96 (by decide) rfl ?_
    refine ev_sub (lv' := [(0, .ref 42), (1, .int l), (2, .int h), (3, .int (1000 : Int32)), (4, .int (-1000 : Int32)), (5, .int (0 : Int32))]) (by simp) ?_
    have h9 := ev_mdB (L := L) (xs := xs) hN σ l h M hM5 hM M 0 (by omega) 1000 (-1000)
    rw [hM, (natM M hM5).2]
    exact h9
  · refine ev_aload_n d_107_70 rfl ?_
    refine ev_getf (v := .ref 64) d_107_71 fl_7_74 (ltk (by decide) hN) rfl rfl ?_
    refine ev_iload_n d_107_74 rfl ?_
    refine ev_iald (i := l.toNatClampNeg) d_107_75 (ltk (by decide) hN) rfl hl rfl ?_
    refine ev_aload_n d_107_76 rfl ?_
    refine ev_getf (v := .ref 64) d_107_77 fl_7_74 (ltk (by decide) hN) rfl rfl ?_
    refine ev_iload_n d_107_80 rfl ?_
    refine ev_iald (i := h.toNatClampNeg) d_107_81 (ltk (by decide) hN) rfl hh rfl ?_
    refine ev_iadd (v := ((σ.1 64 l.toNatClampNeg) + (σ.1 64 h.toNatClampNeg))) d_107_82 rfl ?_
    refine ev_iconst d_107_83 ci_2 ?_
    refine ev_idiv (v := (((σ.1 64 l.toNatClampNeg) + (σ.1 64 h.toNatClampNeg)) / (2 : Int32))) d_107_84 (by decide) rfl ?_
    exact ev_iret d_107_85 rfl
def mdA (σ : mmS) : Nat → Nat → Int32 → Int32 → Int32
  | 0, _, l, h => sp_m_mid62 l h σ
  | d + 1, k, l, h =>
    if (σ.1 64 l.toNatClampNeg) ≤ (σ.1 64 k) then
      if (σ.1 64 k) < (σ.1 64 h.toNatClampNeg) then
        (mdA σ d (k + 1) l h)
      else
        (mdA σ d (k + 1) l (Int32.ofNat k))
    else
      if (σ.1 64 k) < (σ.1 64 h.toNatClampNeg) then
        (mdA σ d (k + 1) (Int32.ofNat k) h)
      else
        (mdA σ d (k + 1) (Int32.ofNat k) (Int32.ofNat k))
theorem ev_mdA (hN : 65 ≤ N) (σ : mmS) (M : Nat) (hM5 : M < 6) (hM : σ.1 42 28 = Int32.ofNat M) : ∀ d k, k + d = M → ∀ l h : Int32, vp_in l 5 → vp_in h 5 → Ev N L xs (107, 6, [(0, .ref 42), (1, .int l), (2, .int h), (3, .int (Int32.ofNat k))], [], 0, σ) (mmPI σ (mdA σ d k l h))
  | 0, k, hk, l, h, hl, hh => by
    have hi : k = M := by omega
    subst hi
    unfold mdA
    refine ev_iload_n d_107_6 rfl ?_
    refine ev_aload_n d_107_7 rfl ?_
    refine ev_getf (v := .int (σ.1 42 28)) d_107_8 fl_7_113 (ltk (by decide) hN) rfl rfl ?_
    refine ev_icmpT (tgt := 62) d_107_11 rfl (show σ.1 42 28 ≤ Int32.ofNat k by rw [hM]; exact (natM k hM5).1) ?_
    refine ev_sub (lv' := [(0, .ref 42), (1, .int l), (2, .int h)]) (by simp) ?_
    exact ev_m_mid62 hN σ l h hl hh k hM5 hM
  | d + 1, k, hk, l, h, hl, hh => by
    unfold mdA
    refine ev_iload_n d_107_6 rfl ?_
    refine ev_aload_n d_107_7 rfl ?_
    refine ev_getf (v := .int (σ.1 42 28)) d_107_8 fl_7_113 (ltk (by decide) hN) rfl rfl ?_
    refine ev_icmpF (tgt := 62) d_107_11 rfl (by rw [hM]; exact (natk M hM5 k (by omega)).1) ?_
    refine ev_aload_n d_107_14 rfl ?_
    refine ev_getf (v := .ref 64) d_107_15 fl_7_74 (ltk (by decide) hN) rfl rfl ?_
    refine ev_iload_n d_107_18 rfl ?_
    refine ev_iald (i := k) d_107_19 (ltk (by decide) hN) rfl (vpi (natk M hM5 k (by omega)).2.2.2) (natk M hM5 k (by omega)).2.2.1 ?_
    refine ev_aload_n d_107_20 rfl ?_
    refine ev_getf (v := .ref 64) d_107_21 fl_7_74 (ltk (by decide) hN) rfl rfl ?_
    refine ev_iload_n d_107_24 rfl ?_
    refine ev_iald (i := l.toNatClampNeg) d_107_25 (ltk (by decide) hN) rfl hl rfl ?_
    refine ev_icmp_ge (mmPI σ) (tgt := 33) d_107_26 rfl (fun _h26 => ?_) (fun _h26 => ?_)
    · refine ev_iload_n d_107_33 rfl ?_
      refine ev_istore_n (lv' := [(1, .int l), (0, .ref 42), (2, .int h), (3, .int (Int32.ofNat k))]) d_107_34 (by decide) rfl ?_
      refine ev_aload_n d_107_35 rfl ?_
      refine ev_getf (v := .ref 64) d_107_36 fl_7_74 (ltk (by decide) hN) rfl rfl ?_
      refine ev_iload_n d_107_39 rfl ?_
      refine ev_iald (i := k) d_107_40 (ltk (by decide) hN) rfl (vpi (natk M hM5 k (by omega)).2.2.2) (natk M hM5 k (by omega)).2.2.1 ?_
      refine ev_aload_n d_107_41 rfl ?_
      refine ev_getf (v := .ref 64) d_107_42 fl_7_74 (ltk (by decide) hN) rfl rfl ?_
      refine ev_iload_n d_107_45 rfl ?_
      refine ev_iald (i := h.toNatClampNeg) d_107_46 (ltk (by decide) hN) rfl hh rfl ?_
      refine ev_icmp_lt (mmPI σ) (tgt := 54) d_107_47 rfl (fun _h47 => ?_) (fun _h47 => ?_)
      · refine ev_iload_n d_107_54 rfl ?_
        refine ev_istore_n (lv' := [(2, .int h), (1, .int l), (0, .ref 42), (3, .int (Int32.ofNat k))]) d_107_55 (by decide) rfl ?_
        refine ev_iinc (lv' := [(3, .int (Int32.ofNat (k + 1))), (2, .int h), (1, .int l), (0, .ref 42)]) (v := (Int32.ofNat (k + 1))) d_107_56 rfl (natk M hM5 k (by omega)).2.1 (by decide) rfl ?_
        refine ev_goto (tgt := 6) d_107_59 rfl ?_
        refine ev_sub (lv' := [(0, .ref 42), (1, .int l), (2, .int h), (3, .int (Int32.ofNat (k + 1)))]) (by simp) ?_
        exact ev_mdA hN σ M hM5 hM d (k + 1) (by omega) l h (by first | assumption | exact vpi (natk M hM5 k (by omega)).2.2.2) (by first | assumption | exact vpi (natk M hM5 k (by omega)).2.2.2)
      · refine ev_iload_n d_107_50 rfl ?_
        refine ev_goto (tgt := 55) d_107_51 rfl ?_
        refine ev_istore_n (lv' := [(2, .int (Int32.ofNat k)), (1, .int l), (0, .ref 42), (3, .int (Int32.ofNat k))]) d_107_55 (by decide) rfl ?_
        refine ev_iinc (lv' := [(3, .int (Int32.ofNat (k + 1))), (2, .int (Int32.ofNat k)), (1, .int l), (0, .ref 42)]) (v := (Int32.ofNat (k + 1))) d_107_56 rfl (natk M hM5 k (by omega)).2.1 (by decide) rfl ?_
        refine ev_goto (tgt := 6) d_107_59 rfl ?_
        refine ev_sub (lv' := [(0, .ref 42), (1, .int l), (2, .int (Int32.ofNat k)), (3, .int (Int32.ofNat (k + 1)))]) (by simp) ?_
        exact ev_mdA hN σ M hM5 hM d (k + 1) (by omega) l (Int32.ofNat k) (by first | assumption | exact vpi (natk M hM5 k (by omega)).2.2.2) (by first | assumption | exact vpi (natk M hM5 k (by omega)).2.2.2)
    · refine ev_iload_n d_107_29 rfl ?_
      refine ev_goto (tgt := 34) d_107_30 rfl ?_
      refine ev_istore_n (lv' := [(1, .int (Int32.ofNat k)), (0, .ref 42), (2, .int h), (3, .int (Int32.ofNat k))]) d_107_34 (by decide) rfl ?_
      refine ev_aload_n d_107_35 rfl ?_
      refine ev_getf (v := .ref 64) d_107_36 fl_7_74 (ltk (by decide) hN) rfl rfl ?_
      refine ev_iload_n d_107_39 rfl ?_
      refine ev_iald (i := k) d_107_40 (ltk (by decide) hN) rfl (vpi (natk M hM5 k (by omega)).2.2.2) (natk M hM5 k (by omega)).2.2.1 ?_
      refine ev_aload_n d_107_41 rfl ?_
      refine ev_getf (v := .ref 64) d_107_42 fl_7_74 (ltk (by decide) hN) rfl rfl ?_
      refine ev_iload_n d_107_45 rfl ?_
      refine ev_iald (i := h.toNatClampNeg) d_107_46 (ltk (by decide) hN) rfl hh rfl ?_
      refine ev_icmp_lt (mmPI σ) (tgt := 54) d_107_47 rfl (fun _h47 => ?_) (fun _h47 => ?_)
      · refine ev_iload_n d_107_54 rfl ?_
        refine ev_istore_n (lv' := [(2, .int h), (1, .int (Int32.ofNat k)), (0, .ref 42), (3, .int (Int32.ofNat k))]) d_107_55 (by decide) rfl ?_
        refine ev_iinc (lv' := [(3, .int (Int32.ofNat (k + 1))), (2, .int h), (1, .int (Int32.ofNat k)), (0, .ref 42)]) (v := (Int32.ofNat (k + 1))) d_107_56 rfl (natk M hM5 k (by omega)).2.1 (by decide) rfl ?_
        refine ev_goto (tgt := 6) d_107_59 rfl ?_
        refine ev_sub (lv' := [(0, .ref 42), (1, .int (Int32.ofNat k)), (2, .int h), (3, .int (Int32.ofNat (k + 1)))]) (by simp) ?_
        exact ev_mdA hN σ M hM5 hM d (k + 1) (by omega) (Int32.ofNat k) h (by first | assumption | exact vpi (natk M hM5 k (by omega)).2.2.2) (by first | assumption | exact vpi (natk M hM5 k (by omega)).2.2.2)
      · refine ev_iload_n d_107_50 rfl ?_
        refine ev_goto (tgt := 55) d_107_51 rfl ?_
        refine ev_istore_n (lv' := [(2, .int (Int32.ofNat k)), (1, .int (Int32.ofNat k)), (0, .ref 42), (3, .int (Int32.ofNat k))]) d_107_55 (by decide) rfl ?_
        refine ev_iinc (lv' := [(3, .int (Int32.ofNat (k + 1))), (2, .int (Int32.ofNat k)), (1, .int (Int32.ofNat k)), (0, .ref 42)]) (v := (Int32.ofNat (k + 1))) d_107_56 rfl (natk M hM5 k (by omega)).2.1 (by decide) rfl ?_
        refine ev_goto (tgt := 6) d_107_59 rfl ?_
        refine ev_sub (lv' := [(0, .ref 42), (1, .int (Int32.ofNat k)), (2, .int (Int32.ofNat k)), (3, .int (Int32.ofNat (k + 1)))]) (by simp) ?_
        exact ev_mdA hN σ M hM5 hM d (k + 1) (by omega) (Int32.ofNat k) (Int32.ofNat k) (by first | assumption | exact vpi (natk M hM5 k (by omega)).2.2.2) (by first | assumption | exact vpi (natk M hM5 k (by omega)).2.2.2)
def mnK (k : Nat) (σ : mmS) : Prop := ∃ M, 1 ≤ M ∧ M ≤ k ∧ σ.1 42 28 = Int32.ofNat M
def sp_m_middle (σ : mmS) : Int32 :=
(mdA σ ((σ.1 42 28).toNatClampNeg - 1) 1 0 0)
theorem ev_m_middle (hN : 65 ≤ N) (σ : mmS) (hm : mnK 5 σ) : Ev N L xs (107, 0, lv_args 0 [.ref 42], [], 0, σ) ((mmPI σ) (sp_m_middle σ)) := by
  unfold sp_m_middle
  show Ev N L xs (107, 0, [(0, .ref 42)], [], 0, σ) _
  refine ev_iconst d_107_0 ci_0 ?_
  refine ev_istore_n (lv' := [(1, .int (0 : Int32)), (0, .ref 42)]) d_107_1 (by decide) rfl ?_
  refine ev_iconst d_107_2 ci_0 ?_
  refine ev_istore_n (lv' := [(2, .int (0 : Int32)), (1, .int (0 : Int32)), (0, .ref 42)]) d_107_3 (by decide) rfl ?_
  refine ev_iconst d_107_4 ci_1 ?_
  refine ev_istore_n (lv' := [(3, .int (1 : Int32)), (2, .int (0 : Int32)), (1, .int (0 : Int32)), (0, .ref 42)]) d_107_5 (by decide) rfl ?_
  refine ev_sub (lv' := [(0, .ref 42), (1, .int (0 : Int32)), (2, .int (0 : Int32)), (3, .int (1 : Int32))]) (by simp) ?_
  obtain ⟨M, h1, h5, hM⟩ := hm
  have h9 := ev_mdA (L := L) (xs := xs) hN σ M (by omega) hM (M - 1) 1 (by omega) 0 0 (vpi (by decide)) (vpi (by decide))
  rw [hM, (natM M (by omega)).2]
  exact h9
def sp_m_decide (a0 : Int32) (a1 : Int32) (σ : mmS) : mmS :=
if (σ.1 44 a0.toNatClampNeg) = (2 : Int32) then
  if a1 ≤ 0 then
    if (σ.1 50 a0.toNatClampNeg) < (11 : Int32) then
      σ
    else
      (sp_m_listen a0 σ)
  else
    (mmI σ 44 a0.toNatClampNeg (4 : Int32))
else
  if (σ.1 44 a0.toNatClampNeg) = (3 : Int32) then
    if (σ.1 54 a0.toNatClampNeg) = (-1 : Int32) then
      (mmI σ 54 a0.toNatClampNeg (0 : Int32))
    else
      if a1 = 0 then
        (sp_m_listen a0 σ)
      else
        if a0 < (2 : Int32) then
          if ((σ.1 54 a0.toNatClampNeg) + (1 : Int32)) = (2 : Int32) then
            (mmI (mmI σ 54 a0.toNatClampNeg ((σ.1 54 a0.toNatClampNeg) + (1 : Int32))) 44 a0.toNatClampNeg (4 : Int32))
          else
            (mmI σ 54 a0.toNatClampNeg ((σ.1 54 a0.toNatClampNeg) + (1 : Int32)))
        else
          if a1 ≤ (1 : Int32) then
            σ
          else
            if ((σ.1 54 a0.toNatClampNeg) + (1 : Int32)) = (2 : Int32) then
              (mmI (mmI σ 54 a0.toNatClampNeg ((σ.1 54 a0.toNatClampNeg) + (1 : Int32))) 44 a0.toNatClampNeg (4 : Int32))
            else
              (mmI σ 54 a0.toNatClampNeg ((σ.1 54 a0.toNatClampNeg) + (1 : Int32)))
  else
    if (σ.1 44 a0.toNatClampNeg) = (4 : Int32) then
      if a1 = 0 then
        (mmI (mmI σ 44 a0.toNatClampNeg (5 : Int32)) 54 a0.toNatClampNeg (1 : Int32))
      else
        σ
    else
      if a1 ≤ 0 then
        if ((σ.1 54 a0.toNatClampNeg) + (1 : Int32)) = (3 : Int32) then
          (mmI (mmI σ 54 a0.toNatClampNeg ((σ.1 54 a0.toNatClampNeg) + (1 : Int32))) 44 a0.toNatClampNeg (6 : Int32))
        else
          (mmI σ 54 a0.toNatClampNeg ((σ.1 54 a0.toNatClampNeg) + (1 : Int32)))
      else
        (mmI σ 44 a0.toNatClampNeg (4 : Int32))
theorem ev_m_decide (hN : 65 ≤ N) (a0 : Int32) (a1 : Int32) (σ : mmS) (hn : vp_in a0 4) : Ev N L xs (109, 0, lv_args 0 [.ref 42, .int a0, .int a1], [], 0, σ) (mmSV (sp_m_decide a0 a1 σ)) := by
  unfold sp_m_decide
  show Ev N L xs (109, 0, [(0, .ref 42), (1, .int a0), (2, .int a1)], [], 0, σ) _
  refine ev_aload_n d_109_0 rfl ?_
  refine ev_getf (v := .ref 44) d_109_1 fl_7_13 (ltk (by decide) hN) rfl rfl ?_
  refine ev_iload_n d_109_4 rfl ?_
  refine ev_iald (i := a0.toNatClampNeg) d_109_5 (ltk (by decide) hN) rfl (by first | assumption | (rcases n4 hn with rfl | rfl | rfl | rfl <;> exact vpi (by decide))) rfl ?_
  refine ev_iconst d_109_6 ci_2 ?_
  refine ev_icmp_ne mmSV (tgt := 43) d_109_7 rfl (fun _h7 => ?_) (fun _h7 => ?_)
  · refine ev_aload_n d_109_43 rfl ?_
    refine ev_getf (v := .ref 44) d_109_44 fl_7_13 (ltk (by decide) hN) rfl rfl ?_
    refine ev_iload_n d_109_47 rfl ?_
    refine ev_iald (i := a0.toNatClampNeg) d_109_48 (ltk (by decide) hN) rfl (by first | assumption | (rcases n4 hn with rfl | rfl | rfl | rfl <;> exact vpi (by decide))) rfl ?_
    refine ev_iconst d_109_49 ci_3 ?_
    refine ev_icmp_ne mmSV (tgt := 125) d_109_50 rfl (fun _h50 => ?_) (fun _h50 => ?_)
    · refine ev_aload_n d_109_125 rfl ?_
      refine ev_getf (v := .ref 44) d_109_126 fl_7_13 (ltk (by decide) hN) rfl rfl ?_
      refine ev_iload_n d_109_129 rfl ?_
      refine ev_iald (i := a0.toNatClampNeg) d_109_130 (ltk (by decide) hN) rfl (by first | assumption | (rcases n4 hn with rfl | rfl | rfl | rfl <;> exact vpi (by decide))) rfl ?_
      refine ev_iconst d_109_131 ci_4 ?_
      refine ev_icmp_ne mmSV (tgt := 156) d_109_132 rfl (fun _h132 => ?_) (fun _h132 => ?_)
      · refine ev_iload_n d_109_156 rfl ?_
        refine ev_if_le mmSV (tgt := 170) d_109_157 rfl (fun _h157 => ?_) (fun _h157 => ?_)
        · refine ev_aload_n d_109_170 rfl ?_
          refine ev_getf (v := .ref 54) d_109_171 fl_7_43 (ltk (by decide) hN) rfl rfl ?_
          refine ev_iload_n d_109_174 rfl ?_
          refine ev_dup2 d_109_175 rfl rfl ?_
          refine ev_iald (i := a0.toNatClampNeg) d_109_176 (ltk (by decide) hN) rfl (by first | assumption | (rcases n4 hn with rfl | rfl | rfl | rfl <;> exact vpi (by decide))) rfl ?_
          refine ev_iconst d_109_177 ci_1 ?_
          refine ev_iadd (v := ((σ.1 54 a0.toNatClampNeg) + (1 : Int32))) d_109_178 rfl ?_
          refine ev_iastore (i := a0.toNatClampNeg) d_109_179 (ltk (by decide) hN) rfl (by first | assumption | (rcases n4 hn with rfl | rfl | rfl | rfl <;> exact vpi (by decide))) rfl ?_
          refine ev_aload_n d_109_180 rfl ?_
          refine ev_getf (v := .ref 54) d_109_181 fl_7_43 (ltk (by decide) hN) rfl rfl ?_
          refine ev_iload_n d_109_184 rfl ?_
          refine ev_iald2 (i := a0.toNatClampNeg) (v := ((σ.1 54 a0.toNatClampNeg) + (1 : Int32))) d_109_185 (ltk (by decide) hN) rfl (by first | assumption | (rcases n4 hn with rfl | rfl | rfl | rfl <;> exact vpi (by decide))) rfl (rdS) ?_
          refine ev_iconst d_109_186 ci_3 ?_
          refine ev_icmp_ne mmSV (tgt := 198) d_109_187 rfl (fun _h187 => ?_) (fun _h187 => ?_)
          · exact ev_vret d_109_198 rfl
          · refine ev_aload_n d_109_190 rfl ?_
            refine ev_getf (v := .ref 44) d_109_191 fl_7_13 (ltk (by decide) hN) rfl rfl ?_
            refine ev_iload_n d_109_194 rfl ?_
            refine ev_bipush d_109_195 cb_6 ?_
            refine ev_iastore (i := a0.toNatClampNeg) d_109_197 (ltk (by decide) hN) rfl (by first | assumption | (rcases n4 hn with rfl | rfl | rfl | rfl <;> exact vpi (by decide))) rfl ?_
            exact ev_vret d_109_198 rfl
        · refine ev_aload_n d_109_160 rfl ?_
          refine ev_getf (v := .ref 44) d_109_161 fl_7_13 (ltk (by decide) hN) rfl rfl ?_
          refine ev_iload_n d_109_164 rfl ?_
          refine ev_iconst d_109_165 ci_4 ?_
          refine ev_iastore (i := a0.toNatClampNeg) d_109_166 (ltk (by decide) hN) rfl (by first | assumption | (rcases n4 hn with rfl | rfl | rfl | rfl <;> exact vpi (by decide))) rfl ?_
          refine ev_goto (tgt := 198) d_109_167 rfl ?_
          exact ev_vret d_109_198 rfl
      · refine ev_iload_n d_109_135 rfl ?_
        refine ev_if_ne mmSV (tgt := 198) d_109_136 rfl (fun _h136 => ?_) (fun _h136 => ?_)
        · exact ev_vret d_109_198 rfl
        · refine ev_aload_n d_109_139 rfl ?_
          refine ev_getf (v := .ref 44) d_109_140 fl_7_13 (ltk (by decide) hN) rfl rfl ?_
          refine ev_iload_n d_109_143 rfl ?_
          refine ev_iconst d_109_144 ci_5 ?_
          refine ev_iastore (i := a0.toNatClampNeg) d_109_145 (ltk (by decide) hN) rfl (by first | assumption | (rcases n4 hn with rfl | rfl | rfl | rfl <;> exact vpi (by decide))) rfl ?_
          refine ev_aload_n d_109_146 rfl ?_
          refine ev_getf (v := .ref 54) d_109_147 fl_7_43 (ltk (by decide) hN) rfl rfl ?_
          refine ev_iload_n d_109_150 rfl ?_
          refine ev_iconst d_109_151 ci_1 ?_
          refine ev_iastore (i := a0.toNatClampNeg) d_109_152 (ltk (by decide) hN) rfl (by first | assumption | (rcases n4 hn with rfl | rfl | rfl | rfl <;> exact vpi (by decide))) rfl ?_
          refine ev_goto (tgt := 198) d_109_153 rfl ?_
          exact ev_vret d_109_198 rfl
    · refine ev_aload_n d_109_53 rfl ?_
      refine ev_getf (v := .ref 54) d_109_54 fl_7_43 (ltk (by decide) hN) rfl rfl ?_
      refine ev_iload_n d_109_57 rfl ?_
      refine ev_iald (i := a0.toNatClampNeg) d_109_58 (ltk (by decide) hN) rfl (by first | assumption | (rcases n4 hn with rfl | rfl | rfl | rfl <;> exact vpi (by decide))) rfl ?_
      refine ev_iconst d_109_59 ci_m1 ?_
      refine ev_icmp_ne mmSV (tgt := 73) d_109_60 rfl (fun _h60 => ?_) (fun _h60 => ?_)
      · refine ev_iload_n d_109_73 rfl ?_
        refine ev_if_ne mmSV (tgt := 85) d_109_74 rfl (fun _h74 => ?_) (fun _h74 => ?_)
        · refine ev_iload_n d_109_85 rfl ?_
          refine ev_iconst d_109_86 ci_2 ?_
          refine ev_icmp_lt mmSV (tgt := 95) d_109_87 rfl (fun _h87 => ?_) (fun _h87 => ?_)
          · refine ev_aload_n d_109_95 rfl ?_
            refine ev_getf (v := .ref 54) d_109_96 fl_7_43 (ltk (by decide) hN) rfl rfl ?_
            refine ev_iload_n d_109_99 rfl ?_
            refine ev_dup2 d_109_100 rfl rfl ?_
            refine ev_iald (i := a0.toNatClampNeg) d_109_101 (ltk (by decide) hN) rfl (by first | assumption | (rcases n4 hn with rfl | rfl | rfl | rfl <;> exact vpi (by decide))) rfl ?_
            refine ev_iconst d_109_102 ci_1 ?_
            refine ev_iadd (v := ((σ.1 54 a0.toNatClampNeg) + (1 : Int32))) d_109_103 rfl ?_
            refine ev_iastore (i := a0.toNatClampNeg) d_109_104 (ltk (by decide) hN) rfl (by first | assumption | (rcases n4 hn with rfl | rfl | rfl | rfl <;> exact vpi (by decide))) rfl ?_
            refine ev_aload_n d_109_105 rfl ?_
            refine ev_getf (v := .ref 54) d_109_106 fl_7_43 (ltk (by decide) hN) rfl rfl ?_
            refine ev_iload_n d_109_109 rfl ?_
            refine ev_iald2 (i := a0.toNatClampNeg) (v := ((σ.1 54 a0.toNatClampNeg) + (1 : Int32))) d_109_110 (ltk (by decide) hN) rfl (by first | assumption | (rcases n4 hn with rfl | rfl | rfl | rfl <;> exact vpi (by decide))) rfl (rdS) ?_
            refine ev_iconst d_109_111 ci_2 ?_
            refine ev_icmp_ne mmSV (tgt := 198) d_109_112 rfl (fun _h112 => ?_) (fun _h112 => ?_)
            · exact ev_vret d_109_198 rfl
            · refine ev_aload_n d_109_115 rfl ?_
              refine ev_getf (v := .ref 44) d_109_116 fl_7_13 (ltk (by decide) hN) rfl rfl ?_
              refine ev_iload_n d_109_119 rfl ?_
              refine ev_iconst d_109_120 ci_4 ?_
              refine ev_iastore (i := a0.toNatClampNeg) d_109_121 (ltk (by decide) hN) rfl (by first | assumption | (rcases n4 hn with rfl | rfl | rfl | rfl <;> exact vpi (by decide))) rfl ?_
              refine ev_goto (tgt := 198) d_109_122 rfl ?_
              exact ev_vret d_109_198 rfl
          · refine ev_iload_n d_109_90 rfl ?_
            refine ev_iconst d_109_91 ci_1 ?_
            refine ev_icmp_le mmSV (tgt := 198) d_109_92 rfl (fun _h92 => ?_) (fun _h92 => ?_)
            · exact ev_vret d_109_198 rfl
            · refine ev_aload_n d_109_95 rfl ?_
              refine ev_getf (v := .ref 54) d_109_96 fl_7_43 (ltk (by decide) hN) rfl rfl ?_
              refine ev_iload_n d_109_99 rfl ?_
              refine ev_dup2 d_109_100 rfl rfl ?_
              refine ev_iald (i := a0.toNatClampNeg) d_109_101 (ltk (by decide) hN) rfl (by first | assumption | (rcases n4 hn with rfl | rfl | rfl | rfl <;> exact vpi (by decide))) rfl ?_
              refine ev_iconst d_109_102 ci_1 ?_
              refine ev_iadd (v := ((σ.1 54 a0.toNatClampNeg) + (1 : Int32))) d_109_103 rfl ?_
              refine ev_iastore (i := a0.toNatClampNeg) d_109_104 (ltk (by decide) hN) rfl (by first | assumption | (rcases n4 hn with rfl | rfl | rfl | rfl <;> exact vpi (by decide))) rfl ?_
              refine ev_aload_n d_109_105 rfl ?_
              refine ev_getf (v := .ref 54) d_109_106 fl_7_43 (ltk (by decide) hN) rfl rfl ?_
              refine ev_iload_n d_109_109 rfl ?_
              refine ev_iald2 (i := a0.toNatClampNeg) (v := ((σ.1 54 a0.toNatClampNeg) + (1 : Int32))) d_109_110 (ltk (by decide) hN) rfl (by first | assumption | (rcases n4 hn with rfl | rfl | rfl | rfl <;> exact vpi (by decide))) rfl (rdS) ?_
              refine ev_iconst d_109_111 ci_2 ?_
              refine ev_icmp_ne mmSV (tgt := 198) d_109_112 rfl (fun _h112 => ?_) (fun _h112 => ?_)
              · exact ev_vret d_109_198 rfl
              · refine ev_aload_n d_109_115 rfl ?_
                refine ev_getf (v := .ref 44) d_109_116 fl_7_13 (ltk (by decide) hN) rfl rfl ?_
                refine ev_iload_n d_109_119 rfl ?_
                refine ev_iconst d_109_120 ci_4 ?_
                refine ev_iastore (i := a0.toNatClampNeg) d_109_121 (ltk (by decide) hN) rfl (by first | assumption | (rcases n4 hn with rfl | rfl | rfl | rfl <;> exact vpi (by decide))) rfl ?_
                refine ev_goto (tgt := 198) d_109_122 rfl ?_
                exact ev_vret d_109_198 rfl
        · refine ev_aload_n d_109_77 rfl ?_
          refine ev_iload_n d_109_78 rfl ?_
          refine ev_cvV (As := [.int a0]) (t := []) (e' := 0) d_109_79 ml_7_128 rfl rfl rfl rfl rfl (by decide) rfl (ltk (by decide) hN) rfl rfl rfl (ev_m_listen hN a0 σ hn) ?_
          refine ev_goto (tgt := 198) d_109_82 rfl ?_
          exact ev_vret d_109_198 rfl
      · refine ev_aload_n d_109_63 rfl ?_
        refine ev_getf (v := .ref 54) d_109_64 fl_7_43 (ltk (by decide) hN) rfl rfl ?_
        refine ev_iload_n d_109_67 rfl ?_
        refine ev_iconst d_109_68 ci_0 ?_
        refine ev_iastore (i := a0.toNatClampNeg) d_109_69 (ltk (by decide) hN) rfl (by first | assumption | (rcases n4 hn with rfl | rfl | rfl | rfl <;> exact vpi (by decide))) rfl ?_
        refine ev_goto (tgt := 198) d_109_70 rfl ?_
        exact ev_vret d_109_198 rfl
  · refine ev_iload_n d_109_10 rfl ?_
    refine ev_if_le mmSV (tgt := 24) d_109_11 rfl (fun _h11 => ?_) (fun _h11 => ?_)
    · refine ev_aload_n d_109_24 rfl ?_
      refine ev_getf (v := .ref 50) d_109_25 fl_7_31 (ltk (by decide) hN) rfl rfl ?_
      refine ev_iload_n d_109_28 rfl ?_
      refine ev_iald (i := a0.toNatClampNeg) d_109_29 (ltk (by decide) hN) rfl (by first | assumption | (rcases n4 hn with rfl | rfl | rfl | rfl <;> exact vpi (by decide))) rfl ?_
      refine ev_bipush d_109_30 cb_11 ?_
      refine ev_icmp_lt mmSV (tgt := 198) d_109_32 rfl (fun _h32 => ?_) (fun _h32 => ?_)
      · exact ev_vret d_109_198 rfl
      · refine ev_aload_n d_109_35 rfl ?_
        refine ev_iload_n d_109_36 rfl ?_
        refine ev_cvV (As := [.int a0]) (t := []) (e' := 0) d_109_37 ml_7_128 rfl rfl rfl rfl rfl (by decide) rfl (ltk (by decide) hN) rfl rfl rfl (ev_m_listen hN a0 σ hn) ?_
        refine ev_goto (tgt := 198) d_109_40 rfl ?_
        exact ev_vret d_109_198 rfl
    · refine ev_aload_n d_109_14 rfl ?_
      refine ev_getf (v := .ref 44) d_109_15 fl_7_13 (ltk (by decide) hN) rfl rfl ?_
      refine ev_iload_n d_109_18 rfl ?_
      refine ev_iconst d_109_19 ci_4 ?_
      refine ev_iastore (i := a0.toNatClampNeg) d_109_20 (ltk (by decide) hN) rfl (by first | assumption | (rcases n4 hn with rfl | rfl | rfl | rfl <;> exact vpi (by decide))) rfl ?_
      refine ev_goto (tgt := 198) d_109_21 rfl ?_
      exact ev_vret d_109_198 rfl
theorem mn_ix {k : Nat} {σ : mmS} (hk : k < 5) (h : mnK k σ) : vp_in (σ.1 42 28) 5 := by
  obtain ⟨M, h1, h2, h3⟩ := h
  rw [h3]
  exact vpi (natk 5 (by decide) M (by omega)).2.2.2
theorem mn_1 {σ : mmS} (v : Int32) (i : Nat) : mnK 1 (mmI (mmI σ 42 28 1) 64 i v) := ⟨1, by decide, by decide, rfl⟩
theorem mn_1' {σ : mmS} : mnK 1 (mmI σ 42 28 1) := ⟨1, by decide, by decide, rfl⟩
theorem mn_up {k : Nat} {σ : mmS} (h : mnK k σ) : mnK (k + 1) σ := by
  obtain ⟨M, h1, h2, h3⟩ := h
  exact ⟨M, h1, by omega, h3⟩
theorem mn_in {k : Nat} {σ : mmS} {i : Nat} {v : Int32} (hk : k < 5) (h : mnK k σ) : mnK (k + 1) (mmI (mmI σ 64 i v) 42 28 (σ.1 42 28 + 1)) := by
  obtain ⟨M, h1, h2, h3⟩ := h
  refine ⟨M + 1, by omega, by omega, ?_⟩
  show σ.1 42 28 + 1 = _
  rw [h3]
  exact (natk 5 (by decide) M (by omega)).2.1
def sp_m_reflB_L4 (a0 : Int32) (b : Int32) (σ : mmS) : mmS :=
(sp_m_decide a0 b (mmI σ 52 a0.toNatClampNeg (sp_m_limit (sp_m_middle σ) (6 : Int32) σ)))
theorem ev_m_reflB_L4 (hN : 65 ≤ N) (a0 : Int32) (b : Int32) (σ : mmS) (hn : vp_in a0 4) (hm : mnK 5 σ) : Ev N L xs (106, 128, [(0, .ref 42), (1, .int a0), (2, .int b), (3, .int (4 : Int32))], [], 0, σ) (mmSV (sp_m_reflB_L4 a0 b σ)) := by
  unfold sp_m_reflB_L4
  refine ev_iload_n d_106_128 rfl ?_
  refine ev_iconst d_106_129 ci_4 ?_
  refine ev_icmpT (tgt := 193) d_106_130 rfl (show (4 : Int32) ≤ (4 : Int32) by decide) ?_
  refine ev_aload_n d_106_193 rfl ?_
  refine ev_getf (v := .ref 52) d_106_194 fl_7_37 (ltk (by decide) hN) rfl rfl ?_
  refine ev_iload_n d_106_197 rfl ?_
  refine ev_aload_n d_106_198 rfl ?_
  refine ev_cvI (As := []) (t := [.int a0, .ref 52]) (e' := 0) d_106_199 ml_7_116 rfl rfl rfl rfl rfl (by decide) rfl (ltk (by decide) hN) rfl rfl rfl (ev_m_middle hN σ hm) ?_
  refine ev_bipush d_106_202 cb_6 ?_
  refine ev_csI (As := [.int (sp_m_middle σ), .int (6 : Int32)]) (t := [.int a0, .ref 52]) (e' := 0) d_106_204 ml_7_120 rfl rfl rfl rfl rfl (by decide) rfl rfl (ev_m_limit hN (sp_m_middle σ) (6 : Int32) σ) ?_
  refine ev_iastore (i := a0.toNatClampNeg) d_106_207 (ltk (by decide) hN) rfl (by first | assumption | (rcases n4 hn with rfl | rfl | rfl | rfl <;> exact vpi (by decide))) rfl ?_
  refine ev_aload_n d_106_208 rfl ?_
  refine ev_iload_n d_106_209 rfl ?_
  refine ev_iload_n d_106_210 rfl ?_
  refine ev_cvV (As := [.int a0, .int b]) (t := []) (e' := 0) d_106_211 ml_7_124 rfl rfl rfl rfl rfl (by decide) rfl (ltk (by decide) hN) rfl rfl rfl (ev_m_decide hN a0 b (mmI σ 52 a0.toNatClampNeg (sp_m_limit (sp_m_middle σ) (6 : Int32) σ)) hn) ?_
  exact ev_vret d_106_214 rfl
def sp_m_reflB_L3 (a0 : Int32) (b : Int32) (σ : mmS) : mmS :=
if (σ.1 57 ((((8 : Int32) * a0) + (6 : Int32)) + (1 : Int32)).toNatClampNeg) = (99 : Int32) then
  (sp_m_reflB_L4 a0 b σ)
else
  (sp_m_reflB_L4 a0 b (mmI (mmI σ 64 (σ.1 42 28).toNatClampNeg (σ.1 57 ((((8 : Int32) * a0) + (6 : Int32)) + (1 : Int32)).toNatClampNeg)) 42 28 ((σ.1 42 28) + (1 : Int32))))
theorem ev_m_reflB_L3 (hN : 65 ≤ N) (a0 : Int32) (b : Int32) (σ : mmS) (hn : vp_in a0 4) (hm : mnK 4 σ) : Ev N L xs (106, 128, [(0, .ref 42), (1, .int a0), (2, .int b), (3, .int (3 : Int32))], [], 0, σ) (mmSV (sp_m_reflB_L3 a0 b σ)) := by
  unfold sp_m_reflB_L3
  refine ev_iload_n d_106_128 rfl ?_
  refine ev_iconst d_106_129 ci_4 ?_
  refine ev_icmpF (tgt := 193) d_106_130 rfl (show ¬ ((4 : Int32) ≤ (3 : Int32)) by decide) ?_
  refine ev_aload_n d_106_133 rfl ?_
  refine ev_getf (v := .ref 57) d_106_134 fl_7_53 (ltk (by decide) hN) rfl rfl ?_
  refine ev_bipush d_106_137 cb_8 ?_
  refine ev_iload_n d_106_139 rfl ?_
  refine ev_imul (v := ((8 : Int32) * a0)) d_106_140 rfl ?_
  refine ev_iconst d_106_141 ci_2 ?_
  refine ev_iload_n d_106_142 rfl ?_
  refine ev_imul (v := (6 : Int32)) d_106_143 (by decide) ?_
  refine ev_iadd (v := (((8 : Int32) * a0) + (6 : Int32))) d_106_144 rfl ?_
  refine ev_iconst d_106_145 ci_1 ?_
  refine ev_iadd (v := ((((8 : Int32) * a0) + (6 : Int32)) + (1 : Int32))) d_106_146 rfl ?_
  refine ev_iald (i := ((((8 : Int32) * a0) + (6 : Int32)) + (1 : Int32)).toNatClampNeg) d_106_147 (ltk (by decide) hN) rfl (by first | assumption | (rcases n4 hn with rfl | rfl | rfl | rfl <;> exact vpi (by decide))) rfl ?_
  refine ev_bipush d_106_148 cb_99 ?_
  refine ev_icmp_eq mmSV (tgt := 187) d_106_150 rfl (fun _h150 => ?_) (fun _h150 => ?_)
  · refine ev_iinc (lv' := [(3, .int (4 : Int32)), (0, .ref 42), (1, .int a0), (2, .int b)]) (v := (4 : Int32)) d_106_187 rfl (by decide) (by decide) rfl ?_
    refine ev_goto (tgt := 128) d_106_190 rfl ?_
    refine ev_sub (lv' := [(0, .ref 42), (1, .int a0), (2, .int b), (3, .int (4 : Int32))]) (by simp) ?_
    exact ev_m_reflB_L4 hN a0 b σ hn (by first | exact mn_up hm | exact mn_in (by decide) hm)
  · refine ev_aload_n d_106_153 rfl ?_
    refine ev_getf (v := .ref 64) d_106_154 fl_7_74 (ltk (by decide) hN) rfl rfl ?_
    refine ev_aload_n d_106_157 rfl ?_
    refine ev_getf (v := .int (σ.1 42 28)) d_106_158 fl_7_113 (ltk (by decide) hN) rfl rfl ?_
    refine ev_aload_n d_106_161 rfl ?_
    refine ev_getf (v := .ref 57) d_106_162 fl_7_53 (ltk (by decide) hN) rfl rfl ?_
    refine ev_bipush d_106_165 cb_8 ?_
    refine ev_iload_n d_106_167 rfl ?_
    refine ev_imul (v := ((8 : Int32) * a0)) d_106_168 rfl ?_
    refine ev_iconst d_106_169 ci_2 ?_
    refine ev_iload_n d_106_170 rfl ?_
    refine ev_imul (v := (6 : Int32)) d_106_171 (by decide) ?_
    refine ev_iadd (v := (((8 : Int32) * a0) + (6 : Int32))) d_106_172 rfl ?_
    refine ev_iconst d_106_173 ci_1 ?_
    refine ev_iadd (v := ((((8 : Int32) * a0) + (6 : Int32)) + (1 : Int32))) d_106_174 rfl ?_
    refine ev_iald (i := ((((8 : Int32) * a0) + (6 : Int32)) + (1 : Int32)).toNatClampNeg) d_106_175 (ltk (by decide) hN) rfl (by first | assumption | (rcases n4 hn with rfl | rfl | rfl | rfl <;> exact vpi (by decide))) rfl ?_
    refine ev_iastore (i := (σ.1 42 28).toNatClampNeg) d_106_176 (ltk (by decide) hN) rfl (mn_ix (by decide) hm) rfl ?_
    refine ev_aload_n d_106_177 rfl ?_
    refine ev_dup d_106_178 rfl ?_
    refine ev_getf (v := .int (σ.1 42 28)) d_106_179 fl_7_113 (ltk (by decide) hN) rfl rfl ?_
    refine ev_iconst d_106_182 ci_1 ?_
    refine ev_iadd (v := ((σ.1 42 28) + (1 : Int32))) d_106_183 rfl ?_
    refine ev_putf d_106_184 fl_7_113 (ltk (by decide) hN) rfl rfl (Or.inl rfl) ?_
    refine ev_iinc (lv' := [(3, .int (4 : Int32)), (0, .ref 42), (1, .int a0), (2, .int b)]) (v := (4 : Int32)) d_106_187 rfl (by decide) (by decide) rfl ?_
    refine ev_goto (tgt := 128) d_106_190 rfl ?_
    refine ev_sub (lv' := [(0, .ref 42), (1, .int a0), (2, .int b), (3, .int (4 : Int32))]) (by simp) ?_
    exact ev_m_reflB_L4 hN a0 b (mmI (mmI σ 64 (σ.1 42 28).toNatClampNeg (σ.1 57 ((((8 : Int32) * a0) + (6 : Int32)) + (1 : Int32)).toNatClampNeg)) 42 28 ((σ.1 42 28) + (1 : Int32))) hn (by first | exact mn_up hm | exact mn_in (by decide) hm)
def sp_m_reflB_L2 (a0 : Int32) (b : Int32) (σ : mmS) : mmS :=
if (σ.1 57 ((((8 : Int32) * a0) + (4 : Int32)) + (1 : Int32)).toNatClampNeg) = (99 : Int32) then
  (sp_m_reflB_L3 a0 b σ)
else
  (sp_m_reflB_L3 a0 b (mmI (mmI σ 64 (σ.1 42 28).toNatClampNeg (σ.1 57 ((((8 : Int32) * a0) + (4 : Int32)) + (1 : Int32)).toNatClampNeg)) 42 28 ((σ.1 42 28) + (1 : Int32))))
theorem ev_m_reflB_L2 (hN : 65 ≤ N) (a0 : Int32) (b : Int32) (σ : mmS) (hn : vp_in a0 4) (hm : mnK 3 σ) : Ev N L xs (106, 128, [(0, .ref 42), (1, .int a0), (2, .int b), (3, .int (2 : Int32))], [], 0, σ) (mmSV (sp_m_reflB_L2 a0 b σ)) := by
  unfold sp_m_reflB_L2
  refine ev_iload_n d_106_128 rfl ?_
  refine ev_iconst d_106_129 ci_4 ?_
  refine ev_icmpF (tgt := 193) d_106_130 rfl (show ¬ ((4 : Int32) ≤ (2 : Int32)) by decide) ?_
  refine ev_aload_n d_106_133 rfl ?_
  refine ev_getf (v := .ref 57) d_106_134 fl_7_53 (ltk (by decide) hN) rfl rfl ?_
  refine ev_bipush d_106_137 cb_8 ?_
  refine ev_iload_n d_106_139 rfl ?_
  refine ev_imul (v := ((8 : Int32) * a0)) d_106_140 rfl ?_
  refine ev_iconst d_106_141 ci_2 ?_
  refine ev_iload_n d_106_142 rfl ?_
  refine ev_imul (v := (4 : Int32)) d_106_143 (by decide) ?_
  refine ev_iadd (v := (((8 : Int32) * a0) + (4 : Int32))) d_106_144 rfl ?_
  refine ev_iconst d_106_145 ci_1 ?_
  refine ev_iadd (v := ((((8 : Int32) * a0) + (4 : Int32)) + (1 : Int32))) d_106_146 rfl ?_
  refine ev_iald (i := ((((8 : Int32) * a0) + (4 : Int32)) + (1 : Int32)).toNatClampNeg) d_106_147 (ltk (by decide) hN) rfl (by first | assumption | (rcases n4 hn with rfl | rfl | rfl | rfl <;> exact vpi (by decide))) rfl ?_
  refine ev_bipush d_106_148 cb_99 ?_
  refine ev_icmp_eq mmSV (tgt := 187) d_106_150 rfl (fun _h150 => ?_) (fun _h150 => ?_)
  · refine ev_iinc (lv' := [(3, .int (3 : Int32)), (0, .ref 42), (1, .int a0), (2, .int b)]) (v := (3 : Int32)) d_106_187 rfl (by decide) (by decide) rfl ?_
    refine ev_goto (tgt := 128) d_106_190 rfl ?_
    refine ev_sub (lv' := [(0, .ref 42), (1, .int a0), (2, .int b), (3, .int (3 : Int32))]) (by simp) ?_
    exact ev_m_reflB_L3 hN a0 b σ hn (by first | exact mn_up hm | exact mn_in (by decide) hm)
  · refine ev_aload_n d_106_153 rfl ?_
    refine ev_getf (v := .ref 64) d_106_154 fl_7_74 (ltk (by decide) hN) rfl rfl ?_
    refine ev_aload_n d_106_157 rfl ?_
    refine ev_getf (v := .int (σ.1 42 28)) d_106_158 fl_7_113 (ltk (by decide) hN) rfl rfl ?_
    refine ev_aload_n d_106_161 rfl ?_
    refine ev_getf (v := .ref 57) d_106_162 fl_7_53 (ltk (by decide) hN) rfl rfl ?_
    refine ev_bipush d_106_165 cb_8 ?_
    refine ev_iload_n d_106_167 rfl ?_
    refine ev_imul (v := ((8 : Int32) * a0)) d_106_168 rfl ?_
    refine ev_iconst d_106_169 ci_2 ?_
    refine ev_iload_n d_106_170 rfl ?_
    refine ev_imul (v := (4 : Int32)) d_106_171 (by decide) ?_
    refine ev_iadd (v := (((8 : Int32) * a0) + (4 : Int32))) d_106_172 rfl ?_
    refine ev_iconst d_106_173 ci_1 ?_
    refine ev_iadd (v := ((((8 : Int32) * a0) + (4 : Int32)) + (1 : Int32))) d_106_174 rfl ?_
    refine ev_iald (i := ((((8 : Int32) * a0) + (4 : Int32)) + (1 : Int32)).toNatClampNeg) d_106_175 (ltk (by decide) hN) rfl (by first | assumption | (rcases n4 hn with rfl | rfl | rfl | rfl <;> exact vpi (by decide))) rfl ?_
    refine ev_iastore (i := (σ.1 42 28).toNatClampNeg) d_106_176 (ltk (by decide) hN) rfl (mn_ix (by decide) hm) rfl ?_
    refine ev_aload_n d_106_177 rfl ?_
    refine ev_dup d_106_178 rfl ?_
    refine ev_getf (v := .int (σ.1 42 28)) d_106_179 fl_7_113 (ltk (by decide) hN) rfl rfl ?_
    refine ev_iconst d_106_182 ci_1 ?_
    refine ev_iadd (v := ((σ.1 42 28) + (1 : Int32))) d_106_183 rfl ?_
    refine ev_putf d_106_184 fl_7_113 (ltk (by decide) hN) rfl rfl (Or.inl rfl) ?_
    refine ev_iinc (lv' := [(3, .int (3 : Int32)), (0, .ref 42), (1, .int a0), (2, .int b)]) (v := (3 : Int32)) d_106_187 rfl (by decide) (by decide) rfl ?_
    refine ev_goto (tgt := 128) d_106_190 rfl ?_
    refine ev_sub (lv' := [(0, .ref 42), (1, .int a0), (2, .int b), (3, .int (3 : Int32))]) (by simp) ?_
    exact ev_m_reflB_L3 hN a0 b (mmI (mmI σ 64 (σ.1 42 28).toNatClampNeg (σ.1 57 ((((8 : Int32) * a0) + (4 : Int32)) + (1 : Int32)).toNatClampNeg)) 42 28 ((σ.1 42 28) + (1 : Int32))) hn (by first | exact mn_up hm | exact mn_in (by decide) hm)
def sp_m_reflB_L1 (a0 : Int32) (b : Int32) (σ : mmS) : mmS :=
if (σ.1 57 ((((8 : Int32) * a0) + (2 : Int32)) + (1 : Int32)).toNatClampNeg) = (99 : Int32) then
  (sp_m_reflB_L2 a0 b σ)
else
  (sp_m_reflB_L2 a0 b (mmI (mmI σ 64 (σ.1 42 28).toNatClampNeg (σ.1 57 ((((8 : Int32) * a0) + (2 : Int32)) + (1 : Int32)).toNatClampNeg)) 42 28 ((σ.1 42 28) + (1 : Int32))))
theorem ev_m_reflB_L1 (hN : 65 ≤ N) (a0 : Int32) (b : Int32) (σ : mmS) (hn : vp_in a0 4) (hm : mnK 2 σ) : Ev N L xs (106, 128, [(0, .ref 42), (1, .int a0), (2, .int b), (3, .int (1 : Int32))], [], 0, σ) (mmSV (sp_m_reflB_L1 a0 b σ)) := by
  unfold sp_m_reflB_L1
  refine ev_iload_n d_106_128 rfl ?_
  refine ev_iconst d_106_129 ci_4 ?_
  refine ev_icmpF (tgt := 193) d_106_130 rfl (show ¬ ((4 : Int32) ≤ (1 : Int32)) by decide) ?_
  refine ev_aload_n d_106_133 rfl ?_
  refine ev_getf (v := .ref 57) d_106_134 fl_7_53 (ltk (by decide) hN) rfl rfl ?_
  refine ev_bipush d_106_137 cb_8 ?_
  refine ev_iload_n d_106_139 rfl ?_
  refine ev_imul (v := ((8 : Int32) * a0)) d_106_140 rfl ?_
  refine ev_iconst d_106_141 ci_2 ?_
  refine ev_iload_n d_106_142 rfl ?_
  refine ev_imul (v := (2 : Int32)) d_106_143 (by decide) ?_
  refine ev_iadd (v := (((8 : Int32) * a0) + (2 : Int32))) d_106_144 rfl ?_
  refine ev_iconst d_106_145 ci_1 ?_
  refine ev_iadd (v := ((((8 : Int32) * a0) + (2 : Int32)) + (1 : Int32))) d_106_146 rfl ?_
  refine ev_iald (i := ((((8 : Int32) * a0) + (2 : Int32)) + (1 : Int32)).toNatClampNeg) d_106_147 (ltk (by decide) hN) rfl (by first | assumption | (rcases n4 hn with rfl | rfl | rfl | rfl <;> exact vpi (by decide))) rfl ?_
  refine ev_bipush d_106_148 cb_99 ?_
  refine ev_icmp_eq mmSV (tgt := 187) d_106_150 rfl (fun _h150 => ?_) (fun _h150 => ?_)
  · refine ev_iinc (lv' := [(3, .int (2 : Int32)), (0, .ref 42), (1, .int a0), (2, .int b)]) (v := (2 : Int32)) d_106_187 rfl (by decide) (by decide) rfl ?_
    refine ev_goto (tgt := 128) d_106_190 rfl ?_
    refine ev_sub (lv' := [(0, .ref 42), (1, .int a0), (2, .int b), (3, .int (2 : Int32))]) (by simp) ?_
    exact ev_m_reflB_L2 hN a0 b σ hn (by first | exact mn_up hm | exact mn_in (by decide) hm)
  · refine ev_aload_n d_106_153 rfl ?_
    refine ev_getf (v := .ref 64) d_106_154 fl_7_74 (ltk (by decide) hN) rfl rfl ?_
    refine ev_aload_n d_106_157 rfl ?_
    refine ev_getf (v := .int (σ.1 42 28)) d_106_158 fl_7_113 (ltk (by decide) hN) rfl rfl ?_
    refine ev_aload_n d_106_161 rfl ?_
    refine ev_getf (v := .ref 57) d_106_162 fl_7_53 (ltk (by decide) hN) rfl rfl ?_
    refine ev_bipush d_106_165 cb_8 ?_
    refine ev_iload_n d_106_167 rfl ?_
    refine ev_imul (v := ((8 : Int32) * a0)) d_106_168 rfl ?_
    refine ev_iconst d_106_169 ci_2 ?_
    refine ev_iload_n d_106_170 rfl ?_
    refine ev_imul (v := (2 : Int32)) d_106_171 (by decide) ?_
    refine ev_iadd (v := (((8 : Int32) * a0) + (2 : Int32))) d_106_172 rfl ?_
    refine ev_iconst d_106_173 ci_1 ?_
    refine ev_iadd (v := ((((8 : Int32) * a0) + (2 : Int32)) + (1 : Int32))) d_106_174 rfl ?_
    refine ev_iald (i := ((((8 : Int32) * a0) + (2 : Int32)) + (1 : Int32)).toNatClampNeg) d_106_175 (ltk (by decide) hN) rfl (by first | assumption | (rcases n4 hn with rfl | rfl | rfl | rfl <;> exact vpi (by decide))) rfl ?_
    refine ev_iastore (i := (σ.1 42 28).toNatClampNeg) d_106_176 (ltk (by decide) hN) rfl (mn_ix (by decide) hm) rfl ?_
    refine ev_aload_n d_106_177 rfl ?_
    refine ev_dup d_106_178 rfl ?_
    refine ev_getf (v := .int (σ.1 42 28)) d_106_179 fl_7_113 (ltk (by decide) hN) rfl rfl ?_
    refine ev_iconst d_106_182 ci_1 ?_
    refine ev_iadd (v := ((σ.1 42 28) + (1 : Int32))) d_106_183 rfl ?_
    refine ev_putf d_106_184 fl_7_113 (ltk (by decide) hN) rfl rfl (Or.inl rfl) ?_
    refine ev_iinc (lv' := [(3, .int (2 : Int32)), (0, .ref 42), (1, .int a0), (2, .int b)]) (v := (2 : Int32)) d_106_187 rfl (by decide) (by decide) rfl ?_
    refine ev_goto (tgt := 128) d_106_190 rfl ?_
    refine ev_sub (lv' := [(0, .ref 42), (1, .int a0), (2, .int b), (3, .int (2 : Int32))]) (by simp) ?_
    exact ev_m_reflB_L2 hN a0 b (mmI (mmI σ 64 (σ.1 42 28).toNatClampNeg (σ.1 57 ((((8 : Int32) * a0) + (2 : Int32)) + (1 : Int32)).toNatClampNeg)) 42 28 ((σ.1 42 28) + (1 : Int32))) hn (by first | exact mn_up hm | exact mn_in (by decide) hm)
def sp_m_reflB_L0 (a0 : Int32) (b : Int32) (σ : mmS) : mmS :=
if (σ.1 57 ((((8 : Int32) * a0) + (0 : Int32)) + (1 : Int32)).toNatClampNeg) = (99 : Int32) then
  (sp_m_reflB_L1 a0 b σ)
else
  (sp_m_reflB_L1 a0 b (mmI (mmI σ 64 (σ.1 42 28).toNatClampNeg (σ.1 57 ((((8 : Int32) * a0) + (0 : Int32)) + (1 : Int32)).toNatClampNeg)) 42 28 ((σ.1 42 28) + (1 : Int32))))
theorem ev_m_reflB_L0 (hN : 65 ≤ N) (a0 : Int32) (b : Int32) (σ : mmS) (hn : vp_in a0 4) (hm : mnK 1 σ) : Ev N L xs (106, 128, [(0, .ref 42), (1, .int a0), (2, .int b), (3, .int (0 : Int32))], [], 0, σ) (mmSV (sp_m_reflB_L0 a0 b σ)) := by
  unfold sp_m_reflB_L0
  refine ev_iload_n d_106_128 rfl ?_
  refine ev_iconst d_106_129 ci_4 ?_
  refine ev_icmpF (tgt := 193) d_106_130 rfl (show ¬ ((4 : Int32) ≤ (0 : Int32)) by decide) ?_
  refine ev_aload_n d_106_133 rfl ?_
  refine ev_getf (v := .ref 57) d_106_134 fl_7_53 (ltk (by decide) hN) rfl rfl ?_
  refine ev_bipush d_106_137 cb_8 ?_
  refine ev_iload_n d_106_139 rfl ?_
  refine ev_imul (v := ((8 : Int32) * a0)) d_106_140 rfl ?_
  refine ev_iconst d_106_141 ci_2 ?_
  refine ev_iload_n d_106_142 rfl ?_
  refine ev_imul (v := (0 : Int32)) d_106_143 (by decide) ?_
  refine ev_iadd (v := (((8 : Int32) * a0) + (0 : Int32))) d_106_144 rfl ?_
  refine ev_iconst d_106_145 ci_1 ?_
  refine ev_iadd (v := ((((8 : Int32) * a0) + (0 : Int32)) + (1 : Int32))) d_106_146 rfl ?_
  refine ev_iald (i := ((((8 : Int32) * a0) + (0 : Int32)) + (1 : Int32)).toNatClampNeg) d_106_147 (ltk (by decide) hN) rfl (by first | assumption | (rcases n4 hn with rfl | rfl | rfl | rfl <;> exact vpi (by decide))) rfl ?_
  refine ev_bipush d_106_148 cb_99 ?_
  refine ev_icmp_eq mmSV (tgt := 187) d_106_150 rfl (fun _h150 => ?_) (fun _h150 => ?_)
  · refine ev_iinc (lv' := [(3, .int (1 : Int32)), (0, .ref 42), (1, .int a0), (2, .int b)]) (v := (1 : Int32)) d_106_187 rfl (by decide) (by decide) rfl ?_
    refine ev_goto (tgt := 128) d_106_190 rfl ?_
    refine ev_sub (lv' := [(0, .ref 42), (1, .int a0), (2, .int b), (3, .int (1 : Int32))]) (by simp) ?_
    exact ev_m_reflB_L1 hN a0 b σ hn (by first | exact mn_up hm | exact mn_in (by decide) hm)
  · refine ev_aload_n d_106_153 rfl ?_
    refine ev_getf (v := .ref 64) d_106_154 fl_7_74 (ltk (by decide) hN) rfl rfl ?_
    refine ev_aload_n d_106_157 rfl ?_
    refine ev_getf (v := .int (σ.1 42 28)) d_106_158 fl_7_113 (ltk (by decide) hN) rfl rfl ?_
    refine ev_aload_n d_106_161 rfl ?_
    refine ev_getf (v := .ref 57) d_106_162 fl_7_53 (ltk (by decide) hN) rfl rfl ?_
    refine ev_bipush d_106_165 cb_8 ?_
    refine ev_iload_n d_106_167 rfl ?_
    refine ev_imul (v := ((8 : Int32) * a0)) d_106_168 rfl ?_
    refine ev_iconst d_106_169 ci_2 ?_
    refine ev_iload_n d_106_170 rfl ?_
    refine ev_imul (v := (0 : Int32)) d_106_171 (by decide) ?_
    refine ev_iadd (v := (((8 : Int32) * a0) + (0 : Int32))) d_106_172 rfl ?_
    refine ev_iconst d_106_173 ci_1 ?_
    refine ev_iadd (v := ((((8 : Int32) * a0) + (0 : Int32)) + (1 : Int32))) d_106_174 rfl ?_
    refine ev_iald (i := ((((8 : Int32) * a0) + (0 : Int32)) + (1 : Int32)).toNatClampNeg) d_106_175 (ltk (by decide) hN) rfl (by first | assumption | (rcases n4 hn with rfl | rfl | rfl | rfl <;> exact vpi (by decide))) rfl ?_
    refine ev_iastore (i := (σ.1 42 28).toNatClampNeg) d_106_176 (ltk (by decide) hN) rfl (mn_ix (by decide) hm) rfl ?_
    refine ev_aload_n d_106_177 rfl ?_
    refine ev_dup d_106_178 rfl ?_
    refine ev_getf (v := .int (σ.1 42 28)) d_106_179 fl_7_113 (ltk (by decide) hN) rfl rfl ?_
    refine ev_iconst d_106_182 ci_1 ?_
    refine ev_iadd (v := ((σ.1 42 28) + (1 : Int32))) d_106_183 rfl ?_
    refine ev_putf d_106_184 fl_7_113 (ltk (by decide) hN) rfl rfl (Or.inl rfl) ?_
    refine ev_iinc (lv' := [(3, .int (1 : Int32)), (0, .ref 42), (1, .int a0), (2, .int b)]) (v := (1 : Int32)) d_106_187 rfl (by decide) (by decide) rfl ?_
    refine ev_goto (tgt := 128) d_106_190 rfl ?_
    refine ev_sub (lv' := [(0, .ref 42), (1, .int a0), (2, .int b), (3, .int (1 : Int32))]) (by simp) ?_
    exact ev_m_reflB_L1 hN a0 b (mmI (mmI σ 64 (σ.1 42 28).toNatClampNeg (σ.1 57 ((((8 : Int32) * a0) + (0 : Int32)) + (1 : Int32)).toNatClampNeg)) 42 28 ((σ.1 42 28) + (1 : Int32))) hn (by first | exact mn_up hm | exact mn_in (by decide) hm)
def sp_m_reflA_L4 (a0 : Int32) (b : Int32) (σ : mmS) : mmS :=
(sp_m_reflB_L0 a0 b (mmI (mmI σ 53 a0.toNatClampNeg (sp_m_limit ((σ.1 51 a0.toNatClampNeg) + (sp_m_middle σ)) (4 : Int32) σ)) 42 28 (1 : Int32)))
theorem ev_m_reflA_L4 (hN : 65 ≤ N) (a0 : Int32) (b : Int32) (σ : mmS) (hn : vp_in a0 4) (hm : mnK 5 σ) : Ev N L xs (106, 16, [(0, .ref 42), (1, .int a0), (2, .int b), (3, .int (4 : Int32))], [], 0, σ) (mmSV (sp_m_reflA_L4 a0 b σ)) := by
  unfold sp_m_reflA_L4
  refine ev_iload_n d_106_16 rfl ?_
  refine ev_iconst d_106_17 ci_4 ?_
  refine ev_icmpT (tgt := 100) d_106_18 rfl (show (4 : Int32) ≤ (4 : Int32) by decide) ?_
  refine ev_aload_n d_106_100 rfl ?_
  refine ev_getf (v := .ref 53) d_106_101 fl_7_40 (ltk (by decide) hN) rfl rfl ?_
  refine ev_iload_n d_106_104 rfl ?_
  refine ev_aload_n d_106_105 rfl ?_
  refine ev_getf (v := .ref 51) d_106_106 fl_7_34 (ltk (by decide) hN) rfl rfl ?_
  refine ev_iload_n d_106_109 rfl ?_
  refine ev_iald (i := a0.toNatClampNeg) d_106_110 (ltk (by decide) hN) rfl (by first | assumption | (rcases n4 hn with rfl | rfl | rfl | rfl <;> exact vpi (by decide))) rfl ?_
  refine ev_aload_n d_106_111 rfl ?_
  refine ev_cvI (As := []) (t := [.int (σ.1 51 a0.toNatClampNeg), .int a0, .ref 53]) (e' := 0) d_106_112 ml_7_116 rfl rfl rfl rfl rfl (by decide) rfl (ltk (by decide) hN) rfl rfl rfl (ev_m_middle hN σ hm) ?_
  refine ev_iadd (v := ((σ.1 51 a0.toNatClampNeg) + (sp_m_middle σ))) d_106_115 rfl ?_
  refine ev_iconst d_106_116 ci_4 ?_
  refine ev_csI (As := [.int ((σ.1 51 a0.toNatClampNeg) + (sp_m_middle σ)), .int (4 : Int32)]) (t := [.int a0, .ref 53]) (e' := 0) d_106_117 ml_7_120 rfl rfl rfl rfl rfl (by decide) rfl rfl (ev_m_limit hN ((σ.1 51 a0.toNatClampNeg) + (sp_m_middle σ)) (4 : Int32) σ) ?_
  refine ev_iastore (i := a0.toNatClampNeg) d_106_120 (ltk (by decide) hN) rfl (by first | assumption | (rcases n4 hn with rfl | rfl | rfl | rfl <;> exact vpi (by decide))) rfl ?_
  refine ev_aload_n d_106_121 rfl ?_
  refine ev_iconst d_106_122 ci_1 ?_
  refine ev_putf d_106_123 fl_7_113 (ltk (by decide) hN) rfl rfl (Or.inl rfl) ?_
  refine ev_iconst d_106_126 ci_0 ?_
  refine ev_istore_n (lv' := [(3, .int (0 : Int32)), (0, .ref 42), (1, .int a0), (2, .int b)]) d_106_127 (by decide) rfl ?_
  refine ev_sub (lv' := [(0, .ref 42), (1, .int a0), (2, .int b), (3, .int (0 : Int32))]) (by simp) ?_
  exact ev_m_reflB_L0 hN a0 b (mmI (mmI σ 53 a0.toNatClampNeg (sp_m_limit ((σ.1 51 a0.toNatClampNeg) + (sp_m_middle σ)) (4 : Int32) σ)) 42 28 (1 : Int32)) hn mn_1'
def sp_m_reflA_L3 (a0 : Int32) (b : Int32) (σ : mmS) : mmS :=
if (σ.1 57 (((8 : Int32) * a0) + (6 : Int32)).toNatClampNeg) = (99 : Int32) then
  (sp_m_reflA_L4 a0 b σ)
else
  if (σ.1 57 ((((8 : Int32) * a0) + (6 : Int32)) + (1 : Int32)).toNatClampNeg) = (99 : Int32) then
    (sp_m_reflA_L4 a0 b σ)
  else
    (sp_m_reflA_L4 a0 (b + Int32.ofInt (1)) (mmI (mmI σ 64 (σ.1 42 28).toNatClampNeg ((σ.1 57 ((((8 : Int32) * a0) + (6 : Int32)) + (1 : Int32)).toNatClampNeg) - (σ.1 57 (((8 : Int32) * a0) + (6 : Int32)).toNatClampNeg))) 42 28 ((σ.1 42 28) + (1 : Int32))))
theorem ev_m_reflA_L3 (hN : 65 ≤ N) (a0 : Int32) (b : Int32) (σ : mmS) (hn : vp_in a0 4) (hm : mnK 4 σ) : Ev N L xs (106, 16, [(0, .ref 42), (1, .int a0), (2, .int b), (3, .int (3 : Int32))], [], 0, σ) (mmSV (sp_m_reflA_L3 a0 b σ)) := by
  unfold sp_m_reflA_L3
  refine ev_iload_n d_106_16 rfl ?_
  refine ev_iconst d_106_17 ci_4 ?_
  refine ev_icmpF (tgt := 100) d_106_18 rfl (show ¬ ((4 : Int32) ≤ (3 : Int32)) by decide) ?_
  refine ev_aload_n d_106_21 rfl ?_
  refine ev_getf (v := .ref 57) d_106_22 fl_7_53 (ltk (by decide) hN) rfl rfl ?_
  refine ev_bipush d_106_25 cb_8 ?_
  refine ev_iload_n d_106_27 rfl ?_
  refine ev_imul (v := ((8 : Int32) * a0)) d_106_28 rfl ?_
  refine ev_iconst d_106_29 ci_2 ?_
  refine ev_iload_n d_106_30 rfl ?_
  refine ev_imul (v := (6 : Int32)) d_106_31 (by decide) ?_
  refine ev_iadd (v := (((8 : Int32) * a0) + (6 : Int32))) d_106_32 rfl ?_
  refine ev_iald (i := (((8 : Int32) * a0) + (6 : Int32)).toNatClampNeg) d_106_33 (ltk (by decide) hN) rfl (by first | assumption | (rcases n4 hn with rfl | rfl | rfl | rfl <;> exact vpi (by decide))) rfl ?_
  refine ev_istore (lv' := [(4, .int (σ.1 57 (((8 : Int32) * a0) + (6 : Int32)).toNatClampNeg)), (0, .ref 42), (1, .int a0), (2, .int b), (3, .int (3 : Int32))]) d_106_34 (by decide) rfl ?_
  refine ev_aload_n d_106_36 rfl ?_
  refine ev_getf (v := .ref 57) d_106_37 fl_7_53 (ltk (by decide) hN) rfl rfl ?_
  refine ev_bipush d_106_40 cb_8 ?_
  refine ev_iload_n d_106_42 rfl ?_
  refine ev_imul (v := ((8 : Int32) * a0)) d_106_43 rfl ?_
  refine ev_iconst d_106_44 ci_2 ?_
  refine ev_iload_n d_106_45 rfl ?_
  refine ev_imul (v := (6 : Int32)) d_106_46 (by decide) ?_
  refine ev_iadd (v := (((8 : Int32) * a0) + (6 : Int32))) d_106_47 rfl ?_
  refine ev_iconst d_106_48 ci_1 ?_
  refine ev_iadd (v := ((((8 : Int32) * a0) + (6 : Int32)) + (1 : Int32))) d_106_49 rfl ?_
  refine ev_iald (i := ((((8 : Int32) * a0) + (6 : Int32)) + (1 : Int32)).toNatClampNeg) d_106_50 (ltk (by decide) hN) rfl (by first | assumption | (rcases n4 hn with rfl | rfl | rfl | rfl <;> exact vpi (by decide))) rfl ?_
  refine ev_istore (lv' := [(5, .int (σ.1 57 ((((8 : Int32) * a0) + (6 : Int32)) + (1 : Int32)).toNatClampNeg)), (4, .int (σ.1 57 (((8 : Int32) * a0) + (6 : Int32)).toNatClampNeg)), (0, .ref 42), (1, .int a0), (2, .int b), (3, .int (3 : Int32))]) d_106_51 (by decide) rfl ?_
  refine ev_iload d_106_53 rfl ?_
  refine ev_bipush d_106_55 cb_99 ?_
  refine ev_icmp_eq mmSV (tgt := 94) d_106_57 rfl (fun _h57 => ?_) (fun _h57 => ?_)
  · refine ev_iinc (lv' := [(3, .int (4 : Int32)), (5, .int (σ.1 57 ((((8 : Int32) * a0) + (6 : Int32)) + (1 : Int32)).toNatClampNeg)), (4, .int (σ.1 57 (((8 : Int32) * a0) + (6 : Int32)).toNatClampNeg)), (0, .ref 42), (1, .int a0), (2, .int b)]) (v := (4 : Int32)) d_106_94 rfl (by decide) (by decide) rfl ?_
    refine ev_goto (tgt := 16) d_106_97 rfl ?_
    refine ev_sub (lv' := [(0, .ref 42), (1, .int a0), (2, .int b), (3, .int (4 : Int32))]) (by simp) ?_
    exact ev_m_reflA_L4 hN a0 b σ hn (by first | exact mn_up hm | exact mn_in (by decide) hm)
  · refine ev_iload d_106_60 rfl ?_
    refine ev_bipush d_106_62 cb_99 ?_
    refine ev_icmp_eq mmSV (tgt := 94) d_106_64 rfl (fun _h64 => ?_) (fun _h64 => ?_)
    · refine ev_iinc (lv' := [(3, .int (4 : Int32)), (5, .int (σ.1 57 ((((8 : Int32) * a0) + (6 : Int32)) + (1 : Int32)).toNatClampNeg)), (4, .int (σ.1 57 (((8 : Int32) * a0) + (6 : Int32)).toNatClampNeg)), (0, .ref 42), (1, .int a0), (2, .int b)]) (v := (4 : Int32)) d_106_94 rfl (by decide) (by decide) rfl ?_
      refine ev_goto (tgt := 16) d_106_97 rfl ?_
      refine ev_sub (lv' := [(0, .ref 42), (1, .int a0), (2, .int b), (3, .int (4 : Int32))]) (by simp) ?_
      exact ev_m_reflA_L4 hN a0 b σ hn (by first | exact mn_up hm | exact mn_in (by decide) hm)
    · refine ev_aload_n d_106_67 rfl ?_
      refine ev_getf (v := .ref 64) d_106_68 fl_7_74 (ltk (by decide) hN) rfl rfl ?_
      refine ev_aload_n d_106_71 rfl ?_
      refine ev_getf (v := .int (σ.1 42 28)) d_106_72 fl_7_113 (ltk (by decide) hN) rfl rfl ?_
      refine ev_iload d_106_75 rfl ?_
      refine ev_iload d_106_77 rfl ?_
      refine ev_isub (v := ((σ.1 57 ((((8 : Int32) * a0) + (6 : Int32)) + (1 : Int32)).toNatClampNeg) - (σ.1 57 (((8 : Int32) * a0) + (6 : Int32)).toNatClampNeg))) d_106_79 rfl ?_
      refine ev_iastore (i := (σ.1 42 28).toNatClampNeg) d_106_80 (ltk (by decide) hN) rfl (mn_ix (by decide) hm) rfl ?_
      refine ev_aload_n d_106_81 rfl ?_
      refine ev_dup d_106_82 rfl ?_
      refine ev_getf (v := .int (σ.1 42 28)) d_106_83 fl_7_113 (ltk (by decide) hN) rfl rfl ?_
      refine ev_iconst d_106_86 ci_1 ?_
      refine ev_iadd (v := ((σ.1 42 28) + (1 : Int32))) d_106_87 rfl ?_
      refine ev_putf d_106_88 fl_7_113 (ltk (by decide) hN) rfl rfl (Or.inl rfl) ?_
      refine ev_iinc (lv' := [(2, .int (b + Int32.ofInt (1))), (5, .int (σ.1 57 ((((8 : Int32) * a0) + (6 : Int32)) + (1 : Int32)).toNatClampNeg)), (4, .int (σ.1 57 (((8 : Int32) * a0) + (6 : Int32)).toNatClampNeg)), (0, .ref 42), (1, .int a0), (3, .int (3 : Int32))]) (v := (b + Int32.ofInt (1))) d_106_91 rfl rfl (by decide) rfl ?_
      refine ev_iinc (lv' := [(3, .int (4 : Int32)), (2, .int (b + Int32.ofInt (1))), (5, .int (σ.1 57 ((((8 : Int32) * a0) + (6 : Int32)) + (1 : Int32)).toNatClampNeg)), (4, .int (σ.1 57 (((8 : Int32) * a0) + (6 : Int32)).toNatClampNeg)), (0, .ref 42), (1, .int a0)]) (v := (4 : Int32)) d_106_94 rfl (by decide) (by decide) rfl ?_
      refine ev_goto (tgt := 16) d_106_97 rfl ?_
      refine ev_sub (lv' := [(0, .ref 42), (1, .int a0), (2, .int (b + Int32.ofInt (1))), (3, .int (4 : Int32))]) (by simp) ?_
      exact ev_m_reflA_L4 hN a0 (b + Int32.ofInt (1)) (mmI (mmI σ 64 (σ.1 42 28).toNatClampNeg ((σ.1 57 ((((8 : Int32) * a0) + (6 : Int32)) + (1 : Int32)).toNatClampNeg) - (σ.1 57 (((8 : Int32) * a0) + (6 : Int32)).toNatClampNeg))) 42 28 ((σ.1 42 28) + (1 : Int32))) hn (by first | exact mn_up hm | exact mn_in (by decide) hm)
def sp_m_reflA_L2 (a0 : Int32) (b : Int32) (σ : mmS) : mmS :=
if (σ.1 57 (((8 : Int32) * a0) + (4 : Int32)).toNatClampNeg) = (99 : Int32) then
  (sp_m_reflA_L3 a0 b σ)
else
  if (σ.1 57 ((((8 : Int32) * a0) + (4 : Int32)) + (1 : Int32)).toNatClampNeg) = (99 : Int32) then
    (sp_m_reflA_L3 a0 b σ)
  else
    (sp_m_reflA_L3 a0 (b + Int32.ofInt (1)) (mmI (mmI σ 64 (σ.1 42 28).toNatClampNeg ((σ.1 57 ((((8 : Int32) * a0) + (4 : Int32)) + (1 : Int32)).toNatClampNeg) - (σ.1 57 (((8 : Int32) * a0) + (4 : Int32)).toNatClampNeg))) 42 28 ((σ.1 42 28) + (1 : Int32))))
theorem ev_m_reflA_L2 (hN : 65 ≤ N) (a0 : Int32) (b : Int32) (σ : mmS) (hn : vp_in a0 4) (hm : mnK 3 σ) : Ev N L xs (106, 16, [(0, .ref 42), (1, .int a0), (2, .int b), (3, .int (2 : Int32))], [], 0, σ) (mmSV (sp_m_reflA_L2 a0 b σ)) := by
  unfold sp_m_reflA_L2
  refine ev_iload_n d_106_16 rfl ?_
  refine ev_iconst d_106_17 ci_4 ?_
  refine ev_icmpF (tgt := 100) d_106_18 rfl (show ¬ ((4 : Int32) ≤ (2 : Int32)) by decide) ?_
  refine ev_aload_n d_106_21 rfl ?_
  refine ev_getf (v := .ref 57) d_106_22 fl_7_53 (ltk (by decide) hN) rfl rfl ?_
  refine ev_bipush d_106_25 cb_8 ?_
  refine ev_iload_n d_106_27 rfl ?_
  refine ev_imul (v := ((8 : Int32) * a0)) d_106_28 rfl ?_
  refine ev_iconst d_106_29 ci_2 ?_
  refine ev_iload_n d_106_30 rfl ?_
  refine ev_imul (v := (4 : Int32)) d_106_31 (by decide) ?_
  refine ev_iadd (v := (((8 : Int32) * a0) + (4 : Int32))) d_106_32 rfl ?_
  refine ev_iald (i := (((8 : Int32) * a0) + (4 : Int32)).toNatClampNeg) d_106_33 (ltk (by decide) hN) rfl (by first | assumption | (rcases n4 hn with rfl | rfl | rfl | rfl <;> exact vpi (by decide))) rfl ?_
  refine ev_istore (lv' := [(4, .int (σ.1 57 (((8 : Int32) * a0) + (4 : Int32)).toNatClampNeg)), (0, .ref 42), (1, .int a0), (2, .int b), (3, .int (2 : Int32))]) d_106_34 (by decide) rfl ?_
  refine ev_aload_n d_106_36 rfl ?_
  refine ev_getf (v := .ref 57) d_106_37 fl_7_53 (ltk (by decide) hN) rfl rfl ?_
  refine ev_bipush d_106_40 cb_8 ?_
  refine ev_iload_n d_106_42 rfl ?_
  refine ev_imul (v := ((8 : Int32) * a0)) d_106_43 rfl ?_
  refine ev_iconst d_106_44 ci_2 ?_
  refine ev_iload_n d_106_45 rfl ?_
  refine ev_imul (v := (4 : Int32)) d_106_46 (by decide) ?_
  refine ev_iadd (v := (((8 : Int32) * a0) + (4 : Int32))) d_106_47 rfl ?_
  refine ev_iconst d_106_48 ci_1 ?_
  refine ev_iadd (v := ((((8 : Int32) * a0) + (4 : Int32)) + (1 : Int32))) d_106_49 rfl ?_
  refine ev_iald (i := ((((8 : Int32) * a0) + (4 : Int32)) + (1 : Int32)).toNatClampNeg) d_106_50 (ltk (by decide) hN) rfl (by first | assumption | (rcases n4 hn with rfl | rfl | rfl | rfl <;> exact vpi (by decide))) rfl ?_
  refine ev_istore (lv' := [(5, .int (σ.1 57 ((((8 : Int32) * a0) + (4 : Int32)) + (1 : Int32)).toNatClampNeg)), (4, .int (σ.1 57 (((8 : Int32) * a0) + (4 : Int32)).toNatClampNeg)), (0, .ref 42), (1, .int a0), (2, .int b), (3, .int (2 : Int32))]) d_106_51 (by decide) rfl ?_
  refine ev_iload d_106_53 rfl ?_
  refine ev_bipush d_106_55 cb_99 ?_
  refine ev_icmp_eq mmSV (tgt := 94) d_106_57 rfl (fun _h57 => ?_) (fun _h57 => ?_)
  · refine ev_iinc (lv' := [(3, .int (3 : Int32)), (5, .int (σ.1 57 ((((8 : Int32) * a0) + (4 : Int32)) + (1 : Int32)).toNatClampNeg)), (4, .int (σ.1 57 (((8 : Int32) * a0) + (4 : Int32)).toNatClampNeg)), (0, .ref 42), (1, .int a0), (2, .int b)]) (v := (3 : Int32)) d_106_94 rfl (by decide) (by decide) rfl ?_
    refine ev_goto (tgt := 16) d_106_97 rfl ?_
    refine ev_sub (lv' := [(0, .ref 42), (1, .int a0), (2, .int b), (3, .int (3 : Int32))]) (by simp) ?_
    exact ev_m_reflA_L3 hN a0 b σ hn (by first | exact mn_up hm | exact mn_in (by decide) hm)
  · refine ev_iload d_106_60 rfl ?_
    refine ev_bipush d_106_62 cb_99 ?_
    refine ev_icmp_eq mmSV (tgt := 94) d_106_64 rfl (fun _h64 => ?_) (fun _h64 => ?_)
    · refine ev_iinc (lv' := [(3, .int (3 : Int32)), (5, .int (σ.1 57 ((((8 : Int32) * a0) + (4 : Int32)) + (1 : Int32)).toNatClampNeg)), (4, .int (σ.1 57 (((8 : Int32) * a0) + (4 : Int32)).toNatClampNeg)), (0, .ref 42), (1, .int a0), (2, .int b)]) (v := (3 : Int32)) d_106_94 rfl (by decide) (by decide) rfl ?_
      refine ev_goto (tgt := 16) d_106_97 rfl ?_
      refine ev_sub (lv' := [(0, .ref 42), (1, .int a0), (2, .int b), (3, .int (3 : Int32))]) (by simp) ?_
      exact ev_m_reflA_L3 hN a0 b σ hn (by first | exact mn_up hm | exact mn_in (by decide) hm)
    · refine ev_aload_n d_106_67 rfl ?_
      refine ev_getf (v := .ref 64) d_106_68 fl_7_74 (ltk (by decide) hN) rfl rfl ?_
      refine ev_aload_n d_106_71 rfl ?_
      refine ev_getf (v := .int (σ.1 42 28)) d_106_72 fl_7_113 (ltk (by decide) hN) rfl rfl ?_
      refine ev_iload d_106_75 rfl ?_
      refine ev_iload d_106_77 rfl ?_
      refine ev_isub (v := ((σ.1 57 ((((8 : Int32) * a0) + (4 : Int32)) + (1 : Int32)).toNatClampNeg) - (σ.1 57 (((8 : Int32) * a0) + (4 : Int32)).toNatClampNeg))) d_106_79 rfl ?_
      refine ev_iastore (i := (σ.1 42 28).toNatClampNeg) d_106_80 (ltk (by decide) hN) rfl (mn_ix (by decide) hm) rfl ?_
      refine ev_aload_n d_106_81 rfl ?_
      refine ev_dup d_106_82 rfl ?_
      refine ev_getf (v := .int (σ.1 42 28)) d_106_83 fl_7_113 (ltk (by decide) hN) rfl rfl ?_
      refine ev_iconst d_106_86 ci_1 ?_
      refine ev_iadd (v := ((σ.1 42 28) + (1 : Int32))) d_106_87 rfl ?_
      refine ev_putf d_106_88 fl_7_113 (ltk (by decide) hN) rfl rfl (Or.inl rfl) ?_
      refine ev_iinc (lv' := [(2, .int (b + Int32.ofInt (1))), (5, .int (σ.1 57 ((((8 : Int32) * a0) + (4 : Int32)) + (1 : Int32)).toNatClampNeg)), (4, .int (σ.1 57 (((8 : Int32) * a0) + (4 : Int32)).toNatClampNeg)), (0, .ref 42), (1, .int a0), (3, .int (2 : Int32))]) (v := (b + Int32.ofInt (1))) d_106_91 rfl rfl (by decide) rfl ?_
      refine ev_iinc (lv' := [(3, .int (3 : Int32)), (2, .int (b + Int32.ofInt (1))), (5, .int (σ.1 57 ((((8 : Int32) * a0) + (4 : Int32)) + (1 : Int32)).toNatClampNeg)), (4, .int (σ.1 57 (((8 : Int32) * a0) + (4 : Int32)).toNatClampNeg)), (0, .ref 42), (1, .int a0)]) (v := (3 : Int32)) d_106_94 rfl (by decide) (by decide) rfl ?_
      refine ev_goto (tgt := 16) d_106_97 rfl ?_
      refine ev_sub (lv' := [(0, .ref 42), (1, .int a0), (2, .int (b + Int32.ofInt (1))), (3, .int (3 : Int32))]) (by simp) ?_
      exact ev_m_reflA_L3 hN a0 (b + Int32.ofInt (1)) (mmI (mmI σ 64 (σ.1 42 28).toNatClampNeg ((σ.1 57 ((((8 : Int32) * a0) + (4 : Int32)) + (1 : Int32)).toNatClampNeg) - (σ.1 57 (((8 : Int32) * a0) + (4 : Int32)).toNatClampNeg))) 42 28 ((σ.1 42 28) + (1 : Int32))) hn (by first | exact mn_up hm | exact mn_in (by decide) hm)
def sp_m_reflA_L1 (a0 : Int32) (b : Int32) (σ : mmS) : mmS :=
if (σ.1 57 (((8 : Int32) * a0) + (2 : Int32)).toNatClampNeg) = (99 : Int32) then
  (sp_m_reflA_L2 a0 b σ)
else
  if (σ.1 57 ((((8 : Int32) * a0) + (2 : Int32)) + (1 : Int32)).toNatClampNeg) = (99 : Int32) then
    (sp_m_reflA_L2 a0 b σ)
  else
    (sp_m_reflA_L2 a0 (b + Int32.ofInt (1)) (mmI (mmI σ 64 (σ.1 42 28).toNatClampNeg ((σ.1 57 ((((8 : Int32) * a0) + (2 : Int32)) + (1 : Int32)).toNatClampNeg) - (σ.1 57 (((8 : Int32) * a0) + (2 : Int32)).toNatClampNeg))) 42 28 ((σ.1 42 28) + (1 : Int32))))
theorem ev_m_reflA_L1 (hN : 65 ≤ N) (a0 : Int32) (b : Int32) (σ : mmS) (hn : vp_in a0 4) (hm : mnK 2 σ) : Ev N L xs (106, 16, [(0, .ref 42), (1, .int a0), (2, .int b), (3, .int (1 : Int32))], [], 0, σ) (mmSV (sp_m_reflA_L1 a0 b σ)) := by
  unfold sp_m_reflA_L1
  refine ev_iload_n d_106_16 rfl ?_
  refine ev_iconst d_106_17 ci_4 ?_
  refine ev_icmpF (tgt := 100) d_106_18 rfl (show ¬ ((4 : Int32) ≤ (1 : Int32)) by decide) ?_
  refine ev_aload_n d_106_21 rfl ?_
  refine ev_getf (v := .ref 57) d_106_22 fl_7_53 (ltk (by decide) hN) rfl rfl ?_
  refine ev_bipush d_106_25 cb_8 ?_
  refine ev_iload_n d_106_27 rfl ?_
  refine ev_imul (v := ((8 : Int32) * a0)) d_106_28 rfl ?_
  refine ev_iconst d_106_29 ci_2 ?_
  refine ev_iload_n d_106_30 rfl ?_
  refine ev_imul (v := (2 : Int32)) d_106_31 (by decide) ?_
  refine ev_iadd (v := (((8 : Int32) * a0) + (2 : Int32))) d_106_32 rfl ?_
  refine ev_iald (i := (((8 : Int32) * a0) + (2 : Int32)).toNatClampNeg) d_106_33 (ltk (by decide) hN) rfl (by first | assumption | (rcases n4 hn with rfl | rfl | rfl | rfl <;> exact vpi (by decide))) rfl ?_
  refine ev_istore (lv' := [(4, .int (σ.1 57 (((8 : Int32) * a0) + (2 : Int32)).toNatClampNeg)), (0, .ref 42), (1, .int a0), (2, .int b), (3, .int (1 : Int32))]) d_106_34 (by decide) rfl ?_
  refine ev_aload_n d_106_36 rfl ?_
  refine ev_getf (v := .ref 57) d_106_37 fl_7_53 (ltk (by decide) hN) rfl rfl ?_
  refine ev_bipush d_106_40 cb_8 ?_
  refine ev_iload_n d_106_42 rfl ?_
  refine ev_imul (v := ((8 : Int32) * a0)) d_106_43 rfl ?_
  refine ev_iconst d_106_44 ci_2 ?_
  refine ev_iload_n d_106_45 rfl ?_
  refine ev_imul (v := (2 : Int32)) d_106_46 (by decide) ?_
  refine ev_iadd (v := (((8 : Int32) * a0) + (2 : Int32))) d_106_47 rfl ?_
  refine ev_iconst d_106_48 ci_1 ?_
  refine ev_iadd (v := ((((8 : Int32) * a0) + (2 : Int32)) + (1 : Int32))) d_106_49 rfl ?_
  refine ev_iald (i := ((((8 : Int32) * a0) + (2 : Int32)) + (1 : Int32)).toNatClampNeg) d_106_50 (ltk (by decide) hN) rfl (by first | assumption | (rcases n4 hn with rfl | rfl | rfl | rfl <;> exact vpi (by decide))) rfl ?_
  refine ev_istore (lv' := [(5, .int (σ.1 57 ((((8 : Int32) * a0) + (2 : Int32)) + (1 : Int32)).toNatClampNeg)), (4, .int (σ.1 57 (((8 : Int32) * a0) + (2 : Int32)).toNatClampNeg)), (0, .ref 42), (1, .int a0), (2, .int b), (3, .int (1 : Int32))]) d_106_51 (by decide) rfl ?_
  refine ev_iload d_106_53 rfl ?_
  refine ev_bipush d_106_55 cb_99 ?_
  refine ev_icmp_eq mmSV (tgt := 94) d_106_57 rfl (fun _h57 => ?_) (fun _h57 => ?_)
  · refine ev_iinc (lv' := [(3, .int (2 : Int32)), (5, .int (σ.1 57 ((((8 : Int32) * a0) + (2 : Int32)) + (1 : Int32)).toNatClampNeg)), (4, .int (σ.1 57 (((8 : Int32) * a0) + (2 : Int32)).toNatClampNeg)), (0, .ref 42), (1, .int a0), (2, .int b)]) (v := (2 : Int32)) d_106_94 rfl (by decide) (by decide) rfl ?_
    refine ev_goto (tgt := 16) d_106_97 rfl ?_
    refine ev_sub (lv' := [(0, .ref 42), (1, .int a0), (2, .int b), (3, .int (2 : Int32))]) (by simp) ?_
    exact ev_m_reflA_L2 hN a0 b σ hn (by first | exact mn_up hm | exact mn_in (by decide) hm)
  · refine ev_iload d_106_60 rfl ?_
    refine ev_bipush d_106_62 cb_99 ?_
    refine ev_icmp_eq mmSV (tgt := 94) d_106_64 rfl (fun _h64 => ?_) (fun _h64 => ?_)
    · refine ev_iinc (lv' := [(3, .int (2 : Int32)), (5, .int (σ.1 57 ((((8 : Int32) * a0) + (2 : Int32)) + (1 : Int32)).toNatClampNeg)), (4, .int (σ.1 57 (((8 : Int32) * a0) + (2 : Int32)).toNatClampNeg)), (0, .ref 42), (1, .int a0), (2, .int b)]) (v := (2 : Int32)) d_106_94 rfl (by decide) (by decide) rfl ?_
      refine ev_goto (tgt := 16) d_106_97 rfl ?_
      refine ev_sub (lv' := [(0, .ref 42), (1, .int a0), (2, .int b), (3, .int (2 : Int32))]) (by simp) ?_
      exact ev_m_reflA_L2 hN a0 b σ hn (by first | exact mn_up hm | exact mn_in (by decide) hm)
    · refine ev_aload_n d_106_67 rfl ?_
      refine ev_getf (v := .ref 64) d_106_68 fl_7_74 (ltk (by decide) hN) rfl rfl ?_
      refine ev_aload_n d_106_71 rfl ?_
      refine ev_getf (v := .int (σ.1 42 28)) d_106_72 fl_7_113 (ltk (by decide) hN) rfl rfl ?_
      refine ev_iload d_106_75 rfl ?_
      refine ev_iload d_106_77 rfl ?_
      refine ev_isub (v := ((σ.1 57 ((((8 : Int32) * a0) + (2 : Int32)) + (1 : Int32)).toNatClampNeg) - (σ.1 57 (((8 : Int32) * a0) + (2 : Int32)).toNatClampNeg))) d_106_79 rfl ?_
      refine ev_iastore (i := (σ.1 42 28).toNatClampNeg) d_106_80 (ltk (by decide) hN) rfl (mn_ix (by decide) hm) rfl ?_
      refine ev_aload_n d_106_81 rfl ?_
      refine ev_dup d_106_82 rfl ?_
      refine ev_getf (v := .int (σ.1 42 28)) d_106_83 fl_7_113 (ltk (by decide) hN) rfl rfl ?_
      refine ev_iconst d_106_86 ci_1 ?_
      refine ev_iadd (v := ((σ.1 42 28) + (1 : Int32))) d_106_87 rfl ?_
      refine ev_putf d_106_88 fl_7_113 (ltk (by decide) hN) rfl rfl (Or.inl rfl) ?_
      refine ev_iinc (lv' := [(2, .int (b + Int32.ofInt (1))), (5, .int (σ.1 57 ((((8 : Int32) * a0) + (2 : Int32)) + (1 : Int32)).toNatClampNeg)), (4, .int (σ.1 57 (((8 : Int32) * a0) + (2 : Int32)).toNatClampNeg)), (0, .ref 42), (1, .int a0), (3, .int (1 : Int32))]) (v := (b + Int32.ofInt (1))) d_106_91 rfl rfl (by decide) rfl ?_
      refine ev_iinc (lv' := [(3, .int (2 : Int32)), (2, .int (b + Int32.ofInt (1))), (5, .int (σ.1 57 ((((8 : Int32) * a0) + (2 : Int32)) + (1 : Int32)).toNatClampNeg)), (4, .int (σ.1 57 (((8 : Int32) * a0) + (2 : Int32)).toNatClampNeg)), (0, .ref 42), (1, .int a0)]) (v := (2 : Int32)) d_106_94 rfl (by decide) (by decide) rfl ?_
      refine ev_goto (tgt := 16) d_106_97 rfl ?_
      refine ev_sub (lv' := [(0, .ref 42), (1, .int a0), (2, .int (b + Int32.ofInt (1))), (3, .int (2 : Int32))]) (by simp) ?_
      exact ev_m_reflA_L2 hN a0 (b + Int32.ofInt (1)) (mmI (mmI σ 64 (σ.1 42 28).toNatClampNeg ((σ.1 57 ((((8 : Int32) * a0) + (2 : Int32)) + (1 : Int32)).toNatClampNeg) - (σ.1 57 (((8 : Int32) * a0) + (2 : Int32)).toNatClampNeg))) 42 28 ((σ.1 42 28) + (1 : Int32))) hn (by first | exact mn_up hm | exact mn_in (by decide) hm)
def sp_m_reflA_L0 (a0 : Int32) (b : Int32) (σ : mmS) : mmS :=
if (σ.1 57 (((8 : Int32) * a0) + (0 : Int32)).toNatClampNeg) = (99 : Int32) then
  (sp_m_reflA_L1 a0 b σ)
else
  if (σ.1 57 ((((8 : Int32) * a0) + (0 : Int32)) + (1 : Int32)).toNatClampNeg) = (99 : Int32) then
    (sp_m_reflA_L1 a0 b σ)
  else
    (sp_m_reflA_L1 a0 (b + Int32.ofInt (1)) (mmI (mmI σ 64 (σ.1 42 28).toNatClampNeg ((σ.1 57 ((((8 : Int32) * a0) + (0 : Int32)) + (1 : Int32)).toNatClampNeg) - (σ.1 57 (((8 : Int32) * a0) + (0 : Int32)).toNatClampNeg))) 42 28 ((σ.1 42 28) + (1 : Int32))))
theorem ev_m_reflA_L0 (hN : 65 ≤ N) (a0 : Int32) (b : Int32) (σ : mmS) (hn : vp_in a0 4) (hm : mnK 1 σ) : Ev N L xs (106, 16, [(0, .ref 42), (1, .int a0), (2, .int b), (3, .int (0 : Int32))], [], 0, σ) (mmSV (sp_m_reflA_L0 a0 b σ)) := by
  unfold sp_m_reflA_L0
  refine ev_iload_n d_106_16 rfl ?_
  refine ev_iconst d_106_17 ci_4 ?_
  refine ev_icmpF (tgt := 100) d_106_18 rfl (show ¬ ((4 : Int32) ≤ (0 : Int32)) by decide) ?_
  refine ev_aload_n d_106_21 rfl ?_
  refine ev_getf (v := .ref 57) d_106_22 fl_7_53 (ltk (by decide) hN) rfl rfl ?_
  refine ev_bipush d_106_25 cb_8 ?_
  refine ev_iload_n d_106_27 rfl ?_
  refine ev_imul (v := ((8 : Int32) * a0)) d_106_28 rfl ?_
  refine ev_iconst d_106_29 ci_2 ?_
  refine ev_iload_n d_106_30 rfl ?_
  refine ev_imul (v := (0 : Int32)) d_106_31 (by decide) ?_
  refine ev_iadd (v := (((8 : Int32) * a0) + (0 : Int32))) d_106_32 rfl ?_
  refine ev_iald (i := (((8 : Int32) * a0) + (0 : Int32)).toNatClampNeg) d_106_33 (ltk (by decide) hN) rfl (by first | assumption | (rcases n4 hn with rfl | rfl | rfl | rfl <;> exact vpi (by decide))) rfl ?_
  refine ev_istore (lv' := [(4, .int (σ.1 57 (((8 : Int32) * a0) + (0 : Int32)).toNatClampNeg)), (0, .ref 42), (1, .int a0), (2, .int b), (3, .int (0 : Int32))]) d_106_34 (by decide) rfl ?_
  refine ev_aload_n d_106_36 rfl ?_
  refine ev_getf (v := .ref 57) d_106_37 fl_7_53 (ltk (by decide) hN) rfl rfl ?_
  refine ev_bipush d_106_40 cb_8 ?_
  refine ev_iload_n d_106_42 rfl ?_
  refine ev_imul (v := ((8 : Int32) * a0)) d_106_43 rfl ?_
  refine ev_iconst d_106_44 ci_2 ?_
  refine ev_iload_n d_106_45 rfl ?_
  refine ev_imul (v := (0 : Int32)) d_106_46 (by decide) ?_
  refine ev_iadd (v := (((8 : Int32) * a0) + (0 : Int32))) d_106_47 rfl ?_
  refine ev_iconst d_106_48 ci_1 ?_
  refine ev_iadd (v := ((((8 : Int32) * a0) + (0 : Int32)) + (1 : Int32))) d_106_49 rfl ?_
  refine ev_iald (i := ((((8 : Int32) * a0) + (0 : Int32)) + (1 : Int32)).toNatClampNeg) d_106_50 (ltk (by decide) hN) rfl (by first | assumption | (rcases n4 hn with rfl | rfl | rfl | rfl <;> exact vpi (by decide))) rfl ?_
  refine ev_istore (lv' := [(5, .int (σ.1 57 ((((8 : Int32) * a0) + (0 : Int32)) + (1 : Int32)).toNatClampNeg)), (4, .int (σ.1 57 (((8 : Int32) * a0) + (0 : Int32)).toNatClampNeg)), (0, .ref 42), (1, .int a0), (2, .int b), (3, .int (0 : Int32))]) d_106_51 (by decide) rfl ?_
  refine ev_iload d_106_53 rfl ?_
  refine ev_bipush d_106_55 cb_99 ?_
  refine ev_icmp_eq mmSV (tgt := 94) d_106_57 rfl (fun _h57 => ?_) (fun _h57 => ?_)
  · refine ev_iinc (lv' := [(3, .int (1 : Int32)), (5, .int (σ.1 57 ((((8 : Int32) * a0) + (0 : Int32)) + (1 : Int32)).toNatClampNeg)), (4, .int (σ.1 57 (((8 : Int32) * a0) + (0 : Int32)).toNatClampNeg)), (0, .ref 42), (1, .int a0), (2, .int b)]) (v := (1 : Int32)) d_106_94 rfl (by decide) (by decide) rfl ?_
    refine ev_goto (tgt := 16) d_106_97 rfl ?_
    refine ev_sub (lv' := [(0, .ref 42), (1, .int a0), (2, .int b), (3, .int (1 : Int32))]) (by simp) ?_
    exact ev_m_reflA_L1 hN a0 b σ hn (by first | exact mn_up hm | exact mn_in (by decide) hm)
  · refine ev_iload d_106_60 rfl ?_
    refine ev_bipush d_106_62 cb_99 ?_
    refine ev_icmp_eq mmSV (tgt := 94) d_106_64 rfl (fun _h64 => ?_) (fun _h64 => ?_)
    · refine ev_iinc (lv' := [(3, .int (1 : Int32)), (5, .int (σ.1 57 ((((8 : Int32) * a0) + (0 : Int32)) + (1 : Int32)).toNatClampNeg)), (4, .int (σ.1 57 (((8 : Int32) * a0) + (0 : Int32)).toNatClampNeg)), (0, .ref 42), (1, .int a0), (2, .int b)]) (v := (1 : Int32)) d_106_94 rfl (by decide) (by decide) rfl ?_
      refine ev_goto (tgt := 16) d_106_97 rfl ?_
      refine ev_sub (lv' := [(0, .ref 42), (1, .int a0), (2, .int b), (3, .int (1 : Int32))]) (by simp) ?_
      exact ev_m_reflA_L1 hN a0 b σ hn (by first | exact mn_up hm | exact mn_in (by decide) hm)
    · refine ev_aload_n d_106_67 rfl ?_
      refine ev_getf (v := .ref 64) d_106_68 fl_7_74 (ltk (by decide) hN) rfl rfl ?_
      refine ev_aload_n d_106_71 rfl ?_
      refine ev_getf (v := .int (σ.1 42 28)) d_106_72 fl_7_113 (ltk (by decide) hN) rfl rfl ?_
      refine ev_iload d_106_75 rfl ?_
      refine ev_iload d_106_77 rfl ?_
      refine ev_isub (v := ((σ.1 57 ((((8 : Int32) * a0) + (0 : Int32)) + (1 : Int32)).toNatClampNeg) - (σ.1 57 (((8 : Int32) * a0) + (0 : Int32)).toNatClampNeg))) d_106_79 rfl ?_
      refine ev_iastore (i := (σ.1 42 28).toNatClampNeg) d_106_80 (ltk (by decide) hN) rfl (mn_ix (by decide) hm) rfl ?_
      refine ev_aload_n d_106_81 rfl ?_
      refine ev_dup d_106_82 rfl ?_
      refine ev_getf (v := .int (σ.1 42 28)) d_106_83 fl_7_113 (ltk (by decide) hN) rfl rfl ?_
      refine ev_iconst d_106_86 ci_1 ?_
      refine ev_iadd (v := ((σ.1 42 28) + (1 : Int32))) d_106_87 rfl ?_
      refine ev_putf d_106_88 fl_7_113 (ltk (by decide) hN) rfl rfl (Or.inl rfl) ?_
      refine ev_iinc (lv' := [(2, .int (b + Int32.ofInt (1))), (5, .int (σ.1 57 ((((8 : Int32) * a0) + (0 : Int32)) + (1 : Int32)).toNatClampNeg)), (4, .int (σ.1 57 (((8 : Int32) * a0) + (0 : Int32)).toNatClampNeg)), (0, .ref 42), (1, .int a0), (3, .int (0 : Int32))]) (v := (b + Int32.ofInt (1))) d_106_91 rfl rfl (by decide) rfl ?_
      refine ev_iinc (lv' := [(3, .int (1 : Int32)), (2, .int (b + Int32.ofInt (1))), (5, .int (σ.1 57 ((((8 : Int32) * a0) + (0 : Int32)) + (1 : Int32)).toNatClampNeg)), (4, .int (σ.1 57 (((8 : Int32) * a0) + (0 : Int32)).toNatClampNeg)), (0, .ref 42), (1, .int a0)]) (v := (1 : Int32)) d_106_94 rfl (by decide) (by decide) rfl ?_
      refine ev_goto (tgt := 16) d_106_97 rfl ?_
      refine ev_sub (lv' := [(0, .ref 42), (1, .int a0), (2, .int (b + Int32.ofInt (1))), (3, .int (1 : Int32))]) (by simp) ?_
      exact ev_m_reflA_L1 hN a0 (b + Int32.ofInt (1)) (mmI (mmI σ 64 (σ.1 42 28).toNatClampNeg ((σ.1 57 ((((8 : Int32) * a0) + (0 : Int32)) + (1 : Int32)).toNatClampNeg) - (σ.1 57 (((8 : Int32) * a0) + (0 : Int32)).toNatClampNeg))) 42 28 ((σ.1 42 28) + (1 : Int32))) hn (by first | exact mn_up hm | exact mn_in (by decide) hm)
def sp_m_reflect (a0 : Int32) (σ : mmS) : mmS :=
(sp_m_reflA_L0 a0 (0 : Int32) (mmI (mmI σ 42 28 (1 : Int32)) 64 0 (0 : Int32)))
theorem ev_m_reflect (hN : 65 ≤ N) (a0 : Int32) (σ : mmS) (hn : vp_in a0 4) : Ev N L xs (106, 0, lv_args 0 [.ref 42, .int a0], [], 0, σ) (mmSV (sp_m_reflect a0 σ)) := by
  unfold sp_m_reflect
  show Ev N L xs (106, 0, [(0, .ref 42), (1, .int a0)], [], 0, σ) _
  refine ev_iconst d_106_0 ci_0 ?_
  refine ev_istore_n (lv' := [(2, .int (0 : Int32)), (0, .ref 42), (1, .int a0)]) d_106_1 (by decide) rfl ?_
  refine ev_aload_n d_106_2 rfl ?_
  refine ev_iconst d_106_3 ci_1 ?_
  refine ev_putf d_106_4 fl_7_113 (ltk (by decide) hN) rfl rfl (Or.inl rfl) ?_
  refine ev_aload_n d_106_7 rfl ?_
  refine ev_getf (v := .ref 64) d_106_8 fl_7_74 (ltk (by decide) hN) rfl rfl ?_
  refine ev_iconst d_106_11 ci_0 ?_
  refine ev_iconst d_106_12 ci_0 ?_
  refine ev_iastore (i := 0) d_106_13 (ltk (by decide) hN) rfl (vpi (by decide)) (by decide) ?_
  refine ev_iconst d_106_14 ci_0 ?_
  refine ev_istore_n (lv' := [(3, .int (0 : Int32)), (2, .int (0 : Int32)), (0, .ref 42), (1, .int a0)]) d_106_15 (by decide) rfl ?_
  refine ev_sub (lv' := [(0, .ref 42), (1, .int a0), (2, .int (0 : Int32)), (3, .int (0 : Int32))]) (by simp) ?_
  exact ev_m_reflA_L0 hN a0 (0 : Int32) (mmI (mmI σ 42 28 (1 : Int32)) 64 0 (0 : Int32)) hn (mn_1 _ _)
end SP
