/-! the law at REPORT.md's script: class and reference part at its last call -/
section FC
variable {N L : Nat} {xs : Nat → Int32} {σ γ : mmS}
theorem rb_inG {σ1 σ2 : mmS} (h : RB γ σ) (hf : fC σ σ1) (h1 : σ2.1 = σ1.1) (h2 : σ2.2 42 = σ1.2 42) : RB γ σ2 := by
  have e1 : ∀ k, 42 ≤ k → σ2.1 k = σ.1 k := fun k hk => by rw [h1]; exact hf.1 k hk
  have e2 : σ2.2 42 = σ.2 42 := h2.trans (hf.2 42 (by decide))
  refine ⟨fun i hi => ?_, ?_⟩
  · have hr := h.1 i hi
    unfold RI at hr ⊢
    simpa only [e1, Nat.reduceLeDiff] using hr
  · have hb := h.2
    unfold BI at hb ⊢
    rw [e1 42 (by decide), e2]
    exact hb
theorem sgG_power (hN : 66 ≤ N) (a0 : Int32) (h : RB σ σ) (g : RB γ σ) : ∃ k σ1, Ev N L xs (3, 0, lv_args 0 [.ref 0, .int a0], [], 0, σ) (mmSI (k, σ1)) ∧ (sp_m_power a0 σ1).1 42 0 = k ∧ RB (sp_m_power a0 σ1) (sp_m_power a0 σ1) ∧ RB (sp_b_power a0 γ).2 (sp_m_power a0 σ1) := by
  obtain ⟨k, σ1, hX, hf, hall⟩ := sx_power a0 σ
  obtain ⟨k', γ1, hX', hf', hall'⟩ := sx_power a0 γ
  have e : (sp_b_power a0 γ).2 = γ1 := by rcases hX' with ⟨-, e⟩ | ⟨-, e⟩ | ⟨-, e⟩ <;> rw [e]
  have hi : RB σ σ1 := rb_in h hf rfl rfl
  have hg : RB γ σ1 := rb_inG g hf rfl rfl
  obtain ⟨q1, q2⟩ := hall σ1 hi
  have hz := rb_out q2 rfl rfl (ho_power (hO_refl σ1))
  have hy : RB (sp_b_power a0 γ).2 (sp_m_power a0 σ1) := by rw [e]; exact (hall' σ1 hg).2
  rcases hX with ⟨rfl, hr⟩ | ⟨rfl, hr⟩ | ⟨rfl, hr⟩
  · exact ⟨0, σ1, lw_power_ok hN a0 σ σ1 hr, q1, hz, hy⟩
  · exact ⟨1, σ1, lw_power_1 hN a0 σ σ1 hr, q1, hz, hy⟩
  · exact ⟨2, σ1, lw_power_2 hN a0 σ σ1 hr, q1, hz, hy⟩
theorem sgG_disturb (hN : 66 ≤ N) (a0 : Int64) (h : RB σ σ) (g : RB γ σ) : ∃ k σ1, Ev N L xs (72, 0, lv_args 0 [.ref 0, .long a0], [], 0, σ) (mmSI (k, σ1)) ∧ (sp_m_disturb a0 σ1).1 42 0 = k ∧ RB (sp_m_disturb a0 σ1) (sp_m_disturb a0 σ1) ∧ RB (sp_b_disturb a0 γ).2 (sp_m_disturb a0 σ1) := by
  obtain ⟨k, σ1, hX, hf, hall⟩ := sx_disturb a0 σ
  obtain ⟨k', γ1, hX', hf', hall'⟩ := sx_disturb a0 γ
  have e : (sp_b_disturb a0 γ).2 = γ1 := by rcases hX' with ⟨-, e⟩ | ⟨-, e⟩ <;> rw [e]
  have hi : RB σ σ1 := rb_in h hf rfl rfl
  have hg : RB γ σ1 := rb_inG g hf rfl rfl
  obtain ⟨q1, q2⟩ := hall σ1 hi
  have hz := rb_out q2 rfl rfl (ho_disturb (hO_refl σ1))
  have hy : RB (sp_b_disturb a0 γ).2 (sp_m_disturb a0 σ1) := by rw [e]; exact (hall' σ1 hg).2
  rcases hX with ⟨rfl, hr⟩ | ⟨rfl, hr⟩
  · exact ⟨0, σ1, lw_disturb_ok hN a0 σ σ1 hr, q1, hz, hy⟩
  · exact ⟨1, σ1, lw_disturb_1 hN a0 σ σ1 hr, q1, hz, hy⟩
theorem sgG_run (hN : 66 ≤ N) (a0 : Int32) (h : RB σ σ) (g : RB γ σ) : ∃ k σ1, Ev N L xs (14, 0, lv_args 0 [.ref 0, .int a0, .ref 65], [], 0, σ) (mmSI (k, σ1)) ∧ RB σ σ1 ∧ (sp_m_run a0 σ1).2.1 42 0 = k ∧ (k = 0 → lg_cmp ((sp_m_run a0 σ1).2.2 65 0) ((sp_m_run a0 σ1).1).toInt64 = 0) ∧ RB (sp_m_run a0 σ1).2 (sp_m_run a0 σ1).2 ∧ RB (sp_b_run a0 γ).2 (sp_m_run a0 σ1).2 := by
  obtain ⟨k, v, σ1, hX, hf, hall⟩ := sx_run a0 σ
  obtain ⟨k', v', γ1, hX', hf', hall'⟩ := sx_run a0 γ
  have e : (sp_b_run a0 γ).2 = γ1 := by rcases hX' with ⟨-, e⟩ | ⟨-, e⟩ <;> rw [e]
  rw [e]
  rcases hX with ⟨rfl, hr⟩ | ⟨rfl, hr⟩
  · have hi : RB σ (mmJ σ1 65 0 v.toInt64) := rb_in h hf rfl o42
    have hg : RB γ (mmJ σ1 65 0 v.toInt64) := rb_inG g hf rfl o42
    obtain ⟨q1, q2, q3⟩ := hall _ hi
    refine ⟨0, _, lw_run_ok hN a0 σ σ1 v hr, hi, q1, fun _ => ?_, rb_out (σ2 := mmJ σ1 65 0 v.toInt64) q3 rfl o0 (ho_run (hO_refl _)), (hall' _ hg).2.2⟩
    rw [(ho_run (hO_refl _)).2 65 (by decide), rdJS, q2 rfl]
    exact lgS _
  · have hi : RB σ σ1 := rb_in h hf rfl rfl
    have hg : RB γ σ1 := rb_inG g hf rfl rfl
    obtain ⟨q1, q2, q3⟩ := hall _ hi
    exact ⟨1, σ1, lw_run_1 hN a0 σ σ1 hr, hi, q1, no1, rb_out q3 rfl rfl (ho_run (hO_refl _)), (hall' _ hg).2.2⟩
theorem rb_dev11 (h : RB γ σ) : cv (γ.1 16 1) = σ.1 57 10 := (rb_dev (j := 1) (i := 1) (by decide) (by decide) h).1.1
/-- from here the law comes to its end and answers 0 -/
def Fin0 (pc p e : Nat) (σ : mmS) : Prop := ∃ σ', Ev 66 61 xsF (132, pc, LVp p, [], e, σ) (mmPI σ' 0)
theorem f_power (p e : Nat) (a : Int32) (h0 : xsF p &&& (15 : Int32) = 0) (ha : xsF (p + 1) = a) (hp : p + 6 ≤ 61) (he : e + 24 ≤ 20000) (h : RB σ σ) (g : RB γ σ) (hk : ∀ e' σ', e' ≤ e + 12 → RB σ' σ' → RB (fP a γ) σ' → Fin0 33 (p + 6) e' σ') : Fin0 33 p e σ := by
  subst ha
  obtain ⟨k, σ1, hw, q1, hz, hy⟩ := sgG_power (N := 66) (L := 61) (xs := xsF) (Nat.le_refl _) (xsF (p + 1)) h g
  obtain ⟨σ2, r⟩ := hk (e + 2) _ (by omega) hz hy
  exact ⟨σ2, law_to0 p e hp (by decide) σ _ h0 (law_0 (Nat.le_refl _) p e hp (by decide) he σ σ1 k hw _ (law_next p _ _ _ r))⟩
theorem f_disturb (p e : Nat) (a : Int64) (h0 : xsF p &&& (15 : Int32) = 5) (ha : (((xsF (p + 1)).toInt64 <<< ((32 : Int32).toInt64 &&& 63)) ||| ((xsF (p + 2)).toInt64 &&& (4294967295 : Int64))) = a) (hp : p + 6 ≤ 61) (he : e + 24 ≤ 20000) (h : RB σ σ) (g : RB γ σ) (hk : ∀ e' σ', e' ≤ e + 12 → RB σ' σ' → RB (fD a γ) σ' → Fin0 33 (p + 6) e' σ') : Fin0 33 p e σ := by
  subst ha
  obtain ⟨k, σ1, hw, q1, hz, hy⟩ := sgG_disturb (N := 66) (L := 61) (xs := xsF) (Nat.le_refl _) _ h g
  obtain ⟨σ2, r⟩ := hk (e + 1) _ (by omega) hz hy
  exact ⟨σ2, law_to5 p e hp (by decide) σ _ h0 (law_5 (Nat.le_refl _) p e hp (by decide) he σ σ1 k hw _ (law_next p _ _ _ r))⟩
theorem f_run (p e : Nat) (a : Int32) (h0 : xsF p &&& (15 : Int32) = 2) (ha : xsF (p + 1) = a) (hp : p + 6 ≤ 61) (he : e + 24 ≤ 20000) (h : RB σ σ) (g : RB γ σ) (hk : ∀ e' σ', e' ≤ e + 12 → RB σ' σ' → RB (fR a γ) σ' → Fin0 33 (p + 6) e' σ') : Fin0 33 p e σ := by
  subst ha
  obtain ⟨k, σ1, hw, hi, q1, q2, hz, hy⟩ := sgG_run (N := 66) (L := 61) (xs := xsF) (Nat.le_refl _) (xsF (p + 1)) h g
  obtain ⟨σ2, r⟩ := hk (e + 1) _ (by omega) hz hy
  exact ⟨σ2, law_to2 p e hp (by decide) σ _ h0 (law_2 (Nat.le_refl _) p e hp (by decide) he σ σ1 k hw (rb_Jm hi) _ (law_next p _ _ _ r))⟩
/-- where the reference holds a deviation of node 1 of itself, the two part -/
theorem f_dev (p e : Nat) (h0 : xsF p &&& (15 : Int32) = 9) (h1 : xsF (p + 1) = 1) (h2 : xsF (p + 2) = 1) (h3 : xsF (p + 3) = 0) (hp : p + 6 ≤ 61) (he : e + 24 ≤ 20000) (hd : ¬ σ.1 57 10 = 99) : Fin0 33 p e σ := by
  have hr : sp_b_deviation (xsF (p + 1)) (xsF (p + 2)) 0 σ = (.inr "java/util/NoSuchElementException", σ) := by
    have hn : ¬ cx_b_requireNode 1 σ := by
      unfold cx_b_requireNode sp_b_isWithin
      decide
    rw [h1, h2]
    unfold sp_b_deviation
    rw [if_neg hn, if_neg hn, if_pos rfl]
  have hm : sp_m_deviation (xsF (p + 1)) (xsF (p + 2)) (0 : Int32) σ = (σ.1 57 10, mmI σ 42 0 (0 : Int32)) := by
    have hn : ∀ τ : mmS, sp_m_out 1 4 τ = 0 := fun τ => by
      unfold sp_m_out
      decide
    rw [h1, h2]
    unfold sp_m_deviation
    rw [if_pos (hn _), if_pos (hn _), if_pos rfl, show ((((8 : Int32) * 1) + ((2 : Int32) * 1)) + (0 : Int32)).toNatClampNeg = 10 by decide, if_neg hd]
  refine ⟨_, law_to9 p e hp (by decide) σ _ h0 (law_9fX (Nat.le_refl _) p e hp (by decide) he σ σ 2 h3 (lw_deviation_2 (Nat.le_refl _) _ _ _ σ σ hr) ?_)⟩
  rw [hm]
  show ¬ (mmI σ 42 0 (0 : Int32)).1 42 0 = 2
  rw [rdS]
  decide
theorem p_false : ∃ σ2, Ev 66 scF.length (fun j => scF.getD j 0) (132, 30, [(0, .ref 1000), (1, .ref 0), (2, .ref 42), (3, .ref 65)], [], 0, (sgI (if 0 < scF.length then scF.getD 0 0 else 0), sgJ)) (mmPI σ2 0) := by
  show ∃ σ2, Ev 66 61 xsF (132, 30, [(0, .ref 1000), (1, .ref 0), (2, .ref 42), (3, .ref 65)], [], 0, (sgI 0, sgJ)) (mmPI σ2 0)
  have key : Fin0 33 1 0 (sgI 0, sgJ) := by
    have h : RB (sgI 0, sgJ) (sgI 0, sgJ) := sg_start 0
    have g : RB gF0 (sgI 0, sgJ) := h
    refine f_power (γ := gF0) 1 0 0 (by decide) (by decide) (by decide) (by decide) h g (fun e σ he h g => ?_)
    rw [eF1] at g
    refine f_power (γ := gF1) 7 e 1 (by decide) (by decide) (by decide) (by omega) h g (fun e σ he h g => ?_)
    rw [eF2] at g
    refine f_run (γ := gF2) 13 e 160 (by decide) (by decide) (by decide) (by omega) h g (fun e σ he h g => ?_)
    rw [eF3] at g
    refine f_disturb (γ := gF3) 19 e dF (by decide) (by decide) (by decide) (by omega) h g (fun e σ he h g => ?_)
    rw [eF4] at g
    refine f_run (γ := gF4) 25 e 80 (by decide) (by decide) (by decide) (by omega) h g (fun e σ he h g => ?_)
    rw [eF5] at g
    refine f_disturb (γ := gF5) 31 e dF (by decide) (by decide) (by decide) (by omega) h g (fun e σ he h g => ?_)
    rw [eF6] at g
    refine f_run (γ := gF6) 37 e 80 (by decide) (by decide) (by decide) (by omega) h g (fun e σ he h g => ?_)
    rw [eF7] at g
    refine f_disturb (γ := gF7) 43 e dF (by decide) (by decide) (by decide) (by omega) h g (fun e σ he h g => ?_)
    rw [eF8] at g
    refine f_run (γ := gF8) 49 e 80 (by decide) (by decide) (by decide) (by omega) h g (fun e σ he h g => ?_)
    rw [eF9] at g
    have q := rb_dev11 g
    rw [gF9_dev] at q
    exact f_dev 55 e (by decide) (by decide) (by decide) (by decide) (by decide) (by omega) (by rw [← q]; decide)
  obtain ⟨σ2, r⟩ := key
  exact ⟨σ2, law_in _ _ r⟩
end FC
