section RG
set_option maxRecDepth 16384 in
/-- the claim's answer is refuted: the statement is false of this class -/
theorem claim_refuted : ¬ Claimed_1_2 := by
  intro hC
  have ha : launch0.admits start1.e0 := launch0.admits_env _ _ _
  have hfit : argsFit wf_about.vm ⟨0, 0⟩ start1.args0 = true := by decide +kernel
  have hheap : heapFits wf_about = true := by decide +kernel
  have happ : (headSpec (Jvm.Cond.code x code maxLocals ret :: tables_1) room_1).applies x start1.e0.platform wf_about = true :=
    (Spec.applies_iff rfl).mpr ⟨rfl, rfl, rfl, by decide +kernel, by decide +kernel, by decide +kernel, launch0.hasRoom_least _ room_1 (by decide +kernel) (by decide +kernel) (by decide +kernel) (by decide +kernel) (by decide +kernel) (by decide +kernel), atoms_intro wf_words⟩
  have hrest : rest_1_c.before start1.args0 wf_about = true := by decide +kernel
  have hpre : (Jvm.Cond.and given_1 narrow_1).before start1.args0 wf_about = true := by decide +kernel
  obtain ⟨n, o, w1, r1, e1, p1⟩ := hC launch0 rfl lists_1 trivial start1.p0 start1.e0 ha fairChoices_fair.cas fairChoices_fair.clock wf_about ⟨0, 0⟩ start1.args0 Lib.HandBits.below0 rfl hfit hheap happ ⟨trivial, hrest, hpre⟩
  obtain ⟨n2, o2, w2, r2, e2, p2⟩ := whole_false launch0 (lw_off rfl ha) start1.p0 start1.e0 ha fairChoices_fair.cas fairChoices_fair.clock wf_about ⟨0, 0⟩ start1.args0 Lib.HandBits.below0 rfl hfit hheap happ ⟨trivial, hrest, hpre, wf_script⟩
  obtain ⟨-, ho⟩ := the_end_unique w1 e1 w2 e2
  have h0 : o = .returned (some (.int 0)) := ho.trans p2.1
  have h1 := p1.1
  rw [h0] at h1
  have h2 : ∀ t : State, limb_1_2.after start1.args0 wf_about (.returned (some (.int 0))) t = false := fun t => by
    simp [limb_1_2, Cond.after, Cond.holds, Cond.value, Term.eval]
  have h3 := h2 (stepsAlone start1.p0.tables start1.e0 n wf_about)
  unfold postC at h1
  rw [h3] at h1
  exact absurd h1 (by decide)
end RG
