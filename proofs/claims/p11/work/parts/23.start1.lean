/-! the law's start: classes and rows known, what is fixed -/
section ST
variable {s : State} {a0 : Array Value} {l : Launch}
set_option maxRecDepth 100000 in
theorem in8 : ∀ k, k < 8 → Cond.instantiable (cn k) (nf k) ∈ TBL := by decide +kernel
theorem wc_ai : Cond.arrayClass .int ∈ TBL := by decide +kernel
theorem wc_az : Cond.arrayClass .boolean ∈ TBL := by decide +kernel
theorem wc_aj : Cond.arrayClass .long ∈ TBL := by decide +kernel
theorem st_arr {ty : FieldType} {args : Array Value} (h : (Cond.arrayClass ty).before args s = true) : ∃ cA, ArrOfT s cA ty ∧ s.vm.findClass ("[" ++ ty.toString) = some cA := by
  obtain ⟨c, k, comp, h1, h2, h3⟩ := Cond.arrayClass_spec h
  exact ⟨c, fun n z => ⟨fun q hq => by simp [arrV] at hq, k, h2, comp, h3⟩, h1⟩
theorem st_K (hT : ∀ w ∈ lw_tbl, w.before a0 s = true) : ∃ (D : va_G) (CA : Nat → ClassId), va_K D clA (tyA CA) s := by
  have hts : ∀ w ∈ TBL, w.before a0 s = true := tb_at hT (State.WarmedH.refl s)
  obtain ⟨c0, i0, i1⟩ := st_arr (hts _ wc_ai)
  obtain ⟨c1, z0, z1⟩ := st_arr (hts _ wc_az)
  obtain ⟨c2, j0, j1⟩ := st_arr (hts _ wc_aj)
  obtain ⟨comp, c3, k3, f1, -, f2, f3, f4⟩ := Cond.arrayOver_spec (hT _ wc_ao)
  have h8 : ∀ k, ∃ q : ClassId × (Nat → Nat), k < 8 → u_Kn s (cn k) (Tf k) (nf k) q.1 q.2 := fun k => by
    by_cases hk : k < 8
    · obtain ⟨cC, iS, h⟩ := u_known hts (u8_in k hk) (hts _ (in8 k hk))
      exact ⟨(cC, iS), fun _ => h⟩
    · exact ⟨(0, fun _ => 0), fun h => absurd h hk⟩
  refine ⟨(fun k => (h8 k).choose.1, fun k => (h8 k).choose.2), fun k => match k with | 0 => c0 | 1 => c1 | 2 => c2 | _ => c3, fun c q hq => ?_, fun k q hq => ?_⟩
  · have hc : c < 8 := (List.getElem?_eq_some_iff.mp hq).1
    rw [clA_at c hc] at hq
    cases hq
    exact (h8 c).choose_spec hc
  · match k, hq with
    | 0, hq => cases hq; exact ⟨i0, i1⟩
    | 1, hq => cases hq; exact ⟨z0, z1⟩
    | 2, hq => cases hq; exact ⟨j0, j1⟩
    | 3, hq => cases hq; exact ⟨fun n z => ⟨fun q hq => by simp [arrV] at hq, k3, f2, comp, f3⟩, k3, comp, f2, f3, f1, f4⟩
    | k + 4, hq => cases hq
set_option maxRecDepth 100000 in
theorem xt_ok : ∀ q ∈ xtT, Cond.stringRef (cn q.1) q.2.1 q.2.2 ∈ lw_tbl ∧ q.1 < 8 := by decide +kernel
set_option maxRecDepth 100000 in
theorem wz_1 : Cond.laysStatic Bundle.tN "UNASSIGNED_STACK" Bundle.steD ∈ lw_tbl := by decide +kernel
set_option maxRecDepth 100000 in
theorem wz_2 : Cond.laysStatic Bundle.tN "SUPPRESSED_SENTINEL" Bundle.listD ∈ lw_tbl := by decide +kernel
set_option maxRecDepth 100000 in
theorem wz_3 : Cond.initialized Bundle.tN ∈ lw_tbl := by decide +kernel
set_option maxRecDepth 100000 in
theorem wz_4 : Cond.isRef (.static Bundle.tN "UNASSIGNED_STACK" Bundle.steD) ∈ flatC (Jvm.Cond.and given_1 narrow_1) := by decide +kernel
set_option maxRecDepth 100000 in
theorem wz_5 : Cond.isRef (.static Bundle.tN "SUPPRESSED_SENTINEL" Bundle.listD) ∈ flatC (Jvm.Cond.and given_1 narrow_1) := by decide +kernel
set_option maxRecDepth 100000 in
theorem wz_6 : ∀ q ∈ ncT, Cond.not (.castable q.1 q.2) ∈ flatC (Jvm.Cond.and given_1 narrow_1) := by decide +kernel
theorem st_G {D : va_G} {CA : Nat → ClassId} {ρ : Nat → Nat} {b N L : Nat} {xs : Nat → Int32} (hst : l.stackTraces = false) (hT : ∀ w ∈ lw_tbl, w.before a0 s = true) (hgv : (Jvm.Cond.and given_1 narrow_1).before a0 s = true) (hK : va_K D clA (tyA CA) s) (h1 : ∀ k, k < N → s.heap.size ≤ ρ k) (h2 : ∀ i j, i < N → j < N → ρ i = ρ j → i = j) (h3 : ρ 1000 = b) (hb : b < s.heap.size) (hX : va_X b L xs s s.heap) (hN : N ≤ cellN) : mmG l s a0 D CA ρ b N L xs := by
  have hs := flat_of_before _ hgv
  refine ⟨hst, hT, hK, h1, h2, h3, hb, hX, hN, ?_, ?_, fun q hq => va_Nc.of (hs _ (wz_6 q hq)), fun q hq => ?_⟩
  · exact vx_Zqof (hT _ wz_1) (hT _ wz_3) (hs _ wz_4) (fun a ha h => by omega)
  · exact vx_Zqof (hT _ wz_2) (hT _ wz_3) (hs _ wz_5) (fun a ha h => by omega)
  · obtain ⟨hw, h8⟩ := xt_ok q hq
    have hcur := (hK.1 q.1 _ (clA_at q.1 h8)).2.1
    obtain ⟨k, cf, i, a, -, -, -, -, -, he⟩ := Cond.stringRef_spec hcur (hT _ hw)
    exact ⟨a, vk_R.of (hT _ hw) he⟩
theorem ev_cell {N L : Nat} {xs : Nat → Int32} (hL : L < 4000) (σ : mmS) : Ev N L xs (2, 0, lv_args 0 [.ref 1000, .int 0], [], 0, σ) (mmPI σ (if 0 < L then xs 0 else 0)) := by
  show Ev N L xs (2, 0, [(0, .ref 1000), (1, .int (0 : Int32))], [], 0, σ) _
  have f4 : (Int32.ofNat L).toInt = L := Int32.toInt_ofNat_of_lt (by omega)
  refine ev_iload_n d_2_0 rfl ?_
  refine ev_aload_n d_2_1 rfl ?_
  refine ev_slen d_2_2 ?_
  have e0 : (0 : Int32).toInt = 0 := by decide
  by_cases h : 0 < L
  · rw [if_pos h]
    refine ev_icmpF (tgt := 12) d_2_3 rfl (show ¬ Int32.ofNat L ≤ 0 by rw [Int32.le_iff_toInt_le, f4, e0]; omega) ?_
    refine ev_aload_n d_2_6 rfl ?_
    refine ev_iload_n d_2_7 rfl ?_
    refine ev_sald (i := 0) d_2_8 (vpi (by rintro (q | q); exact absurd q (by decide); exact absurd (Nat.lt_of_lt_of_le h q) (by decide))) (by decide) ?_
    refine ev_goto (tgt := 13) d_2_9 rfl ?_
    exact ev_iret d_2_13 rfl
  · rw [if_neg h]
    refine ev_icmpT (tgt := 12) d_2_3 rfl (show Int32.ofNat L ≤ 0 by rw [Int32.le_iff_toInt_le, f4, e0]; omega) ?_
    refine ev_iconst d_2_12 ci_0 ?_
    exact ev_iret d_2_13 rfl
end ST
