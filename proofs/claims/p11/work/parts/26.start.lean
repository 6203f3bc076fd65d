section WS
set_option maxHeartbeats 8000000 in
set_option maxRecDepth 100000 in
theorem whole_start {va : Int32} (hva : va = 0 ∨ va = 1) {p : Program} {e : Env} {s : State} {m : MethodId} {below : List Frame} {meth : Method} {c : Code} (l : Launch) (hst : l.stackTraces = false) {b L : Nat} {xs : Nat → Int32} (hL : L ≤ 3073) (hEv0 : ∃ σ2, Ev 66 L xs (132, 30, [(0, .ref 1000), (1, .ref 0), (2, .ref 42), (3, .ref 65)], [], 0, (sgI (if 0 < L then xs 0 else 0), sgJ)) (mmPI σ2 va)) (C0 : lw_At p s m meth c b L xs) : W p l e room_1 s m #[Value.ref b] below meth c s.heap [] 0 0 (lw_Z va below #[Value.ref b] s) (entryFrame m ([Value.ref b] : List Value).toArray 8) := by
  obtain ⟨hx, hb, hr, hml, hown, hT, hX, hbl, hlk, hgv⟩ := C0
  have hts : ∀ w ∈ TBL, w.before #[Value.ref b] s = true := tb_at hT (State.WarmedH.refl s)
  obtain ⟨D, CA, hK⟩ := st_K hT
  obtain ⟨A, hAd⟩ : ∃ A : Nat → Prop, A = fun q => s.heap.size ≤ q := ⟨_, rfl⟩
  have hA : ∀ q : Nat, s.heap.size ≤ q → A q := fun q h => by rw [hAd]; exact h
  have hAo : ∀ q : Nat, A q → s.heap.size ≤ q := fun q h => by rw [hAd] at h; exact h
  have hP : va_P D clA [] s.heap := fun k q hk => by cases hk
  have hD : va_D A [] := ⟨fun i j p q hi => (by cases hi), fun k q hk => (by cases hk)⟩
  have hS : va_S A s.heap s.heap [] := ⟨Nat.le_refl _, fun _ _ _ => rfl, fun _ h => by cases h⟩
  have ho : mmOld s s.heap := ⟨Nat.le_refl _, fun _ _ => rfl⟩
  have hl := lv_entry ([.ref b]) (n := 8) (Nat.le_of_ble_eq_true rfl)
  rw [lg_entry_eq]
  generalize (lg_sl ([.ref b]) ++ List.replicate (8 - (lg_sl ([.ref b])).length) Slot.unset).toArray = ls at hl ⊢
  have hl : lv_has ls 8 [(0, .ref b)] := hl
  have hown : s.vm.findClass "SlotBusLaw" = some m.cls := hown
  refine va_new hx hb hts (u8_in 6 (by decide)) (tyf 6) (ty8_ok 6 (by decide)) hown (hts _ wl_1) (hts _ wl_2) (hts _ wl_3) hK hP hD hS hA (clA_at 6 (by decide)) (fs := [.null, .long 0, .int 0, .int 0, .long 0]) (by decide +kernel) (by decide) (by decide) d_132_0 (fun h1 H hP hD hS => ?_)
  have hP : va_P D clA [(h1, .inr (6, [.null, .long 0, .int 0, .int 0, .long 0]))] H := hP
  have hD : va_D A [(h1, .inr (6, [.null, .long 0, .int 0, .int 0, .long 0]))] := hD
  refine lv_dup hx hb d_132_3 rfl ?_
  refine lv_aload_n hx hb d_132_4 rfl (lv_at hl 0 rfl) ?_
  refine lv_iconst hx hb d_132_5 ci_0 ?_
  refine lw_cell hx hb hml hown hT hst hgv hK hX hbl hL (ct_old hAo ho hS) hl.1 rfl d_132_6 ⟨by decide, by decide⟩ (fun H1 hle hk => ?_)
  have hP := va_P.kept (H1 := H1) hP (fun k q hq => hk _ (vx_lt hP hq))
  have hS : va_S A s.heap H1 [] := ⟨Nat.le_trans hS.1 hle, fun q h1 h2 => (hk q (Nat.lt_of_lt_of_le h1 hS.1)).trans (hS.2.1 q h1 h2), fun _ h => by cases h⟩
  obtain ⟨H, hHe⟩ : ∃ z, z = H1 := ⟨_, rfl⟩
  rw [← hHe] at hP hS ⊢
  clear hHe hk hle
  generalize hv0 : (if 0 < L then xs 0 else 0) = v0
  have hY9 := ct_one (x := (h1, .inr (6, [.null, .long 0, .int 0, .int 0, .long 0]))) 0 rfl hP
  refine ct_callI (rest := [.ref h1]) (As := [.int v0]) hx hb hml hown hts (c_bus hT hK h1 v0 H.size (hAo _ (hD.2 0 _ rfl))) wl_b1 wl_3 wl_b2 wl_b3 ⟨by decide, by decide⟩ rfl (show (parseMethodDescriptor "(I)V").map (fun d => d.parameters.length) = some 1 by decide +kernel) ⟨rfl, rfl, by decide, by decide⟩ (State.WarmedH.refl s) (ct_old hAo ho hS) ⟨rfl, hY9⟩ hl.1 rfl rfl d_132_9 ⟨by decide, by decide⟩ hS (fun q _ h => h ▸ hD.2 0 _ rfl) (fun q h => h.elim (fun h => h ▸ hD.2 0 _ rfl) (fun h => hA q (Nat.le_trans hS.1 h))) (fun H1 locs1 hX9 _ hk hS1 => ?_)
  obtain ⟨b_q1, b_q2, b_tq1, b_sq1, b_dq1, b_eq1, b_oq1, b_mq1, b_iq1, b_gq1, b_rq1, b_q3, b_tq2, b_sq2, b_dq2, b_eq2, b_oq2, b_mq2, b_iq2, b_gq2, b_rq2, b_q4, b_tq3, b_sq3, b_dq3, b_eq3, b_oq3, b_mq3, b_iq3, b_gq3, b_rq3, b_q5, b_tq4, b_sq4, b_dq4, b_eq4, b_oq4, b_mq4, b_iq4, b_gq4, b_rq4, hP2, hD2⟩ := hX9
  have hD1 := ct_Dapp (ws := []) hD hP hS hA hD2
  obtain ⟨W1, hW1⟩ : ∃ z : va_W, z = [(h1, .inr (6, [.ref b_q1, .long 0, .int 0, .int 0, .long (-1 : Int64)])), (b_q1, .inl (CA 3, 4, .inr (.inr (.inr (.inr (va_up (va_up (va_up (va_up (fun _ => none) (0 : Int32).toNatClampNeg (some b_q2)) (1 : Int32).toNatClampNeg (some b_q3)) (2 : Int32).toNatClampNeg (some b_q4)) (3 : Int32).toNatClampNeg (some b_q5))))))), (b_q2, .inr (3, [.int (0 : Int32), .int ((((v0.toUInt32 >>> (((8 : Int32) * (0 : Int32)).toUInt32 &&& Int32.toUInt32 31)).toInt32) &&& (255 : Int32)) - (((v0.toUInt32 >>> (((8 : Int32) * (0 : Int32)).toUInt32 &&& Int32.toUInt32 31)).toInt32) &&& (255 : Int32)) / (31 : Int32) * (31 : Int32)), .ref b_tq1, .ref b_sq1, .ref b_dq1, .ref b_gq1, .ref b_rq1, .int 0, .int 0, .int 0, .int 0, .int 0, .int 0])), (b_tq1, .inr (5, [.int 0, .int 0, .int 0, .int 0, .int 0])), (b_sq1, .inr (4, [.int 0, .int 0, .int 0, .int 0])), (b_dq1, .inr (0, [.ref b_eq1, .ref b_oq1, .ref b_mq1])), (b_eq1, .inl (CA 0, 4, .inl (fun j => if j < 4 then (1000 : Int32) else (fun _ => 0) j))), (b_oq1, .inl (CA 0, 4, .inl (fun j => if j < 4 then (1000 : Int32) else (fun _ => 0) j))), (b_mq1, .inr (2, [.ref b_iq1, .int (1 : Int32)])), (b_iq1, .inl (CA 0, 5, .inl (fun _ => 0))), (b_gq1, .inr (1, [.int 0, .int 0, .int 0, .int 0, .int 0])), (b_rq1, .inl (CA 0, 10, .inl (fun j => if j < 10 then (-1 : Int32) else (fun _ => 0) j))), (b_q3, .inr (3, [.int (1 : Int32), .int ((((v0.toUInt32 >>> (((8 : Int32) * (1 : Int32)).toUInt32 &&& Int32.toUInt32 31)).toInt32) &&& (255 : Int32)) - (((v0.toUInt32 >>> (((8 : Int32) * (1 : Int32)).toUInt32 &&& Int32.toUInt32 31)).toInt32) &&& (255 : Int32)) / (31 : Int32) * (31 : Int32)), .ref b_tq2, .ref b_sq2, .ref b_dq2, .ref b_gq2, .ref b_rq2, .int 0, .int 0, .int 0, .int 0, .int 0, .int 0])), (b_tq2, .inr (5, [.int 0, .int 0, .int 0, .int 0, .int 0])), (b_sq2, .inr (4, [.int 0, .int 0, .int 0, .int 0])), (b_dq2, .inr (0, [.ref b_eq2, .ref b_oq2, .ref b_mq2])), (b_eq2, .inl (CA 0, 4, .inl (fun j => if j < 4 then (1000 : Int32) else (fun _ => 0) j))), (b_oq2, .inl (CA 0, 4, .inl (fun j => if j < 4 then (1000 : Int32) else (fun _ => 0) j))), (b_mq2, .inr (2, [.ref b_iq2, .int (1 : Int32)])), (b_iq2, .inl (CA 0, 5, .inl (fun _ => 0))), (b_gq2, .inr (1, [.int 0, .int 0, .int 0, .int 0, .int 0])), (b_rq2, .inl (CA 0, 10, .inl (fun j => if j < 10 then (-1 : Int32) else (fun _ => 0) j))), (b_q4, .inr (3, [.int (2 : Int32), .int ((((v0.toUInt32 >>> (((8 : Int32) * (2 : Int32)).toUInt32 &&& Int32.toUInt32 31)).toInt32) &&& (255 : Int32)) - (((v0.toUInt32 >>> (((8 : Int32) * (2 : Int32)).toUInt32 &&& Int32.toUInt32 31)).toInt32) &&& (255 : Int32)) / (31 : Int32) * (31 : Int32)), .ref b_tq3, .ref b_sq3, .ref b_dq3, .ref b_gq3, .ref b_rq3, .int 0, .int 0, .int 0, .int 0, .int 0, .int 0])), (b_tq3, .inr (5, [.int 0, .int 0, .int 0, .int 0, .int 0])), (b_sq3, .inr (4, [.int 0, .int 0, .int 0, .int 0])), (b_dq3, .inr (0, [.ref b_eq3, .ref b_oq3, .ref b_mq3])), (b_eq3, .inl (CA 0, 4, .inl (fun j => if j < 4 then (1000 : Int32) else (fun _ => 0) j))), (b_oq3, .inl (CA 0, 4, .inl (fun j => if j < 4 then (1000 : Int32) else (fun _ => 0) j))), (b_mq3, .inr (2, [.ref b_iq3, .int (1 : Int32)])), (b_iq3, .inl (CA 0, 5, .inl (fun _ => 0))), (b_gq3, .inr (1, [.int 0, .int 0, .int 0, .int 0, .int 0])), (b_rq3, .inl (CA 0, 10, .inl (fun j => if j < 10 then (-1 : Int32) else (fun _ => 0) j))), (b_q5, .inr (3, [.int (3 : Int32), .int ((((v0.toUInt32 >>> (((8 : Int32) * (3 : Int32)).toUInt32 &&& Int32.toUInt32 31)).toInt32) &&& (255 : Int32)) - (((v0.toUInt32 >>> (((8 : Int32) * (3 : Int32)).toUInt32 &&& Int32.toUInt32 31)).toInt32) &&& (255 : Int32)) / (31 : Int32) * (31 : Int32)), .ref b_tq4, .ref b_sq4, .ref b_dq4, .ref b_gq4, .ref b_rq4, .int 0, .int 0, .int 0, .int 0, .int 0, .int 0])), (b_tq4, .inr (5, [.int 0, .int 0, .int 0, .int 0, .int 0])), (b_sq4, .inr (4, [.int 0, .int 0, .int 0, .int 0])), (b_dq4, .inr (0, [.ref b_eq4, .ref b_oq4, .ref b_mq4])), (b_eq4, .inl (CA 0, 4, .inl (fun j => if j < 4 then (1000 : Int32) else (fun _ => 0) j))), (b_oq4, .inl (CA 0, 4, .inl (fun j => if j < 4 then (1000 : Int32) else (fun _ => 0) j))), (b_mq4, .inr (2, [.ref b_iq4, .int (1 : Int32)])), (b_iq4, .inl (CA 0, 5, .inl (fun _ => 0))), (b_gq4, .inr (1, [.int 0, .int 0, .int 0, .int 0, .int 0])), (b_rq4, .inl (CA 0, 10, .inl (fun j => if j < 10 then (-1 : Int32) else (fun _ => 0) j)))] := ⟨_, rfl⟩
  have hP : va_P D clA W1 H1 := by rw [hW1]; exact hP2
  have hD : va_D A W1 := by rw [hW1]; exact hD1
  clear hP2 hD2 hD1 hk hY9
  refine va_forget (fun q hq => hAo _ (hS1.2.2 q hq)) ?_
  have hS : va_S A s.heap H1 [] := ⟨hS1.1, hS1.2.1, fun _ h => by cases h⟩
  obtain ⟨H, hHe⟩ : ∃ z, z = H1 := ⟨_, rfl⟩
  rw [← hHe] at hP hS ⊢
  clear hHe hS1
  refine lv_astore_n hx hb d_132_12 rfl hl (by decide) rfl (fun ls hl => ?_)
  have hl : lv_has ls 8 [(1, .ref h1), (0, .ref b)] := hl
  refine va_new hx hb hts (u8_in 7 (by decide)) (tyf 7) (ty8_ok 7 (by decide)) hown (hts _ wl_4) (hts _ wl_5) (hts _ wl_6) hK hP hD hS hA (clA_at 7 (by decide)) (fs := [.int 0, .null, .null, .null, .null, .null, .null, .null, .null, .null, .null, .null, .null, .null, .null, .null, .null, .null, .null, .null, .null, .null, .int 0, .long 0, .long 0, .int 0, .long 0, .int 0, .int 0, .null]) (by decide +kernel) (by decide) (by decide) d_132_13 (fun h2 H hP hD hS => ?_)
  refine lv_dup hx hb d_132_16 rfl ?_
  refine lv_aload_n hx hb d_132_17 rfl (lv_at hl 1 rfl) ?_
  refine lv_iconst hx hb d_132_18 ci_0 ?_
  refine lw_cell hx hb hml hown hT hst hgv hK hX hbl hL (ct_old hAo ho hS) hl.1 rfl d_132_19 ⟨by decide, by decide⟩ (fun H1 hle hk => ?_)
  have hP := va_P.kept (H1 := H1) hP (fun k q hq => hk _ (vx_lt hP hq))
  have hS : va_S A s.heap H1 [] := ⟨Nat.le_trans hS.1 hle, fun q h1 h2 => (hk q (Nat.lt_of_lt_of_le h1 hS.1)).trans (hS.2.1 q h1 h2), fun _ h => by cases h⟩
  obtain ⟨H, hHe⟩ : ∃ z, z = H1 := ⟨_, rfl⟩
  rw [← hHe] at hP hS ⊢
  clear hHe hk hle
  rw [hv0]
  have hlast : (W1 ++ [(h2, .inr (7, [.int 0, .null, .null, .null, .null, .null, .null, .null, .null, .null, .null, .null, .null, .null, .null, .null, .null, .null, .null, .null, .null, .null, .int 0, .long 0, .long 0, .int 0, .long 0, .int 0, .int 0, .null]))])[W1.length]? = some (h2, .inr (7, [.int 0, .null, .null, .null, .null, .null, .null, .null, .null, .null, .null, .null, .null, .null, .null, .null, .null, .null, .null, .null, .null, .null, .int 0, .long 0, .long 0, .int 0, .long 0, .int 0, .int 0, .null])) := by rw [List.getElem?_append_right (Nat.le_refl _), Nat.sub_self]; rfl
  have hY9 := ct_one (x := (h2, .inr (7, [.int 0, .null, .null, .null, .null, .null, .null, .null, .null, .null, .null, .null, .null, .null, .null, .null, .null, .null, .null, .null, .null, .null, .int 0, .long 0, .long 0, .int 0, .long 0, .int 0, .int 0, .null]))) W1.length hlast hP
  refine ct_callI (rest := [.ref h2]) (As := [.int v0]) hx hb hml hown hts (c_model hT hK h2 v0 H.size (hAo _ (hD.2 _ _ hlast))) wl_m1 wl_6 wl_m2 wl_m3 ⟨by decide, by decide⟩ rfl (show (parseMethodDescriptor "(I)V").map (fun d => d.parameters.length) = some 1 by decide +kernel) ⟨rfl, rfl, by decide, by decide⟩ (State.WarmedH.refl s) (ct_old hAo ho hS) ⟨rfl, hY9⟩ hl.1 rfl rfl d_132_22 ⟨by decide, by decide⟩ hS (fun q _ h => h ▸ hD.2 _ _ hlast) (fun q h => h.elim (fun h => h ▸ hD.2 _ _ hlast) (fun h => hA q (Nat.le_trans hS.1 h))) (fun H1 locs1 hX9 _ hk hS1 => ?_)
  obtain ⟨m_q1, m_q2, m_q3, m_q4, m_q5, m_q6, m_q7, m_q8, m_q9, m_q10, m_q11, m_q12, m_q13, m_q14, m_q15, m_q16, m_q17, m_q18, m_q19, m_q20, m_q21, m_q22, hP2, hD2⟩ := hX9
  have hD1 := ct_Dapp (ws := W1) hD hP hS hA hD2
  have hP1 := ct_join (ws := W1) (d := h2) (ct_init hP) hk (ct_ne hD) hP2
  obtain ⟨W2, hW2⟩ : ∃ z : va_W, z = [(m_q1, .inl (CA 0, 4, .inl (upd (upd (upd (upd (fun _ => 0) (0 : Int32).toNatClampNeg ((((v0.toUInt32 >>> (((8 : Int32) * (0 : Int32)).toUInt32 &&& Int32.toUInt32 31)).toInt32) &&& (255 : Int32)) - (((v0.toUInt32 >>> (((8 : Int32) * (0 : Int32)).toUInt32 &&& Int32.toUInt32 31)).toInt32) &&& (255 : Int32)) / (31 : Int32) * (31 : Int32))) (1 : Int32).toNatClampNeg ((((v0.toUInt32 >>> (((8 : Int32) * (1 : Int32)).toUInt32 &&& Int32.toUInt32 31)).toInt32) &&& (255 : Int32)) - (((v0.toUInt32 >>> (((8 : Int32) * (1 : Int32)).toUInt32 &&& Int32.toUInt32 31)).toInt32) &&& (255 : Int32)) / (31 : Int32) * (31 : Int32))) (2 : Int32).toNatClampNeg ((((v0.toUInt32 >>> (((8 : Int32) * (2 : Int32)).toUInt32 &&& Int32.toUInt32 31)).toInt32) &&& (255 : Int32)) - (((v0.toUInt32 >>> (((8 : Int32) * (2 : Int32)).toUInt32 &&& Int32.toUInt32 31)).toInt32) &&& (255 : Int32)) / (31 : Int32) * (31 : Int32))) (3 : Int32).toNatClampNeg ((((v0.toUInt32 >>> (((8 : Int32) * (3 : Int32)).toUInt32 &&& Int32.toUInt32 31)).toInt32) &&& (255 : Int32)) - (((v0.toUInt32 >>> (((8 : Int32) * (3 : Int32)).toUInt32 &&& Int32.toUInt32 31)).toInt32) &&& (255 : Int32)) / (31 : Int32) * (31 : Int32))))), (m_q2, .inl (CA 0, 4, .inl (fun _ => 0))), (m_q3, .inl (CA 0, 4, .inl (fun _ => 0))), (m_q4, .inl (CA 0, 4, .inl (fun _ => 0))), (m_q5, .inl (CA 0, 4, .inl (fun _ => 0))), (m_q6, .inl (CA 0, 4, .inl (fun _ => 0))), (m_q7, .inl (CA 0, 4, .inl (fun _ => 0))), (m_q8, .inl (CA 0, 4, .inl (fun _ => 0))), (m_q9, .inl (CA 0, 4, .inl (fun _ => 0))), (m_q10, .inl (CA 0, 4, .inl (fun _ => 0))), (m_q11, .inl (CA 0, 4, .inl (fun _ => 0))), (m_q12, .inl (CA 0, 4, .inl (fun _ => 0))), (m_q13, .inl (CA 0, 4, .inl (fun _ => 0))), (m_q14, .inl (CA 1, 4, .inl (fun _ => 0))), (m_q16, .inl (CA 0, 40, .inl (fun _ => 0))), (m_q17, .inl (CA 0, 4, .inl (fun _ => 0))), (m_q18, .inl (CA 0, 4, .inl (fun _ => 0))), (m_q19, .inl (CA 0, 4, .inl (fun _ => 0))), (m_q20, .inl (CA 0, 4, .inl (fun _ => 0))), (m_q21, .inl (CA 0, 4, .inl (fun _ => 0))), (m_q22, .inl (CA 0, 5, .inl (fun _ => 0))), (h2, .inr (7, [.int 0, .ref m_q1, .ref m_q2, .ref m_q3, .ref m_q4, .ref m_q5, .ref m_q6, .ref m_q7, .ref m_q8, .ref m_q9, .ref m_q10, .ref m_q11, .ref m_q12, .ref m_q13, .ref m_q14, .ref m_q15, .ref m_q16, .ref m_q17, .ref m_q18, .ref m_q19, .ref m_q20, .ref m_q21, .int 0, .long 0, .long 0, .int 0, .long 0, .int 0, .int 0, .ref m_q22])), (m_q15, .inl (CA 0, 32, .inl (fg3 (fg2 (fg1 (fg0 (fun _ => 0)))))))] := ⟨_, rfl⟩
  have hP : va_P D clA (W1 ++ W2) H1 := by rw [hW2]; exact hP1
  have hD : va_D A (W1 ++ W2) := by rw [hW2]; exact hD1
  clear hP1 hP2 hD2 hD1 hk hY9 hlast
  refine va_forget (fun q hq => hAo _ (hS1.2.2 q hq)) ?_
  have hS : va_S A s.heap H1 [] := ⟨hS1.1, hS1.2.1, fun _ h => by cases h⟩
  obtain ⟨H, hHe⟩ : ∃ z, z = H1 := ⟨_, rfl⟩
  rw [← hHe] at hP hS ⊢
  clear hHe hS1
  refine lv_astore_n hx hb d_132_25 rfl hl (by decide) rfl (fun ls hl => ?_)
  have hl : lv_has ls 8 [(2, .ref h2), (1, .ref h1), (0, .ref b)] := hl
  refine lv_iconst hx hb d_132_26 ci_1 ?_
  refine ct_newa (atype := .long) (ty := .long) hx hb (hts _ wc_aj) rfl 2 rfl (fun _ h => h) hK hP hD hS hA (a0 := (1, .inr (.inl (fun _ => 0)))) (fun _ => rfl) (by decide) (N' := 1) (by decide) (by decide) (by decide) (by decide) d_132_27 (fun qo H hP hD hS => ?_)
  refine lv_astore_n hx hb d_132_29 rfl hl (by decide) rfl (fun ls hl => ?_)
  have hl : lv_has ls 8 [(3, .ref qo), (2, .ref h2), (1, .ref h1), (0, .ref b)] := hl
  refine W.widen (k := 66) (n := 413) (by decide) (by decide) ?_
  rw [hv0] at hEv0
  exact lw_fin hva l hst hL hx hb hr hml hown hT hX hbl hlk hgv hK hAo hW1 hW2 hP hD hS hl hEv0
end WS
