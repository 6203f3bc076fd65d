theorem cs_255 : (Int16.ofInt (255)).toInt32 = (255 : Int32) := by decide +kernel
section CT2
variable {l : Launch} {s0 : State} {a0 : Array Value} {D : va_G} {CA : Nat → ClassId}
section CC2
variable {p : Program} {e : Env} {R : Room} {s : State} {m : MethodId} {args : Array Value} {below : List Frame} {meth : Method} {c : Code} {H H0 : Heap} {locs : List Loc} {cells slots mc ms : Nat} {Q : State → Prop} {pc : Nat} {ls : Array Slot} {st0 rest As : List Value} {A B fr : Nat → Prop} {X : Heap → Heap → Prop} {Y : Heap → Prop} {ws : va_W}
variable {y : MethodName} {bytes cc : ByteArray} {maxL nL idx b : Nat} {own : String} {rm : Room}
theorem ct_callV (hx : p.tables.exec = Jvm.exec) (hb : c.code = cc) (hml : c.maxLocals = nL) (hown : s.vm.findClass own = some m.cls) (hts : ∀ w ∈ TBL, w.before args s = true) (hM : Met l y [.code y bytes maxL none] rm (ctP s0 (.ref b :: As) Y) (ctQ B X) mc ms fr)
    (hcode : Cond.code y bytes maxL none ∈ TBL) (hini : Cond.initialized y.cls ∈ TBL) (hinst : Cond.instanceMethod y ∈ TBL) (hsel : Cond.selects y.cls y y ∈ TBL) (hlink : Cond.methodLink own idx y ∈ TBL) (hy : y.cls ≠ "java/lang/invoke/MethodHandle" ∧ y.cls ≠ "java/lang/invoke/VarHandle") (hsig : (parseMethodDescriptor y.desc).map (fun d => d.parameters.length) = some As.length)
    (hrm : rm.cells = mc ∧ rm.slots = ms ∧ rm.frames + 1 ≤ R.frames ∧ 8 + (maxL + 11) + rm.locals ≤ R.locals) (hW : s0.WarmedH s.vm) (hold : mmOld s0 H) (hY : Y H) (hcell : ∃ cellB : Cell, H[b]? = some cellB ∧ cellB.vm.isStatics = false ∧ s.vm.findClass y.cls = some cellB.cls) (hsz : ls.size = nL) (hroom : Nat.ble ((rest.map fun v => v.category).sum) 8 = true) (hst : st0 = As.reverse ++ .ref b :: rest) (hd : decode cc pc = .ok (.invokevirtual idx, 3)) (hf : cells + mc ≤ R.cells ∧ slots + ms ≤ R.slots)
    (hS : va_S A H0 H locs) (hB : ∀ q, q < H.size → B q → A q) (hfr : ∀ q, fr q → A q)
    (kk : ∀ H1 locs1, X H H1 → H.size ≤ H1.size → (∀ q : Nat, q < H.size → ¬ B q → H1[q]? = H[q]?) → va_S A H0 H1 locs1 → W p l e R s m args below meth c H1 locs1 (cells + mc) (slots + ms) Q (F0 m (pc + 3) ls rest)) : W p l e R s m args below meth c H locs cells slots Q (F0 m pc ls st0) := by
  have hr : va_Run p l e R s m args below meth c H locs cells slots mc ms (F0 m pc ls st0) rest (ctQ B X (Value.ref b :: As).toArray) fr := va_runV (Ts := TBL) (own := own) (C := y.cls) (index := idx) (n := As.length) (bytes := bytes) (maxL := maxL) (ret := none) (cc := cc) (nL := nL) ⟨hx, hb, hml, hown, hts⟩ hM ⟨⟨hrm.1, hrm.2.1, hrm.2.2.1, hrm.2.2.2, ct_good hts hcode, List.mem_cons_self, hts _ hcode, hts _ hini, hy, fun sig h => by
      rw [h] at hsig; exact (Option.some.inj hsig).symm, hts _ hlink⟩, hts _ hinst, hts _ hsel⟩ ⟨ctP_blind, hcell, fun U hU hWU => ⟨rfl, State.WarmedH.trans hW hWU, by rw [hU]; exact hold, by rw [hU]; exact hY⟩⟩ rfl rfl hsz hst (lv_room (Nat.le_of_ble_eq_true hroom)) hd hf
  exact ct_after hr hS hB hfr kk
theorem ct_newq (hexec : p.tables.exec = Jvm.exec) (hb : c.code = cc) {C : String} {index : Nat} (hown : s.vm.findClass own = some m.cls) (hclink : (Cond.classLink own index C).before args s = true) (hover : va_AO C s) (t0 : Nat) {cA : ClassId} (ht : (tyA CA)[t0]? = some (cA, .object C)) (hK : va_K D clA (tyA CA) s) (hP : va_P D clA ws H) (hD : va_D A ws) (hS : va_S A H0 H locs) (hA : ∀ q, H0.size ≤ q → A q)
    {n : Int32} {N' : Nat} (hn : ¬ n < 0) (hN : n.toNatClampNeg = N') (hbytes : N' * 4 ≤ 536870912) (hcells : cells + 1 ≤ R.cells) (hslots : slots + N' ≤ R.slots) (hdg : decode cc pc = .ok (.anewarray index, 3))
    (kk : ∀ (q : Nat) (H1 : Heap), va_P D clA (ws ++ [(q, .inl (cA, N', .inr (.inr (.inr (.inr (fun _ => none))))))]) H1 → va_D A (ws ++ [(q, .inl (cA, N', .inr (.inr (.inr (.inr (fun _ => none))))))]) → va_S A H0 H1 locs → W p l e R s m args below meth c H1 locs (cells + 1) (slots + N') Q (F0 m (pc + 3) ls (.ref q :: rest))) :
    W p l e R s m args below meth c H locs cells slots Q (F0 m pc ls (.int n :: rest)) := by
  refine va_newq hexec hb hown hclink hover hK hP hD hS hA hn hN hbytes hcells hslots hdg (fun q cA' H1 hK' hP' hD' hS' => ?_)
  obtain ⟨_, _, -, -, -, h1⟩ := (hK'.2 (tyA CA).length (cA', .object C) (by rw [List.getElem?_append_right (Nat.le_refl _), Nat.sub_self]; rfl)).2
  obtain ⟨_, _, -, -, -, h2⟩ := (hK.2 t0 _ ht).2
  cases Option.some.inj (h1.symm.trans h2)
  exact kk q H1 hP' hD' hS'
end CC2
theorem ct_ne2 {A : Nat → Prop} {ws : va_W} {a b : Nat} {x y : va_E} (hD : va_D A (ws ++ [(a, x), (b, y)])) : ∀ (i : Nat) (p : Nat × va_E), ws[i]? = some p → ¬ (p.1 = a ∨ p.1 = b) := by
  intro i p hi he
  have hl : i < ws.length := (List.getElem?_eq_some_iff.mp hi).1
  have h0 : (ws ++ [(a, x), (b, y)])[i]? = some p := by rw [List.getElem?_append_left hl]; exact hi
  rcases he with he | he
  · have h1 := hD.1 i ws.length p (a, x) h0 (by rw [List.getElem?_append_right (Nat.le_refl _), Nat.sub_self]; rfl) he
    omega
  · have h1 := hD.1 i (ws.length + 1) p (b, y) h0 (by rw [List.getElem?_append_right (show ws.length ≤ ws.length + 1 by omega), show ws.length + 1 - ws.length = 1 by omega]; rfl) he
    omega
theorem ct_joinB {B : Nat → Prop} {ws w2 : va_W} {H H1 : Heap} (hP : va_P D clA ws H) (hk : ∀ q : Nat, q < H.size → ¬ B q → H1[q]? = H[q]?) (hne : ∀ (i : Nat) (p : Nat × va_E), ws[i]? = some p → ¬ B p.1) (h2 : va_P D clA w2 H1) : va_P D clA (ws ++ w2) H1 :=
  va_P.app (va_P.kept hP (fun k q hq => hk _ (vx_lt hP hq) (hne k q hq))) h2
theorem ct_D2 {A : Nat → Prop} {a b : Nat} {x y : va_E} (ha : A a) (hb : A b) (hne : a ≠ b) : va_D A [(a, x), (b, y)] := by
  refine ⟨fun i j p q hi hj hpq => ?_, fun k q hk => ?_⟩
  · rcases i with _ | _ | i <;> rcases j with _ | _ | j
    · rfl
    · cases hi; cases hj; exact absurd hpq hne
    · cases hj
    · cases hi; cases hj; exact absurd hpq.symm hne
    · rfl
    · cases hj
    · cases hi
    · cases hi
    · cases hi
  · rcases k with _ | _ | k
    · cases hk; exact ha
    · cases hk; exact hb
    · cases hk
theorem ct_init {ws w2 : va_W} {H : Heap} (h : va_P D clA (ws ++ w2) H) : va_P D clA ws H := fun k q hk => h k q (by rw [List.getElem?_append_left (List.getElem?_eq_some_iff.mp hk).1]; exact hk)
theorem ct_one {ws : va_W} {H : Heap} {x : Nat × va_E} (k : Nat) (hk : ws[k]? = some x) (h : va_P D clA ws H) : va_P D clA [x] H := fun i q hi => by
  rcases i with _ | i
  · cases hi; exact h k _ hk
  · cases hi
theorem hDne {A : Nat → Prop} {ws : va_W} (hD : va_D A ws) {a b : Nat} {x y : va_E} (i j : Nat) (hij : ¬ i = j) (hi : ws[i]? = some (a, x)) (hj : ws[j]? = some (b, y)) : a ≠ b := fun h => hij (hD.1 i j _ _ hi hj h)
theorem wc_56 : Cond.fieldLink "SlotBusModel" 53 "SlotBusModel" "dev" "[I" ∈ TBL := tbm (i := 738) (by decide +kernel) (by decide +kernel)
def fg0 (f : Nat → Int32) : Nat → Int32 := (upd (upd (upd (upd (upd (upd (upd (upd f (((8 : Int32) * (0 : Int32)) + (0 : Int32)).toNatClampNeg (99 : Int32)) (((8 : Int32) * (0 : Int32)) + (1 : Int32)).toNatClampNeg (99 : Int32)) (((8 : Int32) * (0 : Int32)) + (2 : Int32)).toNatClampNeg (99 : Int32)) (((8 : Int32) * (0 : Int32)) + (3 : Int32)).toNatClampNeg (99 : Int32)) (((8 : Int32) * (0 : Int32)) + (4 : Int32)).toNatClampNeg (99 : Int32)) (((8 : Int32) * (0 : Int32)) + (5 : Int32)).toNatClampNeg (99 : Int32)) (((8 : Int32) * (0 : Int32)) + (6 : Int32)).toNatClampNeg (99 : Int32)) (((8 : Int32) * (0 : Int32)) + (7 : Int32)).toNatClampNeg (99 : Int32))
set_option maxHeartbeats 4000000 in
theorem c_forget0 (hT : ∀ w ∈ lw_tbl, w.before a0 s0 = true) (hK0 : va_K D clA (tyA CA) s0) (h dv : Nat) (f : Nat → Int32) (fs : List Value) (hfs : fs[15]? = some (.ref dv)) (hne : h ≠ dv) : Met l ⟨"SlotBusModel", "forget", "(I)V"⟩ [.code ⟨"SlotBusModel", "forget", "(I)V"⟩ prog_10_method_13_code 3 none] { frames := 0, cells := 0, slots := 0, locals := 0 } (ctP s0 [.ref h, .int (0 : Int32)] (fun H => va_P D clA [(h, .inr (7, fs)), (dv, .inl (CA 0, 32, .inl f))] H)) (ctQ (fun q => q = h ∨ q = dv) (fun _ H1 => va_P D clA [(h, .inr (7, fs)), (dv, .inl (CA 0, 32, .inl (fg0 f)))] H1)) 0 0 (fun q => q = h ∨ q = dv) := by
  refine ct_of (by decide) (Nat.le_of_ble_eq_true rfl) ?_
  intro p e s m below meth c ls hx hb hr hml hown hlk hnm hW ho hP hl
  have hts : ∀ w ∈ TBL, w.before ([.ref h, .int (0 : Int32)] : List Value).toArray s = true := tb_at hT hW
  have hK : va_K D clA (tyA CA) s := va_K.moved hW.alike hK0
  obtain ⟨A, hAd⟩ : ∃ A : Nat → Prop, A = fun q => q = h ∨ q = dv := ⟨_, rfl⟩
  have hD : va_D A [(h, .inr (7, fs)), (dv, .inl (CA 0, 32, .inl f))] := ct_D2 (by rw [hAd]; exact Or.inl rfl) (by rw [hAd]; exact Or.inr rfl) hne
  have hS : va_S A s.heap s.heap [] := ⟨Nat.le_refl _, fun _ _ _ => rfl, fun _ h => by cases h⟩
  have hl : lv_has ls 3 [(0, .ref h), (1, .int (0 : Int32))] := hl
  refine lv_iconst hx hb d_94_0 ci_0 ?_
  refine lv_istore_n hx hb d_94_1 rfl hl (by decide) rfl (fun ls hl => ?_)
  have hl : lv_has ls 3 [(2, .int (0 : Int32)), (0, .ref h), (1, .int (0 : Int32))] := hl
  refine lv_iload_n hx hb d_94_2 rfl (lv_at hl 0 rfl) ?_
  refine lv_bipush hx hb d_94_3 cb_8 ?_
  refine lv_icmp_ge (tgt := 27) hx hb d_94_5 rfl (fun h => absurd h (by decide)) (fun _ => ?_)
  refine lv_aload_n hx hb d_94_8 rfl (lv_at hl 1 rfl) ?_
  refine va_get hx hb hts (u8_in 7 (by decide)) hown hK hP 0 rfl (clA_at 7 (by decide)) 15 (by decide) (hts _ wc_56) (fun z h => h) hfs d_94_9 ?_
  refine lv_bipush hx hb d_94_12 cb_8 ?_
  refine lv_iload_n hx hb d_94_14 rfl (lv_at hl 2 rfl) ?_
  refine lv_imul hx hb d_94_15 ?_
  refine lv_iload_n hx hb d_94_16 rfl (lv_at hl 0 rfl) ?_
  refine lv_iadd hx hb d_94_17 ?_
  refine lv_bipush hx hb d_94_18 cb_99 ?_
  refine va_iast hx hb hK hP hD hS 1 0 rfl rfl (vpi (by decide)) d_94_20 (fun H locs hP hD hS => ?_)
  have hP : va_P D clA [(h, .inr (7, fs)), (dv, .inl (CA 0, 32, .inl (upd f (((8 : Int32) * (0 : Int32)) + (0 : Int32)).toNatClampNeg (99 : Int32))))] H := hP
  have hD : va_D A [(h, .inr (7, fs)), (dv, .inl (CA 0, 32, .inl (upd f (((8 : Int32) * (0 : Int32)) + (0 : Int32)).toNatClampNeg (99 : Int32))))] := hD
  refine lv_iinc hx hb d_94_21 hl (k := 0) rfl (show _ = (1 : Int32) by decide) (by decide) rfl (fun ls hl => ?_)
  have hl : lv_has ls 3 [(2, .int (1 : Int32)), (0, .ref h), (1, .int (0 : Int32))] := hl
  refine lv_goto (tgt := 2) hx hb d_94_24 rfl ?_
  refine lv_iload_n hx hb d_94_2 rfl (lv_at hl 0 rfl) ?_
  refine lv_bipush hx hb d_94_3 cb_8 ?_
  refine lv_icmp_ge (tgt := 27) hx hb d_94_5 rfl (fun h => absurd h (by decide)) (fun _ => ?_)
  refine lv_aload_n hx hb d_94_8 rfl (lv_at hl 1 rfl) ?_
  refine va_get hx hb hts (u8_in 7 (by decide)) hown hK hP 0 rfl (clA_at 7 (by decide)) 15 (by decide) (hts _ wc_56) (fun z h => h) hfs d_94_9 ?_
  refine lv_bipush hx hb d_94_12 cb_8 ?_
  refine lv_iload_n hx hb d_94_14 rfl (lv_at hl 2 rfl) ?_
  refine lv_imul hx hb d_94_15 ?_
  refine lv_iload_n hx hb d_94_16 rfl (lv_at hl 0 rfl) ?_
  refine lv_iadd hx hb d_94_17 ?_
  refine lv_bipush hx hb d_94_18 cb_99 ?_
  refine va_iast hx hb hK hP hD hS 1 0 rfl rfl (vpi (by decide)) d_94_20 (fun H locs hP hD hS => ?_)
  have hP : va_P D clA [(h, .inr (7, fs)), (dv, .inl (CA 0, 32, .inl (upd (upd f (((8 : Int32) * (0 : Int32)) + (0 : Int32)).toNatClampNeg (99 : Int32)) (((8 : Int32) * (0 : Int32)) + (1 : Int32)).toNatClampNeg (99 : Int32))))] H := hP
  have hD : va_D A [(h, .inr (7, fs)), (dv, .inl (CA 0, 32, .inl (upd (upd f (((8 : Int32) * (0 : Int32)) + (0 : Int32)).toNatClampNeg (99 : Int32)) (((8 : Int32) * (0 : Int32)) + (1 : Int32)).toNatClampNeg (99 : Int32))))] := hD
  refine lv_iinc hx hb d_94_21 hl (k := 0) rfl (show _ = (2 : Int32) by decide) (by decide) rfl (fun ls hl => ?_)
  have hl : lv_has ls 3 [(2, .int (2 : Int32)), (0, .ref h), (1, .int (0 : Int32))] := hl
  refine lv_goto (tgt := 2) hx hb d_94_24 rfl ?_
  refine lv_iload_n hx hb d_94_2 rfl (lv_at hl 0 rfl) ?_
  refine lv_bipush hx hb d_94_3 cb_8 ?_
  refine lv_icmp_ge (tgt := 27) hx hb d_94_5 rfl (fun h => absurd h (by decide)) (fun _ => ?_)
  refine lv_aload_n hx hb d_94_8 rfl (lv_at hl 1 rfl) ?_
  refine va_get hx hb hts (u8_in 7 (by decide)) hown hK hP 0 rfl (clA_at 7 (by decide)) 15 (by decide) (hts _ wc_56) (fun z h => h) hfs d_94_9 ?_
  refine lv_bipush hx hb d_94_12 cb_8 ?_
  refine lv_iload_n hx hb d_94_14 rfl (lv_at hl 2 rfl) ?_
  refine lv_imul hx hb d_94_15 ?_
  refine lv_iload_n hx hb d_94_16 rfl (lv_at hl 0 rfl) ?_
  refine lv_iadd hx hb d_94_17 ?_
  refine lv_bipush hx hb d_94_18 cb_99 ?_
  refine va_iast hx hb hK hP hD hS 1 0 rfl rfl (vpi (by decide)) d_94_20 (fun H locs hP hD hS => ?_)
  have hP : va_P D clA [(h, .inr (7, fs)), (dv, .inl (CA 0, 32, .inl (upd (upd (upd f (((8 : Int32) * (0 : Int32)) + (0 : Int32)).toNatClampNeg (99 : Int32)) (((8 : Int32) * (0 : Int32)) + (1 : Int32)).toNatClampNeg (99 : Int32)) (((8 : Int32) * (0 : Int32)) + (2 : Int32)).toNatClampNeg (99 : Int32))))] H := hP
  have hD : va_D A [(h, .inr (7, fs)), (dv, .inl (CA 0, 32, .inl (upd (upd (upd f (((8 : Int32) * (0 : Int32)) + (0 : Int32)).toNatClampNeg (99 : Int32)) (((8 : Int32) * (0 : Int32)) + (1 : Int32)).toNatClampNeg (99 : Int32)) (((8 : Int32) * (0 : Int32)) + (2 : Int32)).toNatClampNeg (99 : Int32))))] := hD
  refine lv_iinc hx hb d_94_21 hl (k := 0) rfl (show _ = (3 : Int32) by decide) (by decide) rfl (fun ls hl => ?_)
  have hl : lv_has ls 3 [(2, .int (3 : Int32)), (0, .ref h), (1, .int (0 : Int32))] := hl
  refine lv_goto (tgt := 2) hx hb d_94_24 rfl ?_
  refine lv_iload_n hx hb d_94_2 rfl (lv_at hl 0 rfl) ?_
  refine lv_bipush hx hb d_94_3 cb_8 ?_
  refine lv_icmp_ge (tgt := 27) hx hb d_94_5 rfl (fun h => absurd h (by decide)) (fun _ => ?_)
  refine lv_aload_n hx hb d_94_8 rfl (lv_at hl 1 rfl) ?_
  refine va_get hx hb hts (u8_in 7 (by decide)) hown hK hP 0 rfl (clA_at 7 (by decide)) 15 (by decide) (hts _ wc_56) (fun z h => h) hfs d_94_9 ?_
  refine lv_bipush hx hb d_94_12 cb_8 ?_
  refine lv_iload_n hx hb d_94_14 rfl (lv_at hl 2 rfl) ?_
  refine lv_imul hx hb d_94_15 ?_
  refine lv_iload_n hx hb d_94_16 rfl (lv_at hl 0 rfl) ?_
  refine lv_iadd hx hb d_94_17 ?_
  refine lv_bipush hx hb d_94_18 cb_99 ?_
  refine va_iast hx hb hK hP hD hS 1 0 rfl rfl (vpi (by decide)) d_94_20 (fun H locs hP hD hS => ?_)
  have hP : va_P D clA [(h, .inr (7, fs)), (dv, .inl (CA 0, 32, .inl (upd (upd (upd (upd f (((8 : Int32) * (0 : Int32)) + (0 : Int32)).toNatClampNeg (99 : Int32)) (((8 : Int32) * (0 : Int32)) + (1 : Int32)).toNatClampNeg (99 : Int32)) (((8 : Int32) * (0 : Int32)) + (2 : Int32)).toNatClampNeg (99 : Int32)) (((8 : Int32) * (0 : Int32)) + (3 : Int32)).toNatClampNeg (99 : Int32))))] H := hP
  have hD : va_D A [(h, .inr (7, fs)), (dv, .inl (CA 0, 32, .inl (upd (upd (upd (upd f (((8 : Int32) * (0 : Int32)) + (0 : Int32)).toNatClampNeg (99 : Int32)) (((8 : Int32) * (0 : Int32)) + (1 : Int32)).toNatClampNeg (99 : Int32)) (((8 : Int32) * (0 : Int32)) + (2 : Int32)).toNatClampNeg (99 : Int32)) (((8 : Int32) * (0 : Int32)) + (3 : Int32)).toNatClampNeg (99 : Int32))))] := hD
  refine lv_iinc hx hb d_94_21 hl (k := 0) rfl (show _ = (4 : Int32) by decide) (by decide) rfl (fun ls hl => ?_)
  have hl : lv_has ls 3 [(2, .int (4 : Int32)), (0, .ref h), (1, .int (0 : Int32))] := hl
  refine lv_goto (tgt := 2) hx hb d_94_24 rfl ?_
  refine lv_iload_n hx hb d_94_2 rfl (lv_at hl 0 rfl) ?_
  refine lv_bipush hx hb d_94_3 cb_8 ?_
  refine lv_icmp_ge (tgt := 27) hx hb d_94_5 rfl (fun h => absurd h (by decide)) (fun _ => ?_)
  refine lv_aload_n hx hb d_94_8 rfl (lv_at hl 1 rfl) ?_
  refine va_get hx hb hts (u8_in 7 (by decide)) hown hK hP 0 rfl (clA_at 7 (by decide)) 15 (by decide) (hts _ wc_56) (fun z h => h) hfs d_94_9 ?_
  refine lv_bipush hx hb d_94_12 cb_8 ?_
  refine lv_iload_n hx hb d_94_14 rfl (lv_at hl 2 rfl) ?_
  refine lv_imul hx hb d_94_15 ?_
  refine lv_iload_n hx hb d_94_16 rfl (lv_at hl 0 rfl) ?_
  refine lv_iadd hx hb d_94_17 ?_
  refine lv_bipush hx hb d_94_18 cb_99 ?_
  refine va_iast hx hb hK hP hD hS 1 0 rfl rfl (vpi (by decide)) d_94_20 (fun H locs hP hD hS => ?_)
  have hP : va_P D clA [(h, .inr (7, fs)), (dv, .inl (CA 0, 32, .inl (upd (upd (upd (upd (upd f (((8 : Int32) * (0 : Int32)) + (0 : Int32)).toNatClampNeg (99 : Int32)) (((8 : Int32) * (0 : Int32)) + (1 : Int32)).toNatClampNeg (99 : Int32)) (((8 : Int32) * (0 : Int32)) + (2 : Int32)).toNatClampNeg (99 : Int32)) (((8 : Int32) * (0 : Int32)) + (3 : Int32)).toNatClampNeg (99 : Int32)) (((8 : Int32) * (0 : Int32)) + (4 : Int32)).toNatClampNeg (99 : Int32))))] H := hP
  have hD : va_D A [(h, .inr (7, fs)), (dv, .inl (CA 0, 32, .inl (upd (upd (upd (upd (upd f (((8 : Int32) * (0 : Int32)) + (0 : Int32)).toNatClampNeg (99 : Int32)) (((8 : Int32) * (0 : Int32)) + (1 : Int32)).toNatClampNeg (99 : Int32)) (((8 : Int32) * (0 : Int32)) + (2 : Int32)).toNatClampNeg (99 : Int32)) (((8 : Int32) * (0 : Int32)) + (3 : Int32)).toNatClampNeg (99 : Int32)) (((8 : Int32) * (0 : Int32)) + (4 : Int32)).toNatClampNeg (99 : Int32))))] := hD
  refine lv_iinc hx hb d_94_21 hl (k := 0) rfl (show _ = (5 : Int32) by decide) (by decide) rfl (fun ls hl => ?_)
  have hl : lv_has ls 3 [(2, .int (5 : Int32)), (0, .ref h), (1, .int (0 : Int32))] := hl
  refine lv_goto (tgt := 2) hx hb d_94_24 rfl ?_
  refine lv_iload_n hx hb d_94_2 rfl (lv_at hl 0 rfl) ?_
  refine lv_bipush hx hb d_94_3 cb_8 ?_
  refine lv_icmp_ge (tgt := 27) hx hb d_94_5 rfl (fun h => absurd h (by decide)) (fun _ => ?_)
  refine lv_aload_n hx hb d_94_8 rfl (lv_at hl 1 rfl) ?_
  refine va_get hx hb hts (u8_in 7 (by decide)) hown hK hP 0 rfl (clA_at 7 (by decide)) 15 (by decide) (hts _ wc_56) (fun z h => h) hfs d_94_9 ?_
  refine lv_bipush hx hb d_94_12 cb_8 ?_
  refine lv_iload_n hx hb d_94_14 rfl (lv_at hl 2 rfl) ?_
  refine lv_imul hx hb d_94_15 ?_
  refine lv_iload_n hx hb d_94_16 rfl (lv_at hl 0 rfl) ?_
  refine lv_iadd hx hb d_94_17 ?_
  refine lv_bipush hx hb d_94_18 cb_99 ?_
  refine va_iast hx hb hK hP hD hS 1 0 rfl rfl (vpi (by decide)) d_94_20 (fun H locs hP hD hS => ?_)
  have hP : va_P D clA [(h, .inr (7, fs)), (dv, .inl (CA 0, 32, .inl (upd (upd (upd (upd (upd (upd f (((8 : Int32) * (0 : Int32)) + (0 : Int32)).toNatClampNeg (99 : Int32)) (((8 : Int32) * (0 : Int32)) + (1 : Int32)).toNatClampNeg (99 : Int32)) (((8 : Int32) * (0 : Int32)) + (2 : Int32)).toNatClampNeg (99 : Int32)) (((8 : Int32) * (0 : Int32)) + (3 : Int32)).toNatClampNeg (99 : Int32)) (((8 : Int32) * (0 : Int32)) + (4 : Int32)).toNatClampNeg (99 : Int32)) (((8 : Int32) * (0 : Int32)) + (5 : Int32)).toNatClampNeg (99 : Int32))))] H := hP
  have hD : va_D A [(h, .inr (7, fs)), (dv, .inl (CA 0, 32, .inl (upd (upd (upd (upd (upd (upd f (((8 : Int32) * (0 : Int32)) + (0 : Int32)).toNatClampNeg (99 : Int32)) (((8 : Int32) * (0 : Int32)) + (1 : Int32)).toNatClampNeg (99 : Int32)) (((8 : Int32) * (0 : Int32)) + (2 : Int32)).toNatClampNeg (99 : Int32)) (((8 : Int32) * (0 : Int32)) + (3 : Int32)).toNatClampNeg (99 : Int32)) (((8 : Int32) * (0 : Int32)) + (4 : Int32)).toNatClampNeg (99 : Int32)) (((8 : Int32) * (0 : Int32)) + (5 : Int32)).toNatClampNeg (99 : Int32))))] := hD
  refine lv_iinc hx hb d_94_21 hl (k := 0) rfl (show _ = (6 : Int32) by decide) (by decide) rfl (fun ls hl => ?_)
  have hl : lv_has ls 3 [(2, .int (6 : Int32)), (0, .ref h), (1, .int (0 : Int32))] := hl
  refine lv_goto (tgt := 2) hx hb d_94_24 rfl ?_
  refine lv_iload_n hx hb d_94_2 rfl (lv_at hl 0 rfl) ?_
  refine lv_bipush hx hb d_94_3 cb_8 ?_
  refine lv_icmp_ge (tgt := 27) hx hb d_94_5 rfl (fun h => absurd h (by decide)) (fun _ => ?_)
  refine lv_aload_n hx hb d_94_8 rfl (lv_at hl 1 rfl) ?_
  refine va_get hx hb hts (u8_in 7 (by decide)) hown hK hP 0 rfl (clA_at 7 (by decide)) 15 (by decide) (hts _ wc_56) (fun z h => h) hfs d_94_9 ?_
  refine lv_bipush hx hb d_94_12 cb_8 ?_
  refine lv_iload_n hx hb d_94_14 rfl (lv_at hl 2 rfl) ?_
  refine lv_imul hx hb d_94_15 ?_
  refine lv_iload_n hx hb d_94_16 rfl (lv_at hl 0 rfl) ?_
  refine lv_iadd hx hb d_94_17 ?_
  refine lv_bipush hx hb d_94_18 cb_99 ?_
  refine va_iast hx hb hK hP hD hS 1 0 rfl rfl (vpi (by decide)) d_94_20 (fun H locs hP hD hS => ?_)
  have hP : va_P D clA [(h, .inr (7, fs)), (dv, .inl (CA 0, 32, .inl (upd (upd (upd (upd (upd (upd (upd f (((8 : Int32) * (0 : Int32)) + (0 : Int32)).toNatClampNeg (99 : Int32)) (((8 : Int32) * (0 : Int32)) + (1 : Int32)).toNatClampNeg (99 : Int32)) (((8 : Int32) * (0 : Int32)) + (2 : Int32)).toNatClampNeg (99 : Int32)) (((8 : Int32) * (0 : Int32)) + (3 : Int32)).toNatClampNeg (99 : Int32)) (((8 : Int32) * (0 : Int32)) + (4 : Int32)).toNatClampNeg (99 : Int32)) (((8 : Int32) * (0 : Int32)) + (5 : Int32)).toNatClampNeg (99 : Int32)) (((8 : Int32) * (0 : Int32)) + (6 : Int32)).toNatClampNeg (99 : Int32))))] H := hP
  have hD : va_D A [(h, .inr (7, fs)), (dv, .inl (CA 0, 32, .inl (upd (upd (upd (upd (upd (upd (upd f (((8 : Int32) * (0 : Int32)) + (0 : Int32)).toNatClampNeg (99 : Int32)) (((8 : Int32) * (0 : Int32)) + (1 : Int32)).toNatClampNeg (99 : Int32)) (((8 : Int32) * (0 : Int32)) + (2 : Int32)).toNatClampNeg (99 : Int32)) (((8 : Int32) * (0 : Int32)) + (3 : Int32)).toNatClampNeg (99 : Int32)) (((8 : Int32) * (0 : Int32)) + (4 : Int32)).toNatClampNeg (99 : Int32)) (((8 : Int32) * (0 : Int32)) + (5 : Int32)).toNatClampNeg (99 : Int32)) (((8 : Int32) * (0 : Int32)) + (6 : Int32)).toNatClampNeg (99 : Int32))))] := hD
  refine lv_iinc hx hb d_94_21 hl (k := 0) rfl (show _ = (7 : Int32) by decide) (by decide) rfl (fun ls hl => ?_)
  have hl : lv_has ls 3 [(2, .int (7 : Int32)), (0, .ref h), (1, .int (0 : Int32))] := hl
  refine lv_goto (tgt := 2) hx hb d_94_24 rfl ?_
  refine lv_iload_n hx hb d_94_2 rfl (lv_at hl 0 rfl) ?_
  refine lv_bipush hx hb d_94_3 cb_8 ?_
  refine lv_icmp_ge (tgt := 27) hx hb d_94_5 rfl (fun h => absurd h (by decide)) (fun _ => ?_)
  refine lv_aload_n hx hb d_94_8 rfl (lv_at hl 1 rfl) ?_
  refine va_get hx hb hts (u8_in 7 (by decide)) hown hK hP 0 rfl (clA_at 7 (by decide)) 15 (by decide) (hts _ wc_56) (fun z h => h) hfs d_94_9 ?_
  refine lv_bipush hx hb d_94_12 cb_8 ?_
  refine lv_iload_n hx hb d_94_14 rfl (lv_at hl 2 rfl) ?_
  refine lv_imul hx hb d_94_15 ?_
  refine lv_iload_n hx hb d_94_16 rfl (lv_at hl 0 rfl) ?_
  refine lv_iadd hx hb d_94_17 ?_
  refine lv_bipush hx hb d_94_18 cb_99 ?_
  refine va_iast hx hb hK hP hD hS 1 0 rfl rfl (vpi (by decide)) d_94_20 (fun H locs hP hD hS => ?_)
  have hP : va_P D clA [(h, .inr (7, fs)), (dv, .inl (CA 0, 32, .inl (upd (upd (upd (upd (upd (upd (upd (upd f (((8 : Int32) * (0 : Int32)) + (0 : Int32)).toNatClampNeg (99 : Int32)) (((8 : Int32) * (0 : Int32)) + (1 : Int32)).toNatClampNeg (99 : Int32)) (((8 : Int32) * (0 : Int32)) + (2 : Int32)).toNatClampNeg (99 : Int32)) (((8 : Int32) * (0 : Int32)) + (3 : Int32)).toNatClampNeg (99 : Int32)) (((8 : Int32) * (0 : Int32)) + (4 : Int32)).toNatClampNeg (99 : Int32)) (((8 : Int32) * (0 : Int32)) + (5 : Int32)).toNatClampNeg (99 : Int32)) (((8 : Int32) * (0 : Int32)) + (6 : Int32)).toNatClampNeg (99 : Int32)) (((8 : Int32) * (0 : Int32)) + (7 : Int32)).toNatClampNeg (99 : Int32))))] H := hP
  have hD : va_D A [(h, .inr (7, fs)), (dv, .inl (CA 0, 32, .inl (upd (upd (upd (upd (upd (upd (upd (upd f (((8 : Int32) * (0 : Int32)) + (0 : Int32)).toNatClampNeg (99 : Int32)) (((8 : Int32) * (0 : Int32)) + (1 : Int32)).toNatClampNeg (99 : Int32)) (((8 : Int32) * (0 : Int32)) + (2 : Int32)).toNatClampNeg (99 : Int32)) (((8 : Int32) * (0 : Int32)) + (3 : Int32)).toNatClampNeg (99 : Int32)) (((8 : Int32) * (0 : Int32)) + (4 : Int32)).toNatClampNeg (99 : Int32)) (((8 : Int32) * (0 : Int32)) + (5 : Int32)).toNatClampNeg (99 : Int32)) (((8 : Int32) * (0 : Int32)) + (6 : Int32)).toNatClampNeg (99 : Int32)) (((8 : Int32) * (0 : Int32)) + (7 : Int32)).toNatClampNeg (99 : Int32))))] := hD
  refine lv_iinc hx hb d_94_21 hl (k := 0) rfl (show _ = (8 : Int32) by decide) (by decide) rfl (fun ls hl => ?_)
  have hl : lv_has ls 3 [(2, .int (8 : Int32)), (0, .ref h), (1, .int (0 : Int32))] := hl
  refine lv_goto (tgt := 2) hx hb d_94_24 rfl ?_
  refine lv_iload_n hx hb d_94_2 rfl (lv_at hl 0 rfl) ?_
  refine lv_bipush hx hb d_94_3 cb_8 ?_
  refine lv_icmp_ge (tgt := 27) hx hb d_94_5 rfl (fun _ => ?_) (fun h => absurd (by decide) h)
  subst hAd
  exact W.vret hx hb hr (fun t ht _ => ⟨rfl, ⟨by rw [ht]; exact hS.1, fun q h1 h2 => by rw [ht]; exact hS.2.1 q h1 h2⟩, by rw [ht]; exact hP⟩) (fun q hq => hS.2.2 q hq) d_94_27 hlk
def fg1 (f : Nat → Int32) : Nat → Int32 := (upd (upd (upd (upd (upd (upd (upd (upd f (((8 : Int32) * (1 : Int32)) + (0 : Int32)).toNatClampNeg (99 : Int32)) (((8 : Int32) * (1 : Int32)) + (1 : Int32)).toNatClampNeg (99 : Int32)) (((8 : Int32) * (1 : Int32)) + (2 : Int32)).toNatClampNeg (99 : Int32)) (((8 : Int32) * (1 : Int32)) + (3 : Int32)).toNatClampNeg (99 : Int32)) (((8 : Int32) * (1 : Int32)) + (4 : Int32)).toNatClampNeg (99 : Int32)) (((8 : Int32) * (1 : Int32)) + (5 : Int32)).toNatClampNeg (99 : Int32)) (((8 : Int32) * (1 : Int32)) + (6 : Int32)).toNatClampNeg (99 : Int32)) (((8 : Int32) * (1 : Int32)) + (7 : Int32)).toNatClampNeg (99 : Int32))
set_option maxHeartbeats 4000000 in
theorem c_forget1 (hT : ∀ w ∈ lw_tbl, w.before a0 s0 = true) (hK0 : va_K D clA (tyA CA) s0) (h dv : Nat) (f : Nat → Int32) (fs : List Value) (hfs : fs[15]? = some (.ref dv)) (hne : h ≠ dv) : Met l ⟨"SlotBusModel", "forget", "(I)V"⟩ [.code ⟨"SlotBusModel", "forget", "(I)V"⟩ prog_10_method_13_code 3 none] { frames := 0, cells := 0, slots := 0, locals := 0 } (ctP s0 [.ref h, .int (1 : Int32)] (fun H => va_P D clA [(h, .inr (7, fs)), (dv, .inl (CA 0, 32, .inl f))] H)) (ctQ (fun q => q = h ∨ q = dv) (fun _ H1 => va_P D clA [(h, .inr (7, fs)), (dv, .inl (CA 0, 32, .inl (fg1 f)))] H1)) 0 0 (fun q => q = h ∨ q = dv) := by
  refine ct_of (by decide) (Nat.le_of_ble_eq_true rfl) ?_
  intro p e s m below meth c ls hx hb hr hml hown hlk hnm hW ho hP hl
  have hts : ∀ w ∈ TBL, w.before ([.ref h, .int (1 : Int32)] : List Value).toArray s = true := tb_at hT hW
  have hK : va_K D clA (tyA CA) s := va_K.moved hW.alike hK0
  obtain ⟨A, hAd⟩ : ∃ A : Nat → Prop, A = fun q => q = h ∨ q = dv := ⟨_, rfl⟩
  have hD : va_D A [(h, .inr (7, fs)), (dv, .inl (CA 0, 32, .inl f))] := ct_D2 (by rw [hAd]; exact Or.inl rfl) (by rw [hAd]; exact Or.inr rfl) hne
  have hS : va_S A s.heap s.heap [] := ⟨Nat.le_refl _, fun _ _ _ => rfl, fun _ h => by cases h⟩
  have hl : lv_has ls 3 [(0, .ref h), (1, .int (1 : Int32))] := hl
  refine lv_iconst hx hb d_94_0 ci_0 ?_
  refine lv_istore_n hx hb d_94_1 rfl hl (by decide) rfl (fun ls hl => ?_)
  have hl : lv_has ls 3 [(2, .int (0 : Int32)), (0, .ref h), (1, .int (1 : Int32))] := hl
  refine lv_iload_n hx hb d_94_2 rfl (lv_at hl 0 rfl) ?_
  refine lv_bipush hx hb d_94_3 cb_8 ?_
  refine lv_icmp_ge (tgt := 27) hx hb d_94_5 rfl (fun h => absurd h (by decide)) (fun _ => ?_)
  refine lv_aload_n hx hb d_94_8 rfl (lv_at hl 1 rfl) ?_
  refine va_get hx hb hts (u8_in 7 (by decide)) hown hK hP 0 rfl (clA_at 7 (by decide)) 15 (by decide) (hts _ wc_56) (fun z h => h) hfs d_94_9 ?_
  refine lv_bipush hx hb d_94_12 cb_8 ?_
  refine lv_iload_n hx hb d_94_14 rfl (lv_at hl 2 rfl) ?_
  refine lv_imul hx hb d_94_15 ?_
  refine lv_iload_n hx hb d_94_16 rfl (lv_at hl 0 rfl) ?_
  refine lv_iadd hx hb d_94_17 ?_
  refine lv_bipush hx hb d_94_18 cb_99 ?_
  refine va_iast hx hb hK hP hD hS 1 0 rfl rfl (vpi (by decide)) d_94_20 (fun H locs hP hD hS => ?_)
  have hP : va_P D clA [(h, .inr (7, fs)), (dv, .inl (CA 0, 32, .inl (upd f (((8 : Int32) * (1 : Int32)) + (0 : Int32)).toNatClampNeg (99 : Int32))))] H := hP
  have hD : va_D A [(h, .inr (7, fs)), (dv, .inl (CA 0, 32, .inl (upd f (((8 : Int32) * (1 : Int32)) + (0 : Int32)).toNatClampNeg (99 : Int32))))] := hD
  refine lv_iinc hx hb d_94_21 hl (k := 0) rfl (show _ = (1 : Int32) by decide) (by decide) rfl (fun ls hl => ?_)
  have hl : lv_has ls 3 [(2, .int (1 : Int32)), (0, .ref h), (1, .int (1 : Int32))] := hl
  refine lv_goto (tgt := 2) hx hb d_94_24 rfl ?_
  refine lv_iload_n hx hb d_94_2 rfl (lv_at hl 0 rfl) ?_
  refine lv_bipush hx hb d_94_3 cb_8 ?_
  refine lv_icmp_ge (tgt := 27) hx hb d_94_5 rfl (fun h => absurd h (by decide)) (fun _ => ?_)
  refine lv_aload_n hx hb d_94_8 rfl (lv_at hl 1 rfl) ?_
  refine va_get hx hb hts (u8_in 7 (by decide)) hown hK hP 0 rfl (clA_at 7 (by decide)) 15 (by decide) (hts _ wc_56) (fun z h => h) hfs d_94_9 ?_
  refine lv_bipush hx hb d_94_12 cb_8 ?_
  refine lv_iload_n hx hb d_94_14 rfl (lv_at hl 2 rfl) ?_
  refine lv_imul hx hb d_94_15 ?_
  refine lv_iload_n hx hb d_94_16 rfl (lv_at hl 0 rfl) ?_
  refine lv_iadd hx hb d_94_17 ?_
  refine lv_bipush hx hb d_94_18 cb_99 ?_
  refine va_iast hx hb hK hP hD hS 1 0 rfl rfl (vpi (by decide)) d_94_20 (fun H locs hP hD hS => ?_)
  have hP : va_P D clA [(h, .inr (7, fs)), (dv, .inl (CA 0, 32, .inl (upd (upd f (((8 : Int32) * (1 : Int32)) + (0 : Int32)).toNatClampNeg (99 : Int32)) (((8 : Int32) * (1 : Int32)) + (1 : Int32)).toNatClampNeg (99 : Int32))))] H := hP
  have hD : va_D A [(h, .inr (7, fs)), (dv, .inl (CA 0, 32, .inl (upd (upd f (((8 : Int32) * (1 : Int32)) + (0 : Int32)).toNatClampNeg (99 : Int32)) (((8 : Int32) * (1 : Int32)) + (1 : Int32)).toNatClampNeg (99 : Int32))))] := hD
  refine lv_iinc hx hb d_94_21 hl (k := 0) rfl (show _ = (2 : Int32) by decide) (by decide) rfl (fun ls hl => ?_)
  have hl : lv_has ls 3 [(2, .int (2 : Int32)), (0, .ref h), (1, .int (1 : Int32))] := hl
  refine lv_goto (tgt := 2) hx hb d_94_24 rfl ?_
  refine lv_iload_n hx hb d_94_2 rfl (lv_at hl 0 rfl) ?_
  refine lv_bipush hx hb d_94_3 cb_8 ?_
  refine lv_icmp_ge (tgt := 27) hx hb d_94_5 rfl (fun h => absurd h (by decide)) (fun _ => ?_)
  refine lv_aload_n hx hb d_94_8 rfl (lv_at hl 1 rfl) ?_
  refine va_get hx hb hts (u8_in 7 (by decide)) hown hK hP 0 rfl (clA_at 7 (by decide)) 15 (by decide) (hts _ wc_56) (fun z h => h) hfs d_94_9 ?_
  refine lv_bipush hx hb d_94_12 cb_8 ?_
  refine lv_iload_n hx hb d_94_14 rfl (lv_at hl 2 rfl) ?_
  refine lv_imul hx hb d_94_15 ?_
  refine lv_iload_n hx hb d_94_16 rfl (lv_at hl 0 rfl) ?_
  refine lv_iadd hx hb d_94_17 ?_
  refine lv_bipush hx hb d_94_18 cb_99 ?_
  refine va_iast hx hb hK hP hD hS 1 0 rfl rfl (vpi (by decide)) d_94_20 (fun H locs hP hD hS => ?_)
  have hP : va_P D clA [(h, .inr (7, fs)), (dv, .inl (CA 0, 32, .inl (upd (upd (upd f (((8 : Int32) * (1 : Int32)) + (0 : Int32)).toNatClampNeg (99 : Int32)) (((8 : Int32) * (1 : Int32)) + (1 : Int32)).toNatClampNeg (99 : Int32)) (((8 : Int32) * (1 : Int32)) + (2 : Int32)).toNatClampNeg (99 : Int32))))] H := hP
  have hD : va_D A [(h, .inr (7, fs)), (dv, .inl (CA 0, 32, .inl (upd (upd (upd f (((8 : Int32) * (1 : Int32)) + (0 : Int32)).toNatClampNeg (99 : Int32)) (((8 : Int32) * (1 : Int32)) + (1 : Int32)).toNatClampNeg (99 : Int32)) (((8 : Int32) * (1 : Int32)) + (2 : Int32)).toNatClampNeg (99 : Int32))))] := hD
  refine lv_iinc hx hb d_94_21 hl (k := 0) rfl (show _ = (3 : Int32) by decide) (by decide) rfl (fun ls hl => ?_)
  have hl : lv_has ls 3 [(2, .int (3 : Int32)), (0, .ref h), (1, .int (1 : Int32))] := hl
  refine lv_goto (tgt := 2) hx hb d_94_24 rfl ?_
  refine lv_iload_n hx hb d_94_2 rfl (lv_at hl 0 rfl) ?_
  refine lv_bipush hx hb d_94_3 cb_8 ?_
  refine lv_icmp_ge (tgt := 27) hx hb d_94_5 rfl (fun h => absurd h (by decide)) (fun _ => ?_)
  refine lv_aload_n hx hb d_94_8 rfl (lv_at hl 1 rfl) ?_
  refine va_get hx hb hts (u8_in 7 (by decide)) hown hK hP 0 rfl (clA_at 7 (by decide)) 15 (by decide) (hts _ wc_56) (fun z h => h) hfs d_94_9 ?_
  refine lv_bipush hx hb d_94_12 cb_8 ?_
  refine lv_iload_n hx hb d_94_14 rfl (lv_at hl 2 rfl) ?_
  refine lv_imul hx hb d_94_15 ?_
  refine lv_iload_n hx hb d_94_16 rfl (lv_at hl 0 rfl) ?_
  refine lv_iadd hx hb d_94_17 ?_
  refine lv_bipush hx hb d_94_18 cb_99 ?_
  refine va_iast hx hb hK hP hD hS 1 0 rfl rfl (vpi (by decide)) d_94_20 (fun H locs hP hD hS => ?_)
  have hP : va_P D clA [(h, .inr (7, fs)), (dv, .inl (CA 0, 32, .inl (upd (upd (upd (upd f (((8 : Int32) * (1 : Int32)) + (0 : Int32)).toNatClampNeg (99 : Int32)) (((8 : Int32) * (1 : Int32)) + (1 : Int32)).toNatClampNeg (99 : Int32)) (((8 : Int32) * (1 : Int32)) + (2 : Int32)).toNatClampNeg (99 : Int32)) (((8 : Int32) * (1 : Int32)) + (3 : Int32)).toNatClampNeg (99 : Int32))))] H := hP
  have hD : va_D A [(h, .inr (7, fs)), (dv, .inl (CA 0, 32, .inl (upd (upd (upd (upd f (((8 : Int32) * (1 : Int32)) + (0 : Int32)).toNatClampNeg (99 : Int32)) (((8 : Int32) * (1 : Int32)) + (1 : Int32)).toNatClampNeg (99 : Int32)) (((8 : Int32) * (1 : Int32)) + (2 : Int32)).toNatClampNeg (99 : Int32)) (((8 : Int32) * (1 : Int32)) + (3 : Int32)).toNatClampNeg (99 : Int32))))] := hD
  refine lv_iinc hx hb d_94_21 hl (k := 0) rfl (show _ = (4 : Int32) by decide) (by decide) rfl (fun ls hl => ?_)
  have hl : lv_has ls 3 [(2, .int (4 : Int32)), (0, .ref h), (1, .int (1 : Int32))] := hl
  refine lv_goto (tgt := 2) hx hb d_94_24 rfl ?_
  refine lv_iload_n hx hb d_94_2 rfl (lv_at hl 0 rfl) ?_
  refine lv_bipush hx hb d_94_3 cb_8 ?_
  refine lv_icmp_ge (tgt := 27) hx hb d_94_5 rfl (fun h => absurd h (by decide)) (fun _ => ?_)
  refine lv_aload_n hx hb d_94_8 rfl (lv_at hl 1 rfl) ?_
  refine va_get hx hb hts (u8_in 7 (by decide)) hown hK hP 0 rfl (clA_at 7 (by decide)) 15 (by decide) (hts _ wc_56) (fun z h => h) hfs d_94_9 ?_
  refine lv_bipush hx hb d_94_12 cb_8 ?_
  refine lv_iload_n hx hb d_94_14 rfl (lv_at hl 2 rfl) ?_
  refine lv_imul hx hb d_94_15 ?_
  refine lv_iload_n hx hb d_94_16 rfl (lv_at hl 0 rfl) ?_
  refine lv_iadd hx hb d_94_17 ?_
  refine lv_bipush hx hb d_94_18 cb_99 ?_
  refine va_iast hx hb hK hP hD hS 1 0 rfl rfl (vpi (by decide)) d_94_20 (fun H locs hP hD hS => ?_)
  have hP : va_P D clA [(h, .inr (7, fs)), (dv, .inl (CA 0, 32, .inl (upd (upd (upd (upd (upd f (((8 : Int32) * (1 : Int32)) + (0 : Int32)).toNatClampNeg (99 : Int32)) (((8 : Int32) * (1 : Int32)) + (1 : Int32)).toNatClampNeg (99 : Int32)) (((8 : Int32) * (1 : Int32)) + (2 : Int32)).toNatClampNeg (99 : Int32)) (((8 : Int32) * (1 : Int32)) + (3 : Int32)).toNatClampNeg (99 : Int32)) (((8 : Int32) * (1 : Int32)) + (4 : Int32)).toNatClampNeg (99 : Int32))))] H := hP
  have hD : va_D A [(h, .inr (7, fs)), (dv, .inl (CA 0, 32, .inl (upd (upd (upd (upd (upd f (((8 : Int32) * (1 : Int32)) + (0 : Int32)).toNatClampNeg (99 : Int32)) (((8 : Int32) * (1 : Int32)) + (1 : Int32)).toNatClampNeg (99 : Int32)) (((8 : Int32) * (1 : Int32)) + (2 : Int32)).toNatClampNeg (99 : Int32)) (((8 : Int32) * (1 : Int32)) + (3 : Int32)).toNatClampNeg (99 : Int32)) (((8 : Int32) * (1 : Int32)) + (4 : Int32)).toNatClampNeg (99 : Int32))))] := hD
  refine lv_iinc hx hb d_94_21 hl (k := 0) rfl (show _ = (5 : Int32) by decide) (by decide) rfl (fun ls hl => ?_)
  have hl : lv_has ls 3 [(2, .int (5 : Int32)), (0, .ref h), (1, .int (1 : Int32))] := hl
  refine lv_goto (tgt := 2) hx hb d_94_24 rfl ?_
  refine lv_iload_n hx hb d_94_2 rfl (lv_at hl 0 rfl) ?_
  refine lv_bipush hx hb d_94_3 cb_8 ?_
  refine lv_icmp_ge (tgt := 27) hx hb d_94_5 rfl (fun h => absurd h (by decide)) (fun _ => ?_)
  refine lv_aload_n hx hb d_94_8 rfl (lv_at hl 1 rfl) ?_
  refine va_get hx hb hts (u8_in 7 (by decide)) hown hK hP 0 rfl (clA_at 7 (by decide)) 15 (by decide) (hts _ wc_56) (fun z h => h) hfs d_94_9 ?_
  refine lv_bipush hx hb d_94_12 cb_8 ?_
  refine lv_iload_n hx hb d_94_14 rfl (lv_at hl 2 rfl) ?_
  refine lv_imul hx hb d_94_15 ?_
  refine lv_iload_n hx hb d_94_16 rfl (lv_at hl 0 rfl) ?_
  refine lv_iadd hx hb d_94_17 ?_
  refine lv_bipush hx hb d_94_18 cb_99 ?_
  refine va_iast hx hb hK hP hD hS 1 0 rfl rfl (vpi (by decide)) d_94_20 (fun H locs hP hD hS => ?_)
  have hP : va_P D clA [(h, .inr (7, fs)), (dv, .inl (CA 0, 32, .inl (upd (upd (upd (upd (upd (upd f (((8 : Int32) * (1 : Int32)) + (0 : Int32)).toNatClampNeg (99 : Int32)) (((8 : Int32) * (1 : Int32)) + (1 : Int32)).toNatClampNeg (99 : Int32)) (((8 : Int32) * (1 : Int32)) + (2 : Int32)).toNatClampNeg (99 : Int32)) (((8 : Int32) * (1 : Int32)) + (3 : Int32)).toNatClampNeg (99 : Int32)) (((8 : Int32) * (1 : Int32)) + (4 : Int32)).toNatClampNeg (99 : Int32)) (((8 : Int32) * (1 : Int32)) + (5 : Int32)).toNatClampNeg (99 : Int32))))] H := hP
  have hD : va_D A [(h, .inr (7, fs)), (dv, .inl (CA 0, 32, .inl (upd (upd (upd (upd (upd (upd f (((8 : Int32) * (1 : Int32)) + (0 : Int32)).toNatClampNeg (99 : Int32)) (((8 : Int32) * (1 : Int32)) + (1 : Int32)).toNatClampNeg (99 : Int32)) (((8 : Int32) * (1 : Int32)) + (2 : Int32)).toNatClampNeg (99 : Int32)) (((8 : Int32) * (1 : Int32)) + (3 : Int32)).toNatClampNeg (99 : Int32)) (((8 : Int32) * (1 : Int32)) + (4 : Int32)).toNatClampNeg (99 : Int32)) (((8 : Int32) * (1 : Int32)) + (5 : Int32)).toNatClampNeg (99 : Int32))))] := hD
  refine lv_iinc hx hb d_94_21 hl (k := 0) rfl (show _ = (6 : Int32) by decide) (by decide) rfl (fun ls hl => ?_)
  have hl : lv_has ls 3 [(2, .int (6 : Int32)), (0, .ref h), (1, .int (1 : Int32))] := hl
  refine lv_goto (tgt := 2) hx hb d_94_24 rfl ?_
  refine lv_iload_n hx hb d_94_2 rfl (lv_at hl 0 rfl) ?_
  refine lv_bipush hx hb d_94_3 cb_8 ?_
  refine lv_icmp_ge (tgt := 27) hx hb d_94_5 rfl (fun h => absurd h (by decide)) (fun _ => ?_)
  refine lv_aload_n hx hb d_94_8 rfl (lv_at hl 1 rfl) ?_
  refine va_get hx hb hts (u8_in 7 (by decide)) hown hK hP 0 rfl (clA_at 7 (by decide)) 15 (by decide) (hts _ wc_56) (fun z h => h) hfs d_94_9 ?_
  refine lv_bipush hx hb d_94_12 cb_8 ?_
  refine lv_iload_n hx hb d_94_14 rfl (lv_at hl 2 rfl) ?_
  refine lv_imul hx hb d_94_15 ?_
  refine lv_iload_n hx hb d_94_16 rfl (lv_at hl 0 rfl) ?_
  refine lv_iadd hx hb d_94_17 ?_
  refine lv_bipush hx hb d_94_18 cb_99 ?_
  refine va_iast hx hb hK hP hD hS 1 0 rfl rfl (vpi (by decide)) d_94_20 (fun H locs hP hD hS => ?_)
  have hP : va_P D clA [(h, .inr (7, fs)), (dv, .inl (CA 0, 32, .inl (upd (upd (upd (upd (upd (upd (upd f (((8 : Int32) * (1 : Int32)) + (0 : Int32)).toNatClampNeg (99 : Int32)) (((8 : Int32) * (1 : Int32)) + (1 : Int32)).toNatClampNeg (99 : Int32)) (((8 : Int32) * (1 : Int32)) + (2 : Int32)).toNatClampNeg (99 : Int32)) (((8 : Int32) * (1 : Int32)) + (3 : Int32)).toNatClampNeg (99 : Int32)) (((8 : Int32) * (1 : Int32)) + (4 : Int32)).toNatClampNeg (99 : Int32)) (((8 : Int32) * (1 : Int32)) + (5 : Int32)).toNatClampNeg (99 : Int32)) (((8 : Int32) * (1 : Int32)) + (6 : Int32)).toNatClampNeg (99 : Int32))))] H := hP
  have hD : va_D A [(h, .inr (7, fs)), (dv, .inl (CA 0, 32, .inl (upd (upd (upd (upd (upd (upd (upd f (((8 : Int32) * (1 : Int32)) + (0 : Int32)).toNatClampNeg (99 : Int32)) (((8 : Int32) * (1 : Int32)) + (1 : Int32)).toNatClampNeg (99 : Int32)) (((8 : Int32) * (1 : Int32)) + (2 : Int32)).toNatClampNeg (99 : Int32)) (((8 : Int32) * (1 : Int32)) + (3 : Int32)).toNatClampNeg (99 : Int32)) (((8 : Int32) * (1 : Int32)) + (4 : Int32)).toNatClampNeg (99 : Int32)) (((8 : Int32) * (1 : Int32)) + (5 : Int32)).toNatClampNeg (99 : Int32)) (((8 : Int32) * (1 : Int32)) + (6 : Int32)).toNatClampNeg (99 : Int32))))] := hD
  refine lv_iinc hx hb d_94_21 hl (k := 0) rfl (show _ = (7 : Int32) by decide) (by decide) rfl (fun ls hl => ?_)
  have hl : lv_has ls 3 [(2, .int (7 : Int32)), (0, .ref h), (1, .int (1 : Int32))] := hl
  refine lv_goto (tgt := 2) hx hb d_94_24 rfl ?_
  refine lv_iload_n hx hb d_94_2 rfl (lv_at hl 0 rfl) ?_
  refine lv_bipush hx hb d_94_3 cb_8 ?_
  refine lv_icmp_ge (tgt := 27) hx hb d_94_5 rfl (fun h => absurd h (by decide)) (fun _ => ?_)
  refine lv_aload_n hx hb d_94_8 rfl (lv_at hl 1 rfl) ?_
  refine va_get hx hb hts (u8_in 7 (by decide)) hown hK hP 0 rfl (clA_at 7 (by decide)) 15 (by decide) (hts _ wc_56) (fun z h => h) hfs d_94_9 ?_
  refine lv_bipush hx hb d_94_12 cb_8 ?_
  refine lv_iload_n hx hb d_94_14 rfl (lv_at hl 2 rfl) ?_
  refine lv_imul hx hb d_94_15 ?_
  refine lv_iload_n hx hb d_94_16 rfl (lv_at hl 0 rfl) ?_
  refine lv_iadd hx hb d_94_17 ?_
  refine lv_bipush hx hb d_94_18 cb_99 ?_
  refine va_iast hx hb hK hP hD hS 1 0 rfl rfl (vpi (by decide)) d_94_20 (fun H locs hP hD hS => ?_)
  have hP : va_P D clA [(h, .inr (7, fs)), (dv, .inl (CA 0, 32, .inl (upd (upd (upd (upd (upd (upd (upd (upd f (((8 : Int32) * (1 : Int32)) + (0 : Int32)).toNatClampNeg (99 : Int32)) (((8 : Int32) * (1 : Int32)) + (1 : Int32)).toNatClampNeg (99 : Int32)) (((8 : Int32) * (1 : Int32)) + (2 : Int32)).toNatClampNeg (99 : Int32)) (((8 : Int32) * (1 : Int32)) + (3 : Int32)).toNatClampNeg (99 : Int32)) (((8 : Int32) * (1 : Int32)) + (4 : Int32)).toNatClampNeg (99 : Int32)) (((8 : Int32) * (1 : Int32)) + (5 : Int32)).toNatClampNeg (99 : Int32)) (((8 : Int32) * (1 : Int32)) + (6 : Int32)).toNatClampNeg (99 : Int32)) (((8 : Int32) * (1 : Int32)) + (7 : Int32)).toNatClampNeg (99 : Int32))))] H := hP
  have hD : va_D A [(h, .inr (7, fs)), (dv, .inl (CA 0, 32, .inl (upd (upd (upd (upd (upd (upd (upd (upd f (((8 : Int32) * (1 : Int32)) + (0 : Int32)).toNatClampNeg (99 : Int32)) (((8 : Int32) * (1 : Int32)) + (1 : Int32)).toNatClampNeg (99 : Int32)) (((8 : Int32) * (1 : Int32)) + (2 : Int32)).toNatClampNeg (99 : Int32)) (((8 : Int32) * (1 : Int32)) + (3 : Int32)).toNatClampNeg (99 : Int32)) (((8 : Int32) * (1 : Int32)) + (4 : Int32)).toNatClampNeg (99 : Int32)) (((8 : Int32) * (1 : Int32)) + (5 : Int32)).toNatClampNeg (99 : Int32)) (((8 : Int32) * (1 : Int32)) + (6 : Int32)).toNatClampNeg (99 : Int32)) (((8 : Int32) * (1 : Int32)) + (7 : Int32)).toNatClampNeg (99 : Int32))))] := hD
  refine lv_iinc hx hb d_94_21 hl (k := 0) rfl (show _ = (8 : Int32) by decide) (by decide) rfl (fun ls hl => ?_)
  have hl : lv_has ls 3 [(2, .int (8 : Int32)), (0, .ref h), (1, .int (1 : Int32))] := hl
  refine lv_goto (tgt := 2) hx hb d_94_24 rfl ?_
  refine lv_iload_n hx hb d_94_2 rfl (lv_at hl 0 rfl) ?_
  refine lv_bipush hx hb d_94_3 cb_8 ?_
  refine lv_icmp_ge (tgt := 27) hx hb d_94_5 rfl (fun _ => ?_) (fun h => absurd (by decide) h)
  subst hAd
  exact W.vret hx hb hr (fun t ht _ => ⟨rfl, ⟨by rw [ht]; exact hS.1, fun q h1 h2 => by rw [ht]; exact hS.2.1 q h1 h2⟩, by rw [ht]; exact hP⟩) (fun q hq => hS.2.2 q hq) d_94_27 hlk
def fg2 (f : Nat → Int32) : Nat → Int32 := (upd (upd (upd (upd (upd (upd (upd (upd f (((8 : Int32) * (2 : Int32)) + (0 : Int32)).toNatClampNeg (99 : Int32)) (((8 : Int32) * (2 : Int32)) + (1 : Int32)).toNatClampNeg (99 : Int32)) (((8 : Int32) * (2 : Int32)) + (2 : Int32)).toNatClampNeg (99 : Int32)) (((8 : Int32) * (2 : Int32)) + (3 : Int32)).toNatClampNeg (99 : Int32)) (((8 : Int32) * (2 : Int32)) + (4 : Int32)).toNatClampNeg (99 : Int32)) (((8 : Int32) * (2 : Int32)) + (5 : Int32)).toNatClampNeg (99 : Int32)) (((8 : Int32) * (2 : Int32)) + (6 : Int32)).toNatClampNeg (99 : Int32)) (((8 : Int32) * (2 : Int32)) + (7 : Int32)).toNatClampNeg (99 : Int32))
set_option maxHeartbeats 4000000 in
theorem c_forget2 (hT : ∀ w ∈ lw_tbl, w.before a0 s0 = true) (hK0 : va_K D clA (tyA CA) s0) (h dv : Nat) (f : Nat → Int32) (fs : List Value) (hfs : fs[15]? = some (.ref dv)) (hne : h ≠ dv) : Met l ⟨"SlotBusModel", "forget", "(I)V"⟩ [.code ⟨"SlotBusModel", "forget", "(I)V"⟩ prog_10_method_13_code 3 none] { frames := 0, cells := 0, slots := 0, locals := 0 } (ctP s0 [.ref h, .int (2 : Int32)] (fun H => va_P D clA [(h, .inr (7, fs)), (dv, .inl (CA 0, 32, .inl f))] H)) (ctQ (fun q => q = h ∨ q = dv) (fun _ H1 => va_P D clA [(h, .inr (7, fs)), (dv, .inl (CA 0, 32, .inl (fg2 f)))] H1)) 0 0 (fun q => q = h ∨ q = dv) := by
  refine ct_of (by decide) (Nat.le_of_ble_eq_true rfl) ?_
  intro p e s m below meth c ls hx hb hr hml hown hlk hnm hW ho hP hl
  have hts : ∀ w ∈ TBL, w.before ([.ref h, .int (2 : Int32)] : List Value).toArray s = true := tb_at hT hW
  have hK : va_K D clA (tyA CA) s := va_K.moved hW.alike hK0
  obtain ⟨A, hAd⟩ : ∃ A : Nat → Prop, A = fun q => q = h ∨ q = dv := ⟨_, rfl⟩
  have hD : va_D A [(h, .inr (7, fs)), (dv, .inl (CA 0, 32, .inl f))] := ct_D2 (by rw [hAd]; exact Or.inl rfl) (by rw [hAd]; exact Or.inr rfl) hne
  have hS : va_S A s.heap s.heap [] := ⟨Nat.le_refl _, fun _ _ _ => rfl, fun _ h => by cases h⟩
  have hl : lv_has ls 3 [(0, .ref h), (1, .int (2 : Int32))] := hl
  refine lv_iconst hx hb d_94_0 ci_0 ?_
  refine lv_istore_n hx hb d_94_1 rfl hl (by decide) rfl (fun ls hl => ?_)
  have hl : lv_has ls 3 [(2, .int (0 : Int32)), (0, .ref h), (1, .int (2 : Int32))] := hl
  refine lv_iload_n hx hb d_94_2 rfl (lv_at hl 0 rfl) ?_
  refine lv_bipush hx hb d_94_3 cb_8 ?_
  refine lv_icmp_ge (tgt := 27) hx hb d_94_5 rfl (fun h => absurd h (by decide)) (fun _ => ?_)
  refine lv_aload_n hx hb d_94_8 rfl (lv_at hl 1 rfl) ?_
  refine va_get hx hb hts (u8_in 7 (by decide)) hown hK hP 0 rfl (clA_at 7 (by decide)) 15 (by decide) (hts _ wc_56) (fun z h => h) hfs d_94_9 ?_
  refine lv_bipush hx hb d_94_12 cb_8 ?_
  refine lv_iload_n hx hb d_94_14 rfl (lv_at hl 2 rfl) ?_
  refine lv_imul hx hb d_94_15 ?_
  refine lv_iload_n hx hb d_94_16 rfl (lv_at hl 0 rfl) ?_
  refine lv_iadd hx hb d_94_17 ?_
  refine lv_bipush hx hb d_94_18 cb_99 ?_
  refine va_iast hx hb hK hP hD hS 1 0 rfl rfl (vpi (by decide)) d_94_20 (fun H locs hP hD hS => ?_)
  have hP : va_P D clA [(h, .inr (7, fs)), (dv, .inl (CA 0, 32, .inl (upd f (((8 : Int32) * (2 : Int32)) + (0 : Int32)).toNatClampNeg (99 : Int32))))] H := hP
  have hD : va_D A [(h, .inr (7, fs)), (dv, .inl (CA 0, 32, .inl (upd f (((8 : Int32) * (2 : Int32)) + (0 : Int32)).toNatClampNeg (99 : Int32))))] := hD
  refine lv_iinc hx hb d_94_21 hl (k := 0) rfl (show _ = (1 : Int32) by decide) (by decide) rfl (fun ls hl => ?_)
  have hl : lv_has ls 3 [(2, .int (1 : Int32)), (0, .ref h), (1, .int (2 : Int32))] := hl
  refine lv_goto (tgt := 2) hx hb d_94_24 rfl ?_
  refine lv_iload_n hx hb d_94_2 rfl (lv_at hl 0 rfl) ?_
  refine lv_bipush hx hb d_94_3 cb_8 ?_
  refine lv_icmp_ge (tgt := 27) hx hb d_94_5 rfl (fun h => absurd h (by decide)) (fun _ => ?_)
  refine lv_aload_n hx hb d_94_8 rfl (lv_at hl 1 rfl) ?_
  refine va_get hx hb hts (u8_in 7 (by decide)) hown hK hP 0 rfl (clA_at 7 (by decide)) 15 (by decide) (hts _ wc_56) (fun z h => h) hfs d_94_9 ?_
  refine lv_bipush hx hb d_94_12 cb_8 ?_
  refine lv_iload_n hx hb d_94_14 rfl (lv_at hl 2 rfl) ?_
  refine lv_imul hx hb d_94_15 ?_
  refine lv_iload_n hx hb d_94_16 rfl (lv_at hl 0 rfl) ?_
  refine lv_iadd hx hb d_94_17 ?_
  refine lv_bipush hx hb d_94_18 cb_99 ?_
  refine va_iast hx hb hK hP hD hS 1 0 rfl rfl (vpi (by decide)) d_94_20 (fun H locs hP hD hS => ?_)
  have hP : va_P D clA [(h, .inr (7, fs)), (dv, .inl (CA 0, 32, .inl (upd (upd f (((8 : Int32) * (2 : Int32)) + (0 : Int32)).toNatClampNeg (99 : Int32)) (((8 : Int32) * (2 : Int32)) + (1 : Int32)).toNatClampNeg (99 : Int32))))] H := hP
  have hD : va_D A [(h, .inr (7, fs)), (dv, .inl (CA 0, 32, .inl (upd (upd f (((8 : Int32) * (2 : Int32)) + (0 : Int32)).toNatClampNeg (99 : Int32)) (((8 : Int32) * (2 : Int32)) + (1 : Int32)).toNatClampNeg (99 : Int32))))] := hD
  refine lv_iinc hx hb d_94_21 hl (k := 0) rfl (show _ = (2 : Int32) by decide) (by decide) rfl (fun ls hl => ?_)
  have hl : lv_has ls 3 [(2, .int (2 : Int32)), (0, .ref h), (1, .int (2 : Int32))] := hl
  refine lv_goto (tgt := 2) hx hb d_94_24 rfl ?_
  refine lv_iload_n hx hb d_94_2 rfl (lv_at hl 0 rfl) ?_
  refine lv_bipush hx hb d_94_3 cb_8 ?_
  refine lv_icmp_ge (tgt := 27) hx hb d_94_5 rfl (fun h => absurd h (by decide)) (fun _ => ?_)
  refine lv_aload_n hx hb d_94_8 rfl (lv_at hl 1 rfl) ?_
  refine va_get hx hb hts (u8_in 7 (by decide)) hown hK hP 0 rfl (clA_at 7 (by decide)) 15 (by decide) (hts _ wc_56) (fun z h => h) hfs d_94_9 ?_
  refine lv_bipush hx hb d_94_12 cb_8 ?_
  refine lv_iload_n hx hb d_94_14 rfl (lv_at hl 2 rfl) ?_
  refine lv_imul hx hb d_94_15 ?_
  refine lv_iload_n hx hb d_94_16 rfl (lv_at hl 0 rfl) ?_
  refine lv_iadd hx hb d_94_17 ?_
  refine lv_bipush hx hb d_94_18 cb_99 ?_
  refine va_iast hx hb hK hP hD hS 1 0 rfl rfl (vpi (by decide)) d_94_20 (fun H locs hP hD hS => ?_)
  have hP : va_P D clA [(h, .inr (7, fs)), (dv, .inl (CA 0, 32, .inl (upd (upd (upd f (((8 : Int32) * (2 : Int32)) + (0 : Int32)).toNatClampNeg (99 : Int32)) (((8 : Int32) * (2 : Int32)) + (1 : Int32)).toNatClampNeg (99 : Int32)) (((8 : Int32) * (2 : Int32)) + (2 : Int32)).toNatClampNeg (99 : Int32))))] H := hP
  have hD : va_D A [(h, .inr (7, fs)), (dv, .inl (CA 0, 32, .inl (upd (upd (upd f (((8 : Int32) * (2 : Int32)) + (0 : Int32)).toNatClampNeg (99 : Int32)) (((8 : Int32) * (2 : Int32)) + (1 : Int32)).toNatClampNeg (99 : Int32)) (((8 : Int32) * (2 : Int32)) + (2 : Int32)).toNatClampNeg (99 : Int32))))] := hD
  refine lv_iinc hx hb d_94_21 hl (k := 0) rfl (show _ = (3 : Int32) by decide) (by decide) rfl (fun ls hl => ?_)
  have hl : lv_has ls 3 [(2, .int (3 : Int32)), (0, .ref h), (1, .int (2 : Int32))] := hl
  refine lv_goto (tgt := 2) hx hb d_94_24 rfl ?_
  refine lv_iload_n hx hb d_94_2 rfl (lv_at hl 0 rfl) ?_
  refine lv_bipush hx hb d_94_3 cb_8 ?_
  refine lv_icmp_ge (tgt := 27) hx hb d_94_5 rfl (fun h => absurd h (by decide)) (fun _ => ?_)
  refine lv_aload_n hx hb d_94_8 rfl (lv_at hl 1 rfl) ?_
  refine va_get hx hb hts (u8_in 7 (by decide)) hown hK hP 0 rfl (clA_at 7 (by decide)) 15 (by decide) (hts _ wc_56) (fun z h => h) hfs d_94_9 ?_
  refine lv_bipush hx hb d_94_12 cb_8 ?_
  refine lv_iload_n hx hb d_94_14 rfl (lv_at hl 2 rfl) ?_
  refine lv_imul hx hb d_94_15 ?_
  refine lv_iload_n hx hb d_94_16 rfl (lv_at hl 0 rfl) ?_
  refine lv_iadd hx hb d_94_17 ?_
  refine lv_bipush hx hb d_94_18 cb_99 ?_
  refine va_iast hx hb hK hP hD hS 1 0 rfl rfl (vpi (by decide)) d_94_20 (fun H locs hP hD hS => ?_)
  have hP : va_P D clA [(h, .inr (7, fs)), (dv, .inl (CA 0, 32, .inl (upd (upd (upd (upd f (((8 : Int32) * (2 : Int32)) + (0 : Int32)).toNatClampNeg (99 : Int32)) (((8 : Int32) * (2 : Int32)) + (1 : Int32)).toNatClampNeg (99 : Int32)) (((8 : Int32) * (2 : Int32)) + (2 : Int32)).toNatClampNeg (99 : Int32)) (((8 : Int32) * (2 : Int32)) + (3 : Int32)).toNatClampNeg (99 : Int32))))] H := hP
  have hD : va_D A [(h, .inr (7, fs)), (dv, .inl (CA 0, 32, .inl (upd (upd (upd (upd f (((8 : Int32) * (2 : Int32)) + (0 : Int32)).toNatClampNeg (99 : Int32)) (((8 : Int32) * (2 : Int32)) + (1 : Int32)).toNatClampNeg (99 : Int32)) (((8 : Int32) * (2 : Int32)) + (2 : Int32)).toNatClampNeg (99 : Int32)) (((8 : Int32) * (2 : Int32)) + (3 : Int32)).toNatClampNeg (99 : Int32))))] := hD
  refine lv_iinc hx hb d_94_21 hl (k := 0) rfl (show _ = (4 : Int32) by decide) (by decide) rfl (fun ls hl => ?_)
  have hl : lv_has ls 3 [(2, .int (4 : Int32)), (0, .ref h), (1, .int (2 : Int32))] := hl
  refine lv_goto (tgt := 2) hx hb d_94_24 rfl ?_
  refine lv_iload_n hx hb d_94_2 rfl (lv_at hl 0 rfl) ?_
  refine lv_bipush hx hb d_94_3 cb_8 ?_
  refine lv_icmp_ge (tgt := 27) hx hb d_94_5 rfl (fun h => absurd h (by decide)) (fun _ => ?_)
  refine lv_aload_n hx hb d_94_8 rfl (lv_at hl 1 rfl) ?_
  refine va_get hx hb hts (u8_in 7 (by decide)) hown hK hP 0 rfl (clA_at 7 (by decide)) 15 (by decide) (hts _ wc_56) (fun z h => h) hfs d_94_9 ?_
  refine lv_bipush hx hb d_94_12 cb_8 ?_
  refine lv_iload_n hx hb d_94_14 rfl (lv_at hl 2 rfl) ?_
  refine lv_imul hx hb d_94_15 ?_
  refine lv_iload_n hx hb d_94_16 rfl (lv_at hl 0 rfl) ?_
  refine lv_iadd hx hb d_94_17 ?_
  refine lv_bipush hx hb d_94_18 cb_99 ?_
  refine va_iast hx hb hK hP hD hS 1 0 rfl rfl (vpi (by decide)) d_94_20 (fun H locs hP hD hS => ?_)
  have hP : va_P D clA [(h, .inr (7, fs)), (dv, .inl (CA 0, 32, .inl (upd (upd (upd (upd (upd f (((8 : Int32) * (2 : Int32)) + (0 : Int32)).toNatClampNeg (99 : Int32)) (((8 : Int32) * (2 : Int32)) + (1 : Int32)).toNatClampNeg (99 : Int32)) (((8 : Int32) * (2 : Int32)) + (2 : Int32)).toNatClampNeg (99 : Int32)) (((8 : Int32) * (2 : Int32)) + (3 : Int32)).toNatClampNeg (99 : Int32)) (((8 : Int32) * (2 : Int32)) + (4 : Int32)).toNatClampNeg (99 : Int32))))] H := hP
  have hD : va_D A [(h, .inr (7, fs)), (dv, .inl (CA 0, 32, .inl (upd (upd (upd (upd (upd f (((8 : Int32) * (2 : Int32)) + (0 : Int32)).toNatClampNeg (99 : Int32)) (((8 : Int32) * (2 : Int32)) + (1 : Int32)).toNatClampNeg (99 : Int32)) (((8 : Int32) * (2 : Int32)) + (2 : Int32)).toNatClampNeg (99 : Int32)) (((8 : Int32) * (2 : Int32)) + (3 : Int32)).toNatClampNeg (99 : Int32)) (((8 : Int32) * (2 : Int32)) + (4 : Int32)).toNatClampNeg (99 : Int32))))] := hD
  refine lv_iinc hx hb d_94_21 hl (k := 0) rfl (show _ = (5 : Int32) by decide) (by decide) rfl (fun ls hl => ?_)
  have hl : lv_has ls 3 [(2, .int (5 : Int32)), (0, .ref h), (1, .int (2 : Int32))] := hl
  refine lv_goto (tgt := 2) hx hb d_94_24 rfl ?_
  refine lv_iload_n hx hb d_94_2 rfl (lv_at hl 0 rfl) ?_
  refine lv_bipush hx hb d_94_3 cb_8 ?_
  refine lv_icmp_ge (tgt := 27) hx hb d_94_5 rfl (fun h => absurd h (by decide)) (fun _ => ?_)
  refine lv_aload_n hx hb d_94_8 rfl (lv_at hl 1 rfl) ?_
  refine va_get hx hb hts (u8_in 7 (by decide)) hown hK hP 0 rfl (clA_at 7 (by decide)) 15 (by decide) (hts _ wc_56) (fun z h => h) hfs d_94_9 ?_
  refine lv_bipush hx hb d_94_12 cb_8 ?_
  refine lv_iload_n hx hb d_94_14 rfl (lv_at hl 2 rfl) ?_
  refine lv_imul hx hb d_94_15 ?_
  refine lv_iload_n hx hb d_94_16 rfl (lv_at hl 0 rfl) ?_
  refine lv_iadd hx hb d_94_17 ?_
  refine lv_bipush hx hb d_94_18 cb_99 ?_
  refine va_iast hx hb hK hP hD hS 1 0 rfl rfl (vpi (by decide)) d_94_20 (fun H locs hP hD hS => ?_)
  have hP : va_P D clA [(h, .inr (7, fs)), (dv, .inl (CA 0, 32, .inl (upd (upd (upd (upd (upd (upd f (((8 : Int32) * (2 : Int32)) + (0 : Int32)).toNatClampNeg (99 : Int32)) (((8 : Int32) * (2 : Int32)) + (1 : Int32)).toNatClampNeg (99 : Int32)) (((8 : Int32) * (2 : Int32)) + (2 : Int32)).toNatClampNeg (99 : Int32)) (((8 : Int32) * (2 : Int32)) + (3 : Int32)).toNatClampNeg (99 : Int32)) (((8 : Int32) * (2 : Int32)) + (4 : Int32)).toNatClampNeg (99 : Int32)) (((8 : Int32) * (2 : Int32)) + (5 : Int32)).toNatClampNeg (99 : Int32))))] H := hP
  have hD : va_D A [(h, .inr (7, fs)), (dv, .inl (CA 0, 32, .inl (upd (upd (upd (upd (upd (upd f (((8 : Int32) * (2 : Int32)) + (0 : Int32)).toNatClampNeg (99 : Int32)) (((8 : Int32) * (2 : Int32)) + (1 : Int32)).toNatClampNeg (99 : Int32)) (((8 : Int32) * (2 : Int32)) + (2 : Int32)).toNatClampNeg (99 : Int32)) (((8 : Int32) * (2 : Int32)) + (3 : Int32)).toNatClampNeg (99 : Int32)) (((8 : Int32) * (2 : Int32)) + (4 : Int32)).toNatClampNeg (99 : Int32)) (((8 : Int32) * (2 : Int32)) + (5 : Int32)).toNatClampNeg (99 : Int32))))] := hD
  refine lv_iinc hx hb d_94_21 hl (k := 0) rfl (show _ = (6 : Int32) by decide) (by decide) rfl (fun ls hl => ?_)
  have hl : lv_has ls 3 [(2, .int (6 : Int32)), (0, .ref h), (1, .int (2 : Int32))] := hl
  refine lv_goto (tgt := 2) hx hb d_94_24 rfl ?_
  refine lv_iload_n hx hb d_94_2 rfl (lv_at hl 0 rfl) ?_
  refine lv_bipush hx hb d_94_3 cb_8 ?_
  refine lv_icmp_ge (tgt := 27) hx hb d_94_5 rfl (fun h => absurd h (by decide)) (fun _ => ?_)
  refine lv_aload_n hx hb d_94_8 rfl (lv_at hl 1 rfl) ?_
  refine va_get hx hb hts (u8_in 7 (by decide)) hown hK hP 0 rfl (clA_at 7 (by decide)) 15 (by decide) (hts _ wc_56) (fun z h => h) hfs d_94_9 ?_
  refine lv_bipush hx hb d_94_12 cb_8 ?_
  refine lv_iload_n hx hb d_94_14 rfl (lv_at hl 2 rfl) ?_
  refine lv_imul hx hb d_94_15 ?_
  refine lv_iload_n hx hb d_94_16 rfl (lv_at hl 0 rfl) ?_
  refine lv_iadd hx hb d_94_17 ?_
  refine lv_bipush hx hb d_94_18 cb_99 ?_
  refine va_iast hx hb hK hP hD hS 1 0 rfl rfl (vpi (by decide)) d_94_20 (fun H locs hP hD hS => ?_)
  have hP : va_P D clA [(h, .inr (7, fs)), (dv, .inl (CA 0, 32, .inl (upd (upd (upd (upd (upd (upd (upd f (((8 : Int32) * (2 : Int32)) + (0 : Int32)).toNatClampNeg (99 : Int32)) (((8 : Int32) * (2 : Int32)) + (1 : Int32)).toNatClampNeg (99 : Int32)) (((8 : Int32) * (2 : Int32)) + (2 : Int32)).toNatClampNeg (99 : Int32)) (((8 : Int32) * (2 : Int32)) + (3 : Int32)).toNatClampNeg (99 : Int32)) (((8 : Int32) * (2 : Int32)) + (4 : Int32)).toNatClampNeg (99 : Int32)) (((8 : Int32) * (2 : Int32)) + (5 : Int32)).toNatClampNeg (99 : Int32)) (((8 : Int32) * (2 : Int32)) + (6 : Int32)).toNatClampNeg (99 : Int32))))] H := hP
  have hD : va_D A [(h, .inr (7, fs)), (dv, .inl (CA 0, 32, .inl (upd (upd (upd (upd (upd (upd (upd f (((8 : Int32) * (2 : Int32)) + (0 : Int32)).toNatClampNeg (99 : Int32)) (((8 : Int32) * (2 : Int32)) + (1 : Int32)).toNatClampNeg (99 : Int32)) (((8 : Int32) * (2 : Int32)) + (2 : Int32)).toNatClampNeg (99 : Int32)) (((8 : Int32) * (2 : Int32)) + (3 : Int32)).toNatClampNeg (99 : Int32)) (((8 : Int32) * (2 : Int32)) + (4 : Int32)).toNatClampNeg (99 : Int32)) (((8 : Int32) * (2 : Int32)) + (5 : Int32)).toNatClampNeg (99 : Int32)) (((8 : Int32) * (2 : Int32)) + (6 : Int32)).toNatClampNeg (99 : Int32))))] := hD
  refine lv_iinc hx hb d_94_21 hl (k := 0) rfl (show _ = (7 : Int32) by decide) (by decide) rfl (fun ls hl => ?_)
  have hl : lv_has ls 3 [(2, .int (7 : Int32)), (0, .ref h), (1, .int (2 : Int32))] := hl
  refine lv_goto (tgt := 2) hx hb d_94_24 rfl ?_
  refine lv_iload_n hx hb d_94_2 rfl (lv_at hl 0 rfl) ?_
  refine lv_bipush hx hb d_94_3 cb_8 ?_
  refine lv_icmp_ge (tgt := 27) hx hb d_94_5 rfl (fun h => absurd h (by decide)) (fun _ => ?_)
  refine lv_aload_n hx hb d_94_8 rfl (lv_at hl 1 rfl) ?_
  refine va_get hx hb hts (u8_in 7 (by decide)) hown hK hP 0 rfl (clA_at 7 (by decide)) 15 (by decide) (hts _ wc_56) (fun z h => h) hfs d_94_9 ?_
  refine lv_bipush hx hb d_94_12 cb_8 ?_
  refine lv_iload_n hx hb d_94_14 rfl (lv_at hl 2 rfl) ?_
  refine lv_imul hx hb d_94_15 ?_
  refine lv_iload_n hx hb d_94_16 rfl (lv_at hl 0 rfl) ?_
  refine lv_iadd hx hb d_94_17 ?_
  refine lv_bipush hx hb d_94_18 cb_99 ?_
  refine va_iast hx hb hK hP hD hS 1 0 rfl rfl (vpi (by decide)) d_94_20 (fun H locs hP hD hS => ?_)
  have hP : va_P D clA [(h, .inr (7, fs)), (dv, .inl (CA 0, 32, .inl (upd (upd (upd (upd (upd (upd (upd (upd f (((8 : Int32) * (2 : Int32)) + (0 : Int32)).toNatClampNeg (99 : Int32)) (((8 : Int32) * (2 : Int32)) + (1 : Int32)).toNatClampNeg (99 : Int32)) (((8 : Int32) * (2 : Int32)) + (2 : Int32)).toNatClampNeg (99 : Int32)) (((8 : Int32) * (2 : Int32)) + (3 : Int32)).toNatClampNeg (99 : Int32)) (((8 : Int32) * (2 : Int32)) + (4 : Int32)).toNatClampNeg (99 : Int32)) (((8 : Int32) * (2 : Int32)) + (5 : Int32)).toNatClampNeg (99 : Int32)) (((8 : Int32) * (2 : Int32)) + (6 : Int32)).toNatClampNeg (99 : Int32)) (((8 : Int32) * (2 : Int32)) + (7 : Int32)).toNatClampNeg (99 : Int32))))] H := hP
  have hD : va_D A [(h, .inr (7, fs)), (dv, .inl (CA 0, 32, .inl (upd (upd (upd (upd (upd (upd (upd (upd f (((8 : Int32) * (2 : Int32)) + (0 : Int32)).toNatClampNeg (99 : Int32)) (((8 : Int32) * (2 : Int32)) + (1 : Int32)).toNatClampNeg (99 : Int32)) (((8 : Int32) * (2 : Int32)) + (2 : Int32)).toNatClampNeg (99 : Int32)) (((8 : Int32) * (2 : Int32)) + (3 : Int32)).toNatClampNeg (99 : Int32)) (((8 : Int32) * (2 : Int32)) + (4 : Int32)).toNatClampNeg (99 : Int32)) (((8 : Int32) * (2 : Int32)) + (5 : Int32)).toNatClampNeg (99 : Int32)) (((8 : Int32) * (2 : Int32)) + (6 : Int32)).toNatClampNeg (99 : Int32)) (((8 : Int32) * (2 : Int32)) + (7 : Int32)).toNatClampNeg (99 : Int32))))] := hD
  refine lv_iinc hx hb d_94_21 hl (k := 0) rfl (show _ = (8 : Int32) by decide) (by decide) rfl (fun ls hl => ?_)
  have hl : lv_has ls 3 [(2, .int (8 : Int32)), (0, .ref h), (1, .int (2 : Int32))] := hl
  refine lv_goto (tgt := 2) hx hb d_94_24 rfl ?_
  refine lv_iload_n hx hb d_94_2 rfl (lv_at hl 0 rfl) ?_
  refine lv_bipush hx hb d_94_3 cb_8 ?_
  refine lv_icmp_ge (tgt := 27) hx hb d_94_5 rfl (fun _ => ?_) (fun h => absurd (by decide) h)
  subst hAd
  exact W.vret hx hb hr (fun t ht _ => ⟨rfl, ⟨by rw [ht]; exact hS.1, fun q h1 h2 => by rw [ht]; exact hS.2.1 q h1 h2⟩, by rw [ht]; exact hP⟩) (fun q hq => hS.2.2 q hq) d_94_27 hlk
def fg3 (f : Nat → Int32) : Nat → Int32 := (upd (upd (upd (upd (upd (upd (upd (upd f (((8 : Int32) * (3 : Int32)) + (0 : Int32)).toNatClampNeg (99 : Int32)) (((8 : Int32) * (3 : Int32)) + (1 : Int32)).toNatClampNeg (99 : Int32)) (((8 : Int32) * (3 : Int32)) + (2 : Int32)).toNatClampNeg (99 : Int32)) (((8 : Int32) * (3 : Int32)) + (3 : Int32)).toNatClampNeg (99 : Int32)) (((8 : Int32) * (3 : Int32)) + (4 : Int32)).toNatClampNeg (99 : Int32)) (((8 : Int32) * (3 : Int32)) + (5 : Int32)).toNatClampNeg (99 : Int32)) (((8 : Int32) * (3 : Int32)) + (6 : Int32)).toNatClampNeg (99 : Int32)) (((8 : Int32) * (3 : Int32)) + (7 : Int32)).toNatClampNeg (99 : Int32))
set_option maxHeartbeats 4000000 in
theorem c_forget3 (hT : ∀ w ∈ lw_tbl, w.before a0 s0 = true) (hK0 : va_K D clA (tyA CA) s0) (h dv : Nat) (f : Nat → Int32) (fs : List Value) (hfs : fs[15]? = some (.ref dv)) (hne : h ≠ dv) : Met l ⟨"SlotBusModel", "forget", "(I)V"⟩ [.code ⟨"SlotBusModel", "forget", "(I)V"⟩ prog_10_method_13_code 3 none] { frames := 0, cells := 0, slots := 0, locals := 0 } (ctP s0 [.ref h, .int (3 : Int32)] (fun H => va_P D clA [(h, .inr (7, fs)), (dv, .inl (CA 0, 32, .inl f))] H)) (ctQ (fun q => q = h ∨ q = dv) (fun _ H1 => va_P D clA [(h, .inr (7, fs)), (dv, .inl (CA 0, 32, .inl (fg3 f)))] H1)) 0 0 (fun q => q = h ∨ q = dv) := by
  refine ct_of (by decide) (Nat.le_of_ble_eq_true rfl) ?_
  intro p e s m below meth c ls hx hb hr hml hown hlk hnm hW ho hP hl
  have hts : ∀ w ∈ TBL, w.before ([.ref h, .int (3 : Int32)] : List Value).toArray s = true := tb_at hT hW
  have hK : va_K D clA (tyA CA) s := va_K.moved hW.alike hK0
  obtain ⟨A, hAd⟩ : ∃ A : Nat → Prop, A = fun q => q = h ∨ q = dv := ⟨_, rfl⟩
  have hD : va_D A [(h, .inr (7, fs)), (dv, .inl (CA 0, 32, .inl f))] := ct_D2 (by rw [hAd]; exact Or.inl rfl) (by rw [hAd]; exact Or.inr rfl) hne
  have hS : va_S A s.heap s.heap [] := ⟨Nat.le_refl _, fun _ _ _ => rfl, fun _ h => by cases h⟩
  have hl : lv_has ls 3 [(0, .ref h), (1, .int (3 : Int32))] := hl
  refine lv_iconst hx hb d_94_0 ci_0 ?_
  refine lv_istore_n hx hb d_94_1 rfl hl (by decide) rfl (fun ls hl => ?_)
  have hl : lv_has ls 3 [(2, .int (0 : Int32)), (0, .ref h), (1, .int (3 : Int32))] := hl
  refine lv_iload_n hx hb d_94_2 rfl (lv_at hl 0 rfl) ?_
  refine lv_bipush hx hb d_94_3 cb_8 ?_
  refine lv_icmp_ge (tgt := 27) hx hb d_94_5 rfl (fun h => absurd h (by decide)) (fun _ => ?_)
  refine lv_aload_n hx hb d_94_8 rfl (lv_at hl 1 rfl) ?_
  refine va_get hx hb hts (u8_in 7 (by decide)) hown hK hP 0 rfl (clA_at 7 (by decide)) 15 (by decide) (hts _ wc_56) (fun z h => h) hfs d_94_9 ?_
  refine lv_bipush hx hb d_94_12 cb_8 ?_
  refine lv_iload_n hx hb d_94_14 rfl (lv_at hl 2 rfl) ?_
  refine lv_imul hx hb d_94_15 ?_
  refine lv_iload_n hx hb d_94_16 rfl (lv_at hl 0 rfl) ?_
  refine lv_iadd hx hb d_94_17 ?_
  refine lv_bipush hx hb d_94_18 cb_99 ?_
  refine va_iast hx hb hK hP hD hS 1 0 rfl rfl (vpi (by decide)) d_94_20 (fun H locs hP hD hS => ?_)
  have hP : va_P D clA [(h, .inr (7, fs)), (dv, .inl (CA 0, 32, .inl (upd f (((8 : Int32) * (3 : Int32)) + (0 : Int32)).toNatClampNeg (99 : Int32))))] H := hP
  have hD : va_D A [(h, .inr (7, fs)), (dv, .inl (CA 0, 32, .inl (upd f (((8 : Int32) * (3 : Int32)) + (0 : Int32)).toNatClampNeg (99 : Int32))))] := hD
  refine lv_iinc hx hb d_94_21 hl (k := 0) rfl (show _ = (1 : Int32) by decide) (by decide) rfl (fun ls hl => ?_)
  have hl : lv_has ls 3 [(2, .int (1 : Int32)), (0, .ref h), (1, .int (3 : Int32))] := hl
  refine lv_goto (tgt := 2) hx hb d_94_24 rfl ?_
  refine lv_iload_n hx hb d_94_2 rfl (lv_at hl 0 rfl) ?_
  refine lv_bipush hx hb d_94_3 cb_8 ?_
  refine lv_icmp_ge (tgt := 27) hx hb d_94_5 rfl (fun h => absurd h (by decide)) (fun _ => ?_)
  refine lv_aload_n hx hb d_94_8 rfl (lv_at hl 1 rfl) ?_
  refine va_get hx hb hts (u8_in 7 (by decide)) hown hK hP 0 rfl (clA_at 7 (by decide)) 15 (by decide) (hts _ wc_56) (fun z h => h) hfs d_94_9 ?_
  refine lv_bipush hx hb d_94_12 cb_8 ?_
  refine lv_iload_n hx hb d_94_14 rfl (lv_at hl 2 rfl) ?_
  refine lv_imul hx hb d_94_15 ?_
  refine lv_iload_n hx hb d_94_16 rfl (lv_at hl 0 rfl) ?_
  refine lv_iadd hx hb d_94_17 ?_
  refine lv_bipush hx hb d_94_18 cb_99 ?_
  refine va_iast hx hb hK hP hD hS 1 0 rfl rfl (vpi (by decide)) d_94_20 (fun H locs hP hD hS => ?_)
  have hP : va_P D clA [(h, .inr (7, fs)), (dv, .inl (CA 0, 32, .inl (upd (upd f (((8 : Int32) * (3 : Int32)) + (0 : Int32)).toNatClampNeg (99 : Int32)) (((8 : Int32) * (3 : Int32)) + (1 : Int32)).toNatClampNeg (99 : Int32))))] H := hP
  have hD : va_D A [(h, .inr (7, fs)), (dv, .inl (CA 0, 32, .inl (upd (upd f (((8 : Int32) * (3 : Int32)) + (0 : Int32)).toNatClampNeg (99 : Int32)) (((8 : Int32) * (3 : Int32)) + (1 : Int32)).toNatClampNeg (99 : Int32))))] := hD
  refine lv_iinc hx hb d_94_21 hl (k := 0) rfl (show _ = (2 : Int32) by decide) (by decide) rfl (fun ls hl => ?_)
  have hl : lv_has ls 3 [(2, .int (2 : Int32)), (0, .ref h), (1, .int (3 : Int32))] := hl
  refine lv_goto (tgt := 2) hx hb d_94_24 rfl ?_
  refine lv_iload_n hx hb d_94_2 rfl (lv_at hl 0 rfl) ?_
  refine lv_bipush hx hb d_94_3 cb_8 ?_
  refine lv_icmp_ge (tgt := 27) hx hb d_94_5 rfl (fun h => absurd h (by decide)) (fun _ => ?_)
  refine lv_aload_n hx hb d_94_8 rfl (lv_at hl 1 rfl) ?_
  refine va_get hx hb hts (u8_in 7 (by decide)) hown hK hP 0 rfl (clA_at 7 (by decide)) 15 (by decide) (hts _ wc_56) (fun z h => h) hfs d_94_9 ?_
  refine lv_bipush hx hb d_94_12 cb_8 ?_
  refine lv_iload_n hx hb d_94_14 rfl (lv_at hl 2 rfl) ?_
  refine lv_imul hx hb d_94_15 ?_
  refine lv_iload_n hx hb d_94_16 rfl (lv_at hl 0 rfl) ?_
  refine lv_iadd hx hb d_94_17 ?_
  refine lv_bipush hx hb d_94_18 cb_99 ?_
  refine va_iast hx hb hK hP hD hS 1 0 rfl rfl (vpi (by decide)) d_94_20 (fun H locs hP hD hS => ?_)
  have hP : va_P D clA [(h, .inr (7, fs)), (dv, .inl (CA 0, 32, .inl (upd (upd (upd f (((8 : Int32) * (3 : Int32)) + (0 : Int32)).toNatClampNeg (99 : Int32)) (((8 : Int32) * (3 : Int32)) + (1 : Int32)).toNatClampNeg (99 : Int32)) (((8 : Int32) * (3 : Int32)) + (2 : Int32)).toNatClampNeg (99 : Int32))))] H := hP
  have hD : va_D A [(h, .inr (7, fs)), (dv, .inl (CA 0, 32, .inl (upd (upd (upd f (((8 : Int32) * (3 : Int32)) + (0 : Int32)).toNatClampNeg (99 : Int32)) (((8 : Int32) * (3 : Int32)) + (1 : Int32)).toNatClampNeg (99 : Int32)) (((8 : Int32) * (3 : Int32)) + (2 : Int32)).toNatClampNeg (99 : Int32))))] := hD
  refine lv_iinc hx hb d_94_21 hl (k := 0) rfl (show _ = (3 : Int32) by decide) (by decide) rfl (fun ls hl => ?_)
  have hl : lv_has ls 3 [(2, .int (3 : Int32)), (0, .ref h), (1, .int (3 : Int32))] := hl
  refine lv_goto (tgt := 2) hx hb d_94_24 rfl ?_
  refine lv_iload_n hx hb d_94_2 rfl (lv_at hl 0 rfl) ?_
  refine lv_bipush hx hb d_94_3 cb_8 ?_
  refine lv_icmp_ge (tgt := 27) hx hb d_94_5 rfl (fun h => absurd h (by decide)) (fun _ => ?_)
  refine lv_aload_n hx hb d_94_8 rfl (lv_at hl 1 rfl) ?_
  refine va_get hx hb hts (u8_in 7 (by decide)) hown hK hP 0 rfl (clA_at 7 (by decide)) 15 (by decide) (hts _ wc_56) (fun z h => h) hfs d_94_9 ?_
  refine lv_bipush hx hb d_94_12 cb_8 ?_
  refine lv_iload_n hx hb d_94_14 rfl (lv_at hl 2 rfl) ?_
  refine lv_imul hx hb d_94_15 ?_
  refine lv_iload_n hx hb d_94_16 rfl (lv_at hl 0 rfl) ?_
  refine lv_iadd hx hb d_94_17 ?_
  refine lv_bipush hx hb d_94_18 cb_99 ?_
  refine va_iast hx hb hK hP hD hS 1 0 rfl rfl (vpi (by decide)) d_94_20 (fun H locs hP hD hS => ?_)
  have hP : va_P D clA [(h, .inr (7, fs)), (dv, .inl (CA 0, 32, .inl (upd (upd (upd (upd f (((8 : Int32) * (3 : Int32)) + (0 : Int32)).toNatClampNeg (99 : Int32)) (((8 : Int32) * (3 : Int32)) + (1 : Int32)).toNatClampNeg (99 : Int32)) (((8 : Int32) * (3 : Int32)) + (2 : Int32)).toNatClampNeg (99 : Int32)) (((8 : Int32) * (3 : Int32)) + (3 : Int32)).toNatClampNeg (99 : Int32))))] H := hP
  have hD : va_D A [(h, .inr (7, fs)), (dv, .inl (CA 0, 32, .inl (upd (upd (upd (upd f (((8 : Int32) * (3 : Int32)) + (0 : Int32)).toNatClampNeg (99 : Int32)) (((8 : Int32) * (3 : Int32)) + (1 : Int32)).toNatClampNeg (99 : Int32)) (((8 : Int32) * (3 : Int32)) + (2 : Int32)).toNatClampNeg (99 : Int32)) (((8 : Int32) * (3 : Int32)) + (3 : Int32)).toNatClampNeg (99 : Int32))))] := hD
  refine lv_iinc hx hb d_94_21 hl (k := 0) rfl (show _ = (4 : Int32) by decide) (by decide) rfl (fun ls hl => ?_)
  have hl : lv_has ls 3 [(2, .int (4 : Int32)), (0, .ref h), (1, .int (3 : Int32))] := hl
  refine lv_goto (tgt := 2) hx hb d_94_24 rfl ?_
  refine lv_iload_n hx hb d_94_2 rfl (lv_at hl 0 rfl) ?_
  refine lv_bipush hx hb d_94_3 cb_8 ?_
  refine lv_icmp_ge (tgt := 27) hx hb d_94_5 rfl (fun h => absurd h (by decide)) (fun _ => ?_)
  refine lv_aload_n hx hb d_94_8 rfl (lv_at hl 1 rfl) ?_
  refine va_get hx hb hts (u8_in 7 (by decide)) hown hK hP 0 rfl (clA_at 7 (by decide)) 15 (by decide) (hts _ wc_56) (fun z h => h) hfs d_94_9 ?_
  refine lv_bipush hx hb d_94_12 cb_8 ?_
  refine lv_iload_n hx hb d_94_14 rfl (lv_at hl 2 rfl) ?_
  refine lv_imul hx hb d_94_15 ?_
  refine lv_iload_n hx hb d_94_16 rfl (lv_at hl 0 rfl) ?_
  refine lv_iadd hx hb d_94_17 ?_
  refine lv_bipush hx hb d_94_18 cb_99 ?_
  refine va_iast hx hb hK hP hD hS 1 0 rfl rfl (vpi (by decide)) d_94_20 (fun H locs hP hD hS => ?_)
  have hP : va_P D clA [(h, .inr (7, fs)), (dv, .inl (CA 0, 32, .inl (upd (upd (upd (upd (upd f (((8 : Int32) * (3 : Int32)) + (0 : Int32)).toNatClampNeg (99 : Int32)) (((8 : Int32) * (3 : Int32)) + (1 : Int32)).toNatClampNeg (99 : Int32)) (((8 : Int32) * (3 : Int32)) + (2 : Int32)).toNatClampNeg (99 : Int32)) (((8 : Int32) * (3 : Int32)) + (3 : Int32)).toNatClampNeg (99 : Int32)) (((8 : Int32) * (3 : Int32)) + (4 : Int32)).toNatClampNeg (99 : Int32))))] H := hP
  have hD : va_D A [(h, .inr (7, fs)), (dv, .inl (CA 0, 32, .inl (upd (upd (upd (upd (upd f (((8 : Int32) * (3 : Int32)) + (0 : Int32)).toNatClampNeg (99 : Int32)) (((8 : Int32) * (3 : Int32)) + (1 : Int32)).toNatClampNeg (99 : Int32)) (((8 : Int32) * (3 : Int32)) + (2 : Int32)).toNatClampNeg (99 : Int32)) (((8 : Int32) * (3 : Int32)) + (3 : Int32)).toNatClampNeg (99 : Int32)) (((8 : Int32) * (3 : Int32)) + (4 : Int32)).toNatClampNeg (99 : Int32))))] := hD
  refine lv_iinc hx hb d_94_21 hl (k := 0) rfl (show _ = (5 : Int32) by decide) (by decide) rfl (fun ls hl => ?_)
  have hl : lv_has ls 3 [(2, .int (5 : Int32)), (0, .ref h), (1, .int (3 : Int32))] := hl
  refine lv_goto (tgt := 2) hx hb d_94_24 rfl ?_
  refine lv_iload_n hx hb d_94_2 rfl (lv_at hl 0 rfl) ?_
  refine lv_bipush hx hb d_94_3 cb_8 ?_
  refine lv_icmp_ge (tgt := 27) hx hb d_94_5 rfl (fun h => absurd h (by decide)) (fun _ => ?_)
  refine lv_aload_n hx hb d_94_8 rfl (lv_at hl 1 rfl) ?_
  refine va_get hx hb hts (u8_in 7 (by decide)) hown hK hP 0 rfl (clA_at 7 (by decide)) 15 (by decide) (hts _ wc_56) (fun z h => h) hfs d_94_9 ?_
  refine lv_bipush hx hb d_94_12 cb_8 ?_
  refine lv_iload_n hx hb d_94_14 rfl (lv_at hl 2 rfl) ?_
  refine lv_imul hx hb d_94_15 ?_
  refine lv_iload_n hx hb d_94_16 rfl (lv_at hl 0 rfl) ?_
  refine lv_iadd hx hb d_94_17 ?_
  refine lv_bipush hx hb d_94_18 cb_99 ?_
  refine va_iast hx hb hK hP hD hS 1 0 rfl rfl (vpi (by decide)) d_94_20 (fun H locs hP hD hS => ?_)
  have hP : va_P D clA [(h, .inr (7, fs)), (dv, .inl (CA 0, 32, .inl (upd (upd (upd (upd (upd (upd f (((8 : Int32) * (3 : Int32)) + (0 : Int32)).toNatClampNeg (99 : Int32)) (((8 : Int32) * (3 : Int32)) + (1 : Int32)).toNatClampNeg (99 : Int32)) (((8 : Int32) * (3 : Int32)) + (2 : Int32)).toNatClampNeg (99 : Int32)) (((8 : Int32) * (3 : Int32)) + (3 : Int32)).toNatClampNeg (99 : Int32)) (((8 : Int32) * (3 : Int32)) + (4 : Int32)).toNatClampNeg (99 : Int32)) (((8 : Int32) * (3 : Int32)) + (5 : Int32)).toNatClampNeg (99 : Int32))))] H := hP
  have hD : va_D A [(h, .inr (7, fs)), (dv, .inl (CA 0, 32, .inl (upd (upd (upd (upd (upd (upd f (((8 : Int32) * (3 : Int32)) + (0 : Int32)).toNatClampNeg (99 : Int32)) (((8 : Int32) * (3 : Int32)) + (1 : Int32)).toNatClampNeg (99 : Int32)) (((8 : Int32) * (3 : Int32)) + (2 : Int32)).toNatClampNeg (99 : Int32)) (((8 : Int32) * (3 : Int32)) + (3 : Int32)).toNatClampNeg (99 : Int32)) (((8 : Int32) * (3 : Int32)) + (4 : Int32)).toNatClampNeg (99 : Int32)) (((8 : Int32) * (3 : Int32)) + (5 : Int32)).toNatClampNeg (99 : Int32))))] := hD
  refine lv_iinc hx hb d_94_21 hl (k := 0) rfl (show _ = (6 : Int32) by decide) (by decide) rfl (fun ls hl => ?_)
  have hl : lv_has ls 3 [(2, .int (6 : Int32)), (0, .ref h), (1, .int (3 : Int32))] := hl
  refine lv_goto (tgt := 2) hx hb d_94_24 rfl ?_
  refine lv_iload_n hx hb d_94_2 rfl (lv_at hl 0 rfl) ?_
  refine lv_bipush hx hb d_94_3 cb_8 ?_
  refine lv_icmp_ge (tgt := 27) hx hb d_94_5 rfl (fun h => absurd h (by decide)) (fun _ => ?_)
  refine lv_aload_n hx hb d_94_8 rfl (lv_at hl 1 rfl) ?_
  refine va_get hx hb hts (u8_in 7 (by decide)) hown hK hP 0 rfl (clA_at 7 (by decide)) 15 (by decide) (hts _ wc_56) (fun z h => h) hfs d_94_9 ?_
  refine lv_bipush hx hb d_94_12 cb_8 ?_
  refine lv_iload_n hx hb d_94_14 rfl (lv_at hl 2 rfl) ?_
  refine lv_imul hx hb d_94_15 ?_
  refine lv_iload_n hx hb d_94_16 rfl (lv_at hl 0 rfl) ?_
  refine lv_iadd hx hb d_94_17 ?_
  refine lv_bipush hx hb d_94_18 cb_99 ?_
  refine va_iast hx hb hK hP hD hS 1 0 rfl rfl (vpi (by decide)) d_94_20 (fun H locs hP hD hS => ?_)
  have hP : va_P D clA [(h, .inr (7, fs)), (dv, .inl (CA 0, 32, .inl (upd (upd (upd (upd (upd (upd (upd f (((8 : Int32) * (3 : Int32)) + (0 : Int32)).toNatClampNeg (99 : Int32)) (((8 : Int32) * (3 : Int32)) + (1 : Int32)).toNatClampNeg (99 : Int32)) (((8 : Int32) * (3 : Int32)) + (2 : Int32)).toNatClampNeg (99 : Int32)) (((8 : Int32) * (3 : Int32)) + (3 : Int32)).toNatClampNeg (99 : Int32)) (((8 : Int32) * (3 : Int32)) + (4 : Int32)).toNatClampNeg (99 : Int32)) (((8 : Int32) * (3 : Int32)) + (5 : Int32)).toNatClampNeg (99 : Int32)) (((8 : Int32) * (3 : Int32)) + (6 : Int32)).toNatClampNeg (99 : Int32))))] H := hP
  have hD : va_D A [(h, .inr (7, fs)), (dv, .inl (CA 0, 32, .inl (upd (upd (upd (upd (upd (upd (upd f (((8 : Int32) * (3 : Int32)) + (0 : Int32)).toNatClampNeg (99 : Int32)) (((8 : Int32) * (3 : Int32)) + (1 : Int32)).toNatClampNeg (99 : Int32)) (((8 : Int32) * (3 : Int32)) + (2 : Int32)).toNatClampNeg (99 : Int32)) (((8 : Int32) * (3 : Int32)) + (3 : Int32)).toNatClampNeg (99 : Int32)) (((8 : Int32) * (3 : Int32)) + (4 : Int32)).toNatClampNeg (99 : Int32)) (((8 : Int32) * (3 : Int32)) + (5 : Int32)).toNatClampNeg (99 : Int32)) (((8 : Int32) * (3 : Int32)) + (6 : Int32)).toNatClampNeg (99 : Int32))))] := hD
  refine lv_iinc hx hb d_94_21 hl (k := 0) rfl (show _ = (7 : Int32) by decide) (by decide) rfl (fun ls hl => ?_)
  have hl : lv_has ls 3 [(2, .int (7 : Int32)), (0, .ref h), (1, .int (3 : Int32))] := hl
  refine lv_goto (tgt := 2) hx hb d_94_24 rfl ?_
  refine lv_iload_n hx hb d_94_2 rfl (lv_at hl 0 rfl) ?_
  refine lv_bipush hx hb d_94_3 cb_8 ?_
  refine lv_icmp_ge (tgt := 27) hx hb d_94_5 rfl (fun h => absurd h (by decide)) (fun _ => ?_)
  refine lv_aload_n hx hb d_94_8 rfl (lv_at hl 1 rfl) ?_
  refine va_get hx hb hts (u8_in 7 (by decide)) hown hK hP 0 rfl (clA_at 7 (by decide)) 15 (by decide) (hts _ wc_56) (fun z h => h) hfs d_94_9 ?_
  refine lv_bipush hx hb d_94_12 cb_8 ?_
  refine lv_iload_n hx hb d_94_14 rfl (lv_at hl 2 rfl) ?_
  refine lv_imul hx hb d_94_15 ?_
  refine lv_iload_n hx hb d_94_16 rfl (lv_at hl 0 rfl) ?_
  refine lv_iadd hx hb d_94_17 ?_
  refine lv_bipush hx hb d_94_18 cb_99 ?_
  refine va_iast hx hb hK hP hD hS 1 0 rfl rfl (vpi (by decide)) d_94_20 (fun H locs hP hD hS => ?_)
  have hP : va_P D clA [(h, .inr (7, fs)), (dv, .inl (CA 0, 32, .inl (upd (upd (upd (upd (upd (upd (upd (upd f (((8 : Int32) * (3 : Int32)) + (0 : Int32)).toNatClampNeg (99 : Int32)) (((8 : Int32) * (3 : Int32)) + (1 : Int32)).toNatClampNeg (99 : Int32)) (((8 : Int32) * (3 : Int32)) + (2 : Int32)).toNatClampNeg (99 : Int32)) (((8 : Int32) * (3 : Int32)) + (3 : Int32)).toNatClampNeg (99 : Int32)) (((8 : Int32) * (3 : Int32)) + (4 : Int32)).toNatClampNeg (99 : Int32)) (((8 : Int32) * (3 : Int32)) + (5 : Int32)).toNatClampNeg (99 : Int32)) (((8 : Int32) * (3 : Int32)) + (6 : Int32)).toNatClampNeg (99 : Int32)) (((8 : Int32) * (3 : Int32)) + (7 : Int32)).toNatClampNeg (99 : Int32))))] H := hP
  have hD : va_D A [(h, .inr (7, fs)), (dv, .inl (CA 0, 32, .inl (upd (upd (upd (upd (upd (upd (upd (upd f (((8 : Int32) * (3 : Int32)) + (0 : Int32)).toNatClampNeg (99 : Int32)) (((8 : Int32) * (3 : Int32)) + (1 : Int32)).toNatClampNeg (99 : Int32)) (((8 : Int32) * (3 : Int32)) + (2 : Int32)).toNatClampNeg (99 : Int32)) (((8 : Int32) * (3 : Int32)) + (3 : Int32)).toNatClampNeg (99 : Int32)) (((8 : Int32) * (3 : Int32)) + (4 : Int32)).toNatClampNeg (99 : Int32)) (((8 : Int32) * (3 : Int32)) + (5 : Int32)).toNatClampNeg (99 : Int32)) (((8 : Int32) * (3 : Int32)) + (6 : Int32)).toNatClampNeg (99 : Int32)) (((8 : Int32) * (3 : Int32)) + (7 : Int32)).toNatClampNeg (99 : Int32))))] := hD
  refine lv_iinc hx hb d_94_21 hl (k := 0) rfl (show _ = (8 : Int32) by decide) (by decide) rfl (fun ls hl => ?_)
  have hl : lv_has ls 3 [(2, .int (8 : Int32)), (0, .ref h), (1, .int (3 : Int32))] := hl
  refine lv_goto (tgt := 2) hx hb d_94_24 rfl ?_
  refine lv_iload_n hx hb d_94_2 rfl (lv_at hl 0 rfl) ?_
  refine lv_bipush hx hb d_94_3 cb_8 ?_
  refine lv_icmp_ge (tgt := 27) hx hb d_94_5 rfl (fun _ => ?_) (fun h => absurd (by decide) h)
  subst hAd
  exact W.vret hx hb hr (fun t ht _ => ⟨rfl, ⟨by rw [ht]; exact hS.1, fun q h1 h2 => by rw [ht]; exact hS.2.1 q h1 h2⟩, by rw [ht]; exact hP⟩) (fun q hq => hS.2.2 q hq) d_94_27 hlk
theorem wc_ao : Cond.arrayOver (.object "SlotBus$Node") ∈ lw_tbl := List.mem_of_getElem? (i := 61) (by decide +kernel)
end CT2
