/-! constructors, walked with the kit's rows -/
section CT
variable {l : Launch} {s0 : State} {a0 : Array Value} {D : va_G} {CA : Nat → ClassId}
def ctP (s0 : State) (av : List Value) (Y : Heap → Prop) : Array Value → State → Prop := va_Pc av (fun U => s0.WarmedH U.vm ∧ mmOld s0 U.heap ∧ Y U.heap)
def ctQ (B : Nat → Prop) (X : Heap → Heap → Prop) : Array Value → State → Outcome → State → Prop := fun _ st oc t => oc = .returned none ∧ va_F B st t ∧ X st.heap t.heap
theorem ctP_blind {av : List Value} {Y : Heap → Prop} : FrameBlind (ctP s0 av Y) := fun _ _ _ _ h => h
theorem ct_of {y : MethodName} {bytes : ByteArray} {maxL : Nat} {av : List Value} {rm : Room} {mc ms : Nat} {B fr : Nat → Prop} {X : Heap → Heap → Prop} {Y : Heap → Prop} (hy : plainName y.cls = true) (hlen : (lg_sl av).length ≤ maxL)
    (body : ∀ (p : Program) (e : Env) (s : State) (m : MethodId) (below : List Frame) (meth : Method) (c : Code) (ls : Array Slot), p.tables.exec = Jvm.exec → c.code = bytes → meth.sig.returnType = none → c.maxLocals = maxL → s.vm.findClass y.cls = some m.cls → meth.locks = false → meth.name = y.name → s0.WarmedH s.vm → mmOld s0 s.heap → Y s.heap → lv_has ls maxL (lv_args 0 av) →
      W p l e rm s m av.toArray below meth c s.heap [] 0 0 (MQ below (ctQ B X) av.toArray s mc ms fr) (F0 m 0 ls [])) : Met l y [.code y bytes maxL none] rm (ctP s0 av Y) (ctQ B X) mc ms fr := by
  refine Met.ofW (cc := bytes) (maxL := maxL) (ret := none) (ws' := []) hy rfl ?_
  intro p e s m args below meth c s₁ Bd hml hv
  obtain ⟨rfl, hW, ho, hY⟩ := hv
  rw [lg_entry_eq]
  exact body p e s m below meth c _ Bd.exec Bd.bytes Bd.returns hml (findClass_of_methodNamed Bd.named) Bd.notSynchronized (name_of_methodNamed Bd.named Bd.method).1 hW ho hY (lv_entry av hlen)
theorem ct_after {p : Program} {e : Env} {R : Room} {s : State} {m : MethodId} {args : Array Value} {below : List Frame} {meth : Method} {c : Code} {H H0 : Heap} {locs : List Loc} {cells slots mc ms : Nat} {Q : State → Prop} {pc : Nat} {ls : Array Slot} {st0 rest : List Value} {a : Array Value} {A B fr : Nat → Prop} {X : Heap → Heap → Prop}
    (hr : va_Run p l e R s m args below meth c H locs cells slots mc ms (F0 m pc ls st0) rest (ctQ B X a) fr) (hS : va_S A H0 H locs) (hB : ∀ q, q < H.size → B q → A q) (hf : ∀ q, fr q → A q)
    (kk : ∀ H1 locs1, X H H1 → H.size ≤ H1.size → (∀ q : Nat, q < H.size → ¬ B q → H1[q]? = H[q]?) → va_S A H0 H1 locs1 → W p l e R s m args below meth c H1 locs1 (cells + mc) (slots + ms) Q (F0 m (pc + 3) ls rest)) : W p l e R s m args below meth c H locs cells slots Q (F0 m pc ls st0) := by
  intro T hT X'
  obtain ⟨v, st₀, t, T', L, h0, X2, hL, e1, e2, ⟨ho, hF, hX⟩, st⟩ := hr T hT X'
  cases ho
  obtain ⟨k1, k2, k3⟩ := vx_keep h0 e1 hS hB hf hL hF
  rw [h0, ← e1] at hX
  obtain ⟨t2, a1, b1⟩ := kk T'.heap (locs ++ L) hX k1 k2 k3 T' rfl X2
  exact ⟨t2, st t2 a1, b1⟩
theorem ct_good {s : State} {args : Array Value} (hts : ∀ w ∈ TBL, w.before args s = true) {w : Jvm.Cond} (hw : w ∈ TBL) : ∀ w' ∈ [w], ∀ (a' : Array Value) (U : State), s.WarmedH U.vm → w'.before a' U = true := fun w' hw' a' U hWU => by
  rw [List.mem_singleton.mp hw']
  exact word_at hWU (good_of_word (List.mem_filter.mp hw).2) (hts w hw)
theorem ct_old {H0 H : Heap} {locs : List Loc} {A : Nat → Prop} (hA : ∀ q, A q → s0.heap.size ≤ q) (ho : mmOld s0 H0) (hS : va_S A H0 H locs) : mmOld s0 H :=
  ⟨Nat.le_trans ho.1 hS.1, fun q hq => by rw [hS.2.1 q (Nat.lt_of_lt_of_le hq ho.1) (fun h => by have := hA q h; omega), ho.2 q hq]⟩
theorem ct_newa {p : Program} {e : Env} {R : Room} {s : State} {m : MethodId} {args : Array Value} {below : List Frame} {meth : Method} {c : Code} {H H0 : Heap} {locs : List Loc} {cells slots : Nat} {Q : State → Prop} {pc : Nat} {ls : Array Slot} {rest : List Value} {A : Nat → Prop} {ws : va_W} {cc : ByteArray} (hexec : p.tables.exec = Jvm.exec) (hb : c.code = cc) {atype : ArrayType} (harr : (Cond.arrayClass (newarray.typeOf atype)).before args s = true) {ty : FieldType} (hty : newarray.typeOf atype = ty)
    (t0 : Nat) {cA : ClassId} (ht : (tyA CA)[t0]? = some (cA, ty)) (hra : ∀ c, va_RA s c ty → s.vm.findClass ("[" ++ ty.toString) = some c) (hK : va_K D clA (tyA CA) s) (hP : va_P D clA ws H) (hD : va_D A ws) (hS : va_S A H0 H locs) (hA : ∀ q, H0.size ≤ q → A q)
    {n : Int32} {N' : Nat} {a0 : vp_A} (ha : ∀ cA : ClassId, vp_cell cA a0 = arrV cA N' (fun _ => defaultValue ty)) (hn : ¬ n < 0) (hN : n.toNatClampNeg = N') (hbytes : N' * componentBytes ty ≤ 536870912) (hcells : cells + 1 ≤ R.cells) (hslots : slots + N' ≤ R.slots) (hdg : decode cc pc = .ok (.newarray atype, 2))
    (kk : ∀ (q : Nat) (H1 : Heap), va_P D clA (ws ++ [(q, .inl (cA, a0))]) H1 → va_D A (ws ++ [(q, .inl (cA, a0))]) → va_S A H0 H1 locs → W p l e R s m args below meth c H1 locs (cells + 1) (slots + N') Q (F0 m (pc + 2) ls (.ref q :: rest))) :
    W p l e R s m args below meth c H locs cells slots Q (F0 m pc ls (.int n :: rest)) := by
  refine va_newa hexec hb harr hty hK hP hD hS hA ha hn hN hbytes hcells hslots hdg (fun q cA' H1 hK' hP' hD' hS' => ?_)
  have h1 := hra _ (hK'.2 (tyA CA).length (cA', ty) (by rw [List.getElem?_append_right (Nat.le_refl _), Nat.sub_self]; rfl)).2
  have h2 := hra _ (hK.2 t0 _ ht).2
  cases Option.some.inj (h1.symm.trans h2)
  exact kk q H1 hP' hD' hS'
/-- an array's new picture beside the rest, which is unchanged -/
theorem ct_join {ws w2 : va_W} {H H1 : Heap} {d : Nat} (hP : va_P D clA ws H) (hk : ∀ q : Nat, q < H.size → ¬ q = d → H1[q]? = H[q]?) (hne : ∀ (i : Nat) (p : Nat × va_E), ws[i]? = some p → p.1 ≠ d) (h2 : va_P D clA w2 H1) : va_P D clA (ws ++ w2) H1 :=
  va_P.app (va_P.kept hP (fun k q hq => hk _ (vx_lt hP hq) (hne k q hq))) h2
theorem ct_ne {A : Nat → Prop} {ws : va_W} {a : Nat} {e : va_E} (hD : va_D A (ws ++ [(a, e)])) : ∀ (i : Nat) (p : Nat × va_E), ws[i]? = some p → p.1 ≠ a := by
  intro i p hi he
  have hl : i < ws.length := (List.getElem?_eq_some_iff.mp hi).1
  have h1 := hD.1 i ws.length p (a, e) (by rw [List.getElem?_append_left hl]; exact hi) (by rw [List.getElem?_append_right (Nat.le_refl _), Nat.sub_self]; rfl) he
  omega
theorem ct_Dmap {A : Nat → Prop} {ws ws' : va_W} (hD : va_D A ws) (h : ws'.map Prod.fst = ws.map Prod.fst) : va_D A ws' := by
  have key : ∀ (k : Nat) (q : Nat × va_E), ws'[k]? = some q → ∃ e, ws[k]? = some (q.1, e) := by
    intro k q hk
    have h1 : (ws'.map Prod.fst)[k]? = some q.1 := by rw [List.getElem?_map, hk]; rfl
    rw [h, List.getElem?_map] at h1
    cases hw : ws[k]? with
    | none => rw [hw] at h1; cases h1
    | some z =>
      rw [hw] at h1
      have h3 : z.1 = q.1 := Option.some.inj h1
      exact ⟨z.2, by rw [← h3]⟩
  refine ⟨fun i j p q hi hj hpq => ?_, fun k q hk => ?_⟩
  · obtain ⟨e1, h1⟩ := key i p hi
    obtain ⟨e2, h2⟩ := key j q hj
    exact hD.1 i j _ _ h1 h2 hpq
  · obtain ⟨e1, h1⟩ := key k q hk
    exact hD.2 k (q.1, e1) h1
theorem ct_Dapp {A : Nat → Prop} {ws w2 : va_W} {d : Nat} {e : va_E} {H H0 : Heap} {locs : List Loc} (hD : va_D A (ws ++ [(d, e)])) (hP : va_P D clA (ws ++ [(d, e)]) H) (hS : va_S A H0 H locs) (hA : ∀ q, H0.size ≤ q → A q) (h2 : va_D (fun z => z = d ∨ H.size ≤ z) w2) : va_D A (ws ++ w2) := by
  have hlast : (ws ++ [(d, e)])[ws.length]? = some (d, e) := by rw [List.getElem?_append_right (Nat.le_refl _), Nat.sub_self]; rfl
  have hws : ∀ (i : Nat) (p : Nat × va_E), ws[i]? = some p → (ws ++ [(d, e)])[i]? = some p := fun i p hi => by rw [List.getElem?_append_left (List.getElem?_eq_some_iff.mp hi).1]; exact hi
  refine va_D.app ⟨fun i j p q hi hj hpq => hD.1 i j p q (hws i p hi) (hws j q hj) hpq, fun k q hk => hD.2 k q (hws k q hk)⟩ ⟨h2.1, fun k q hk => ?_⟩ (fun i j p q hi hj hpq => ?_)
  · rcases h2.2 k q hk with h | h
    · rw [h]; exact hD.2 _ _ hlast
    · exact hA _ (Nat.le_trans hS.1 h)
  · have hlt : p.1 < H.size := vx_lt hP (hws i p hi)
    rcases h2.2 j q hj with h | h
    · exact ct_ne hD i p hi (hpq.trans h)
    · omega
theorem ct_F {s t : State} {H : Heap} {locs : List Loc} {d : Nat} (hS : va_S (fun q => q = d ∨ s.heap.size ≤ q) s.heap H locs) (ht : t.heap = H) : va_F (fun q => q = d) s t :=
  ⟨by rw [ht]; exact hS.1, fun q h1 h2 => by rw [ht]; exact hS.2.1 q h1 (fun z => z.elim h2 (fun z => by omega))⟩
/-- a constructor that does nothing but call Object's -/
theorem c_triv (hT : ∀ w ∈ lw_tbl, w.before a0 s0 = true) {y : MethodName} {bytes : ByteArray} {idx : Nat} (hy : plainName y.cls = true) (hl1 : Cond.methodLink y.cls idx objectInit ∈ TBL) (hl2 : Cond.instanceMethod objectInit ∈ TBL) (hl3 : Cond.code objectInit ⟨#[0xb1]⟩ 1 none ∈ TBL)
    (d0 : decode bytes 0 = .ok (.aload_n 0, 1)) (d1 : decode bytes 1 = .ok (.invokespecial idx, 3)) (d4 : decode bytes 4 = .ok (.return_, 1)) (h : Nat) :
    Met l y [.code y bytes 1 none] { frames := 1, cells := 0, slots := 0, locals := 12 } (ctP s0 [.ref h] (fun _ => True)) (ctQ (fun _ => False) (fun H H1 => H1 = H)) 0 0 (fun _ => False) := by
  refine ct_of hy (Nat.le_of_ble_eq_true rfl) ?_
  intro p e s m below meth c ls hx hb hr hml hown hlk hnm hW ho hY hl
  have hts : ∀ w ∈ TBL, w.before ([Value.ref h] : List Value).toArray s = true := tb_at hT hW
  have hl : lv_has ls 1 [(0, .ref h)] := hl
  refine lv_aload_n hx hb d0 rfl (lv_at hl 0 rfl) ?_
  refine W.objInit hx hb hown (hts _ hl1) (hts _ hl2) (hts _ hl3) rfl (by rw [hml]; exact hl.1) rfl d1 (Nat.le_of_ble_eq_true rfl) (Nat.le_of_ble_eq_true rfl) ?_
  refine W.eq (g2 := F0 m 4 ls []) rfl ?_
  exact W.vret hx hb hr (fun t ht _ => ⟨rfl, ⟨by rw [ht]; exact Nat.le_refl _, fun q _ _ => by rw [ht]⟩, ht⟩) (fun q hq => by cases hq) d4 hlk
/-- Arrays.fill of ints -/
theorem c_fill (hT : ∀ w ∈ lw_tbl, w.before a0 s0 = true) (hK0 : va_K D clA (tyA CA) s0) (a n : Nat) (hn : n < 100) (v : Int32) (f : Nat → Int32) :
    Met l (mN 0) [.code (mN 0) (mC 0) (mL 0) none] { frames := 0, cells := 0, slots := 0, locals := 0 } (ctP s0 [.ref a, .int v] (fun H => va_P D clA [(a, .inl (CA 0, n, .inl f))] H)) (ctQ (fun q => q = a) (fun _ H1 => va_P D clA [(a, .inl (CA 0, n, .inl (fun j => if j < n then v else f j)))] H1)) 0 0 (fun q => q = a) := by
  refine ct_of (by decide) (Nat.le_of_ble_eq_true rfl) ?_
  intro p e s m below meth c ls hx hb hr hml hown hlk hnm hW ho hY hl
  have hK : va_K D clA (tyA CA) s := va_K.moved hW.alike hK0
  have hl : lv_has ls 4 [(0, .ref a), (1, .int v)] := hl
  have hD : va_D (fun q => q = a) [(a, .inl (CA 0, n, .inl f))] := by
    refine ⟨fun i j p q hi hj _ => ?_, fun k q hk => ?_⟩
    · have h1 := (List.getElem?_eq_some_iff.mp hi).1
      have h2 := (List.getElem?_eq_some_iff.mp hj).1
      simp at h1 h2
      omega
    · have h1 := List.mem_of_getElem? hk
      rw [List.mem_singleton.mp h1]
  have hS : va_S (fun q => q = a) s.heap s.heap [] := ⟨Nat.le_refl _, fun _ _ _ => rfl, fun _ h => by cases h⟩
  refine lv_iconst hx hb d_0_0 ci_0 ?_
  refine lv_istore_n hx hb d_0_1 rfl hl (by decide) rfl (fun ls hl => ?_)
  have hl : lv_has ls 4 [(2, .int 0), (0, .ref a), (1, .int v)] := hl
  refine lv_aload_n hx hb d_0_2 rfl (lv_at hl 1 rfl) ?_
  refine va_alen hx hb hK hY 0 0 rfl rfl rfl d_0_3 ?_
  refine lv_istore_n hx hb d_0_4 rfl hl (by decide) rfl (fun ls hl => ?_)
  have hl : lv_has ls 4 [(3, .int (Int32.ofNat n)), (2, .int (Int32.ofNat 0)), (0, .ref a), (1, .int v)] := hl
  have loop : ∀ (d i : Nat), i + d = n → ∀ (g : Nat → Int32) (ls : Array Slot) (H : Heap) (locs : List Loc), (∀ j, (if i ≤ j ∧ j < n then v else g j) = if j < n then v else f j) → lv_has ls 4 [(3, .int (Int32.ofNat n)), (2, .int (Int32.ofNat i)), (0, .ref a), (1, .int v)] → va_P D clA [(a, .inl (CA 0, n, .inl g))] H → va_S (fun q => q = a) s.heap H locs →
      W p l e { frames := 0, cells := 0, slots := 0, locals := 0 } s m ([Value.ref a, .int v] : List Value).toArray below meth c H locs 0 0 (MQ below (ctQ (fun q => q = a) (fun _ H1 => va_P D clA [(a, .inl (CA 0, n, .inl (fun j => if j < n then v else f j)))] H1)) ([Value.ref a, .int v] : List Value).toArray s 0 0 (fun q => q = a)) (F0 m 5 ls []) := by
    intro d
    induction d with
    | zero =>
      intro i hi g ls H locs hg hl hP hS
      have hi2 : i = n := by omega
      subst hi2
      have hgf : g = fun j => if j < i then v else f j := by
        funext j
        have := hg j
        rw [if_neg (by omega)] at this
        exact this
      refine lv_iload_n hx hb d_0_5 rfl (lv_at hl 1 rfl) ?_
      refine lv_iload_n hx hb d_0_6 rfl (lv_at hl 0 rfl) ?_
      refine lv_icmp_ge hx hb d_0_7 rfl (fun _ => ?_) (fun h => absurd (Int32.le_refl _) h)
      exact W.vret hx hb hr (fun t ht _ => ⟨rfl, ⟨by rw [ht]; exact hS.1, fun q h1 h2 => by rw [ht]; exact hS.2.1 q h1 h2⟩, by rw [ht, ← hgf]; exact hP⟩) hS.2.2 d_0_20 hlk
    | succ d ih =>
      intro i hi g ls H locs hg hl hP hS
      obtain ⟨e1, e2, e3, e4⟩ := nat_s i (by omega)
      obtain ⟨f1, f2, f3, f4⟩ := nat_s n (by omega)
      refine lv_iload_n hx hb d_0_5 rfl (lv_at hl 1 rfl) ?_
      refine lv_iload_n hx hb d_0_6 rfl (lv_at hl 0 rfl) ?_
      refine lv_icmp_ge hx hb d_0_7 rfl (fun h => absurd h (by rw [Int32.le_iff_toInt_le, e4, f4]; omega)) (fun _ => ?_)
      refine lv_aload_n hx hb d_0_10 rfl (lv_at hl 2 rfl) ?_
      refine lv_iload_n hx hb d_0_11 rfl (lv_at hl 1 rfl) ?_
      refine lv_iload_n hx hb d_0_12 rfl (lv_at hl 3 rfl) ?_
      refine va_iast hx hb hK hP (ct_Dmap hD rfl) hS 0 0 rfl rfl (vpi (by rw [e1]; rintro (h9 | h9); exact e2 h9; omega)) d_0_13 (fun H locs hP _ hS => ?_)
      rw [e1] at hP
      refine lv_iinc hx hb d_0_14 hl (k := 1) rfl e3 (by decide) rfl (fun ls hl => ?_)
      refine lv_goto (tgt := 5) hx hb d_0_17 rfl ?_
      refine ih (i + 1) (by omega) (upd g i v) ls H locs (fun j => ?_) (lv_sub hl [1, 0, 2, 3] rfl) hP hS
      have := hg j
      by_cases hj : j = i
      · subst hj
        rw [if_neg (by omega), pk_us, if_pos (by omega)]
      · rw [pk_un hj, ← this]
        by_cases h9 : i + 1 ≤ j ∧ j < n
        · rw [if_pos h9, if_pos (by omega)]
        · rw [if_neg h9, if_neg (by omega)]
  exact loop n 0 (by omega) f ls s.heap [] (fun j => by by_cases h : j < n <;> simp [h]) hl hY hS
section CC
variable {p : Program} {e : Env} {R : Room} {s : State} {m : MethodId} {args : Array Value} {below : List Frame} {meth : Method} {c : Code} {H H0 : Heap} {locs : List Loc} {cells slots mc ms : Nat} {Q : State → Prop} {pc : Nat} {ls : Array Slot} {st0 rest As : List Value} {A B fr : Nat → Prop} {X : Heap → Heap → Prop} {Y : Heap → Prop}
variable {y : MethodName} {bytes cc : ByteArray} {maxL nL idx b : Nat} {own : String} {rm : Room}
theorem ct_callI (hx : p.tables.exec = Jvm.exec) (hb : c.code = cc) (hml : c.maxLocals = nL) (hown : s.vm.findClass own = some m.cls) (hts : ∀ w ∈ TBL, w.before args s = true) (hM : Met l y [.code y bytes maxL none] rm (ctP s0 (.ref b :: As) Y) (ctQ B X) mc ms fr)
    (hcode : Cond.code y bytes maxL none ∈ TBL) (hini : Cond.initialized y.cls ∈ TBL) (hinst : Cond.instanceMethod y ∈ TBL) (hlink : Cond.methodLink own idx y ∈ TBL) (hy : y.cls ≠ "java/lang/invoke/MethodHandle" ∧ y.cls ≠ "java/lang/invoke/VarHandle") (hname : y.name = "<init>") (hsig : (parseMethodDescriptor y.desc).map (fun d => d.parameters.length) = some As.length)
    (hrm : rm.cells = mc ∧ rm.slots = ms ∧ rm.frames + 1 ≤ R.frames ∧ 8 + (maxL + 11) + rm.locals ≤ R.locals) (hW : s0.WarmedH s.vm) (hold : mmOld s0 H) (hY : Y H) (hsz : ls.size = nL) (hroom : Nat.ble ((rest.map fun v => v.category).sum) 8 = true) (hst : st0 = As.reverse ++ .ref b :: rest) (hd : decode cc pc = .ok (.invokespecial idx, 3)) (hf : cells + mc ≤ R.cells ∧ slots + ms ≤ R.slots)
    (hS : va_S A H0 H locs) (hB : ∀ q, q < H.size → B q → A q) (hfr : ∀ q, fr q → A q)
    (kk : ∀ H1 locs1, X H H1 → H.size ≤ H1.size → (∀ q : Nat, q < H.size → ¬ B q → H1[q]? = H[q]?) → va_S A H0 H1 locs1 → W p l e R s m args below meth c H1 locs1 (cells + mc) (slots + ms) Q (F0 m (pc + 3) ls rest)) : W p l e R s m args below meth c H locs cells slots Q (F0 m pc ls st0) := by
  have hr : va_Run p l e R s m args below meth c H locs cells slots mc ms (F0 m pc ls st0) rest (ctQ B X (Value.ref b :: As).toArray) fr := va_runI (Ts := TBL) (own := own) (index := idx) (n := As.length) (bytes := bytes) (maxL := maxL) (cc := cc) (nL := nL) ⟨hx, hb, hml, hown, hts⟩ hM ⟨⟨hrm.1, hrm.2.1, hrm.2.2.1, hrm.2.2.2, ct_good hts hcode, List.mem_cons_self, hts _ hcode, hts _ hini, hy, fun sig h => by
      rw [h] at hsig; exact (Option.some.inj hsig).symm, hts _ hlink⟩, hname, hts _ hinst⟩ ⟨ctP_blind, fun U hU hWU => ⟨rfl, State.WarmedH.trans hW hWU, by rw [hU]; exact hold, by rw [hU]; exact hY⟩⟩ rfl rfl hsz hst (lv_room (Nat.le_of_ble_eq_true hroom)) hd hf
  exact ct_after hr hS hB hfr kk
theorem ct_callIN (hT : ∀ w ∈ lw_tbl, w.before a0 s0 = true) (hx : p.tables.exec = Jvm.exec) (hb : c.code = cc) (hml : c.maxLocals = nL) (hown : s.vm.findClass own = some m.cls) (hts : ∀ w ∈ TBL, w.before args s = true) (hM : Met l y [.code y bytes maxL none] rm (ctP s0 (.ref b :: As) Y) (ctQ B X) mc ms fr)
    (hcode : Cond.code y bytes maxL none ∈ TBL) (hini : Cond.initialized y.cls ∈ TBL) (hinst : Cond.instanceMethod y ∈ TBL) (hlink : Cond.methodLinkNest own idx y "SlotBus" ∈ lw_tbl) (hy : y.cls ≠ "java/lang/invoke/MethodHandle" ∧ y.cls ≠ "java/lang/invoke/VarHandle") (hname : y.name = "<init>") (hsig : (parseMethodDescriptor y.desc).map (fun d => d.parameters.length) = some As.length)
    (hrm : rm.cells = mc ∧ rm.slots = ms ∧ rm.frames + 1 ≤ R.frames ∧ 8 + (maxL + 11) + rm.locals ≤ R.locals) (hW : s0.WarmedH s.vm) (hold : mmOld s0 H) (hY : Y H) (hsz : ls.size = nL) (hroom : Nat.ble ((rest.map fun v => v.category).sum) 8 = true) (hst : st0 = As.reverse ++ .ref b :: rest) (hd : decode cc pc = .ok (.invokespecial idx, 3)) (hf : cells + mc ≤ R.cells ∧ slots + ms ≤ R.slots)
    (hS : va_S A H0 H locs) (hB : ∀ q, q < H.size → B q → A q) (hfr : ∀ q, fr q → A q)
    (kk : ∀ H1 locs1, X H H1 → H.size ≤ H1.size → (∀ q : Nat, q < H.size → ¬ B q → H1[q]? = H[q]?) → va_S A H0 H1 locs1 → W p l e R s m args below meth c H1 locs1 (cells + mc) (slots + ms) Q (F0 m (pc + 3) ls rest)) : W p l e R s m args below meth c H locs cells slots Q (F0 m pc ls st0) := by
  have hr : va_Run p l e R s m args below meth c H locs cells slots mc ms (F0 m pc ls st0) rest (ctQ B X (Value.ref b :: As).toArray) fr := va_runIN (Ts := TBL) (own := own) (index := idx) (host := "SlotBus") (n := As.length) (bytes := bytes) (maxL := maxL) (cc := cc) (nL := nL) ⟨hx, hb, hml, hown, hts⟩ hM ⟨⟨⟨hrm.1, hrm.2.1, hrm.2.2.1, hrm.2.2.2, ct_good hts hcode, List.mem_cons_self⟩, hts _ hcode, hts _ hini, hy, fun sig h => by
      rw [h] at hsig; exact (Option.some.inj hsig).symm, nm_at hT hW hlink⟩, hname, hts _ hinst⟩ ⟨ctP_blind, fun U hU hWU => ⟨rfl, State.WarmedH.trans hW hWU, by rw [hU]; exact hold, by rw [hU]; exact hY⟩⟩ rfl rfl hsz hst (lv_room (Nat.le_of_ble_eq_true hroom)) hd hf
  exact ct_after hr hS hB hfr kk
theorem ct_callS (hx : p.tables.exec = Jvm.exec) (hb : c.code = cc) (hml : c.maxLocals = nL) (hown : s.vm.findClass own = some m.cls) (hts : ∀ w ∈ TBL, w.before args s = true) (hM : Met l y [.code y bytes maxL none] rm (ctP s0 As Y) (ctQ B X) mc ms fr)
    (hcode : Cond.code y bytes maxL none ∈ TBL) (hini : Cond.initialized y.cls ∈ TBL) (hstat : Cond.static y ∈ TBL) (hlink : Cond.methodLink own idx y ∈ TBL) (hy : y.cls ≠ "java/lang/invoke/MethodHandle" ∧ y.cls ≠ "java/lang/invoke/VarHandle") (hsig : (parseMethodDescriptor y.desc).map (fun d => d.parameters.length) = some As.length)
    (hrm : rm.cells = mc ∧ rm.slots = ms ∧ rm.frames + 1 ≤ R.frames ∧ 8 + (maxL + 11) + rm.locals ≤ R.locals) (hW : s0.WarmedH s.vm) (hold : mmOld s0 H) (hY : Y H) (hsz : ls.size = nL) (hroom : Nat.ble ((rest.map fun v => v.category).sum) 8 = true) (hst : st0 = As.reverse ++ rest) (hd : decode cc pc = .ok (.invokestatic idx, 3)) (hf : cells + mc ≤ R.cells ∧ slots + ms ≤ R.slots)
    (hS : va_S A H0 H locs) (hB : ∀ q, q < H.size → B q → A q) (hfr : ∀ q, fr q → A q)
    (kk : ∀ H1 locs1, X H H1 → H.size ≤ H1.size → (∀ q : Nat, q < H.size → ¬ B q → H1[q]? = H[q]?) → va_S A H0 H1 locs1 → W p l e R s m args below meth c H1 locs1 (cells + mc) (slots + ms) Q (F0 m (pc + 3) ls rest)) : W p l e R s m args below meth c H locs cells slots Q (F0 m pc ls st0) := by
  have hr : va_Run p l e R s m args below meth c H locs cells slots mc ms (F0 m pc ls st0) rest (ctQ B X As.toArray) fr := va_runS (Ts := TBL) (own := own) (index := idx) (n := As.length) (bytes := bytes) (maxL := maxL) (ret := none) (cc := cc) (nL := nL) ⟨hx, hb, hml, hown, hts⟩ hM ⟨⟨hrm.1, hrm.2.1, hrm.2.2.1, hrm.2.2.2, ct_good hts hcode, List.mem_cons_self, hts _ hcode, hts _ hini, hy, fun sig h => by
      rw [h] at hsig; exact (Option.some.inj hsig).symm, hts _ hlink⟩, hts _ hstat⟩ ⟨ctP_blind, fun U hU hWU => ⟨rfl, State.WarmedH.trans hW hWU, by rw [hU]; exact hold, by rw [hU]; exact hY⟩⟩ rfl rfl hsz hst (lv_room (Nat.le_of_ble_eq_true hroom)) hd hf
  exact ct_after hr hS hB hfr kk
end CC
theorem di_0_0 : decode prog_1_method_1_code 0 = .ok (.aload_n 0, 1) := by decide +kernel
theorem di_0_1 : decode prog_1_method_1_code 1 = .ok (.invokespecial 1, 3) := by decide +kernel
theorem di_0_4 : decode prog_1_method_1_code 4 = .ok (.aload_n 0, 1) := by decide +kernel
theorem di_0_5 : decode prog_1_method_1_code 5 = .ok (.iconst 4, 1) := by decide +kernel
theorem di_0_6 : decode prog_1_method_1_code 6 = .ok (.anewarray 9, 3) := by decide +kernel
theorem di_0_9 : decode prog_1_method_1_code 9 = .ok (.putfield 11, 3) := by decide +kernel
theorem di_0_12 : decode prog_1_method_1_code 12 = .ok (.iconst 0, 1) := by decide +kernel
theorem di_0_13 : decode prog_1_method_1_code 13 = .ok (.istore_n 2, 1) := by decide +kernel
theorem di_0_14 : decode prog_1_method_1_code 14 = .ok (.iload_n 2, 1) := by decide +kernel
theorem di_0_15 : decode prog_1_method_1_code 15 = .ok (.iconst 4, 1) := by decide +kernel
theorem di_0_16 : decode prog_1_method_1_code 16 = .ok (.if_icmp .ge 36, 3) := by decide +kernel
theorem di_0_19 : decode prog_1_method_1_code 19 = .ok (.aload_n 0, 1) := by decide +kernel
theorem di_0_20 : decode prog_1_method_1_code 20 = .ok (.getfield 11, 3) := by decide +kernel
theorem di_0_23 : decode prog_1_method_1_code 23 = .ok (.iload_n 2, 1) := by decide +kernel
theorem di_0_24 : decode prog_1_method_1_code 24 = .ok (.new 9, 3) := by decide +kernel
theorem di_0_27 : decode prog_1_method_1_code 27 = .ok (.dup, 1) := by decide +kernel
theorem di_0_28 : decode prog_1_method_1_code 28 = .ok (.iload_n 2, 1) := by decide +kernel
theorem di_0_29 : decode prog_1_method_1_code 29 = .ok (.iload_n 1, 1) := by decide +kernel
theorem di_0_30 : decode prog_1_method_1_code 30 = .ok (.bipush 8, 2) := by decide +kernel
theorem di_0_32 : decode prog_1_method_1_code 32 = .ok (.iload_n 2, 1) := by decide +kernel
theorem di_0_33 : decode prog_1_method_1_code 33 = .ok (.imul, 1) := by decide +kernel
theorem di_0_34 : decode prog_1_method_1_code 34 = .ok (.iushr, 1) := by decide +kernel
theorem di_0_35 : decode prog_1_method_1_code 35 = .ok (.sipush 255, 3) := by decide +kernel
theorem di_0_38 : decode prog_1_method_1_code 38 = .ok (.iand, 1) := by decide +kernel
theorem di_0_39 : decode prog_1_method_1_code 39 = .ok (.bipush 31, 2) := by decide +kernel
theorem di_0_41 : decode prog_1_method_1_code 41 = .ok (.irem, 1) := by decide +kernel
theorem di_0_42 : decode prog_1_method_1_code 42 = .ok (.invokespecial 15, 3) := by decide +kernel
theorem di_0_45 : decode prog_1_method_1_code 45 = .ok (.aastore, 1) := by decide +kernel
theorem di_0_46 : decode prog_1_method_1_code 46 = .ok (.iinc 2 1, 3) := by decide +kernel
theorem di_0_49 : decode prog_1_method_1_code 49 = .ok (.goto (-35), 3) := by decide +kernel
theorem di_0_52 : decode prog_1_method_1_code 52 = .ok (.aload_n 0, 1) := by decide +kernel
theorem di_0_53 : decode prog_1_method_1_code 53 = .ok (.ldc2_w 18, 3) := by decide +kernel
theorem di_0_56 : decode prog_1_method_1_code 56 = .ok (.putfield 20, 3) := by decide +kernel
theorem di_0_59 : decode prog_1_method_1_code 59 = .ok (.return_, 1) := by decide +kernel
theorem di_1_0 : decode prog_5_method_1_code 0 = .ok (.aload_n 0, 1) := by decide +kernel
theorem di_1_1 : decode prog_5_method_1_code 1 = .ok (.invokespecial 3, 3) := by decide +kernel
theorem di_1_4 : decode prog_5_method_1_code 4 = .ok (.aload_n 0, 1) := by decide +kernel
theorem di_1_5 : decode prog_5_method_1_code 5 = .ok (.iload_n 1, 1) := by decide +kernel
theorem di_1_6 : decode prog_5_method_1_code 6 = .ok (.putfield 9, 3) := by decide +kernel
theorem di_1_9 : decode prog_5_method_1_code 9 = .ok (.aload_n 0, 1) := by decide +kernel
theorem di_1_10 : decode prog_5_method_1_code 10 = .ok (.iload_n 2, 1) := by decide +kernel
theorem di_1_11 : decode prog_5_method_1_code 11 = .ok (.putfield 15, 3) := by decide +kernel
theorem di_1_14 : decode prog_5_method_1_code 14 = .ok (.aload_n 0, 1) := by decide +kernel
theorem di_1_15 : decode prog_5_method_1_code 15 = .ok (.new 18, 3) := by decide +kernel
theorem di_1_18 : decode prog_5_method_1_code 18 = .ok (.dup, 1) := by decide +kernel
theorem di_1_19 : decode prog_5_method_1_code 19 = .ok (.invokespecial 20, 3) := by decide +kernel
theorem di_1_22 : decode prog_5_method_1_code 22 = .ok (.putfield 21, 3) := by decide +kernel
theorem di_1_25 : decode prog_5_method_1_code 25 = .ok (.aload_n 0, 1) := by decide +kernel
theorem di_1_26 : decode prog_5_method_1_code 26 = .ok (.new 25, 3) := by decide +kernel
theorem di_1_29 : decode prog_5_method_1_code 29 = .ok (.dup, 1) := by decide +kernel
theorem di_1_30 : decode prog_5_method_1_code 30 = .ok (.invokespecial 27, 3) := by decide +kernel
theorem di_1_33 : decode prog_5_method_1_code 33 = .ok (.putfield 28, 3) := by decide +kernel
theorem di_1_36 : decode prog_5_method_1_code 36 = .ok (.aload_n 0, 1) := by decide +kernel
theorem di_1_37 : decode prog_5_method_1_code 37 = .ok (.new 32, 3) := by decide +kernel
theorem di_1_40 : decode prog_5_method_1_code 40 = .ok (.dup, 1) := by decide +kernel
theorem di_1_41 : decode prog_5_method_1_code 41 = .ok (.invokespecial 34, 3) := by decide +kernel
theorem di_1_44 : decode prog_5_method_1_code 44 = .ok (.putfield 35, 3) := by decide +kernel
theorem di_1_47 : decode prog_5_method_1_code 47 = .ok (.aload_n 0, 1) := by decide +kernel
theorem di_1_48 : decode prog_5_method_1_code 48 = .ok (.new 39, 3) := by decide +kernel
theorem di_1_51 : decode prog_5_method_1_code 51 = .ok (.dup, 1) := by decide +kernel
theorem di_1_52 : decode prog_5_method_1_code 52 = .ok (.invokespecial 41, 3) := by decide +kernel
theorem di_1_55 : decode prog_5_method_1_code 55 = .ok (.putfield 42, 3) := by decide +kernel
theorem di_1_58 : decode prog_5_method_1_code 58 = .ok (.aload_n 0, 1) := by decide +kernel
theorem di_1_59 : decode prog_5_method_1_code 59 = .ok (.bipush 10, 2) := by decide +kernel
theorem di_1_61 : decode prog_5_method_1_code 61 = .ok (.newarray .int, 2) := by decide +kernel
theorem di_1_63 : decode prog_5_method_1_code 63 = .ok (.putfield 46, 3) := by decide +kernel
theorem di_1_66 : decode prog_5_method_1_code 66 = .ok (.aload_n 0, 1) := by decide +kernel
theorem di_1_67 : decode prog_5_method_1_code 67 = .ok (.getfield 46, 3) := by decide +kernel
theorem di_1_70 : decode prog_5_method_1_code 70 = .ok (.iconst (-1), 1) := by decide +kernel
theorem di_1_71 : decode prog_5_method_1_code 71 = .ok (.invokestatic 50, 3) := by decide +kernel
theorem di_1_74 : decode prog_5_method_1_code 74 = .ok (.return_, 1) := by decide +kernel
theorem di_2_0 : decode prog_7_method_1_code 0 = .ok (.aload_n 0, 1) := by decide +kernel
theorem di_2_1 : decode prog_7_method_1_code 1 = .ok (.invokespecial 1, 3) := by decide +kernel
theorem di_2_4 : decode prog_7_method_1_code 4 = .ok (.return_, 1) := by decide +kernel
theorem di_3_0 : decode prog_6_method_1_code 0 = .ok (.aload_n 0, 1) := by decide +kernel
theorem di_3_1 : decode prog_6_method_1_code 1 = .ok (.invokespecial 1, 3) := by decide +kernel
theorem di_3_4 : decode prog_6_method_1_code 4 = .ok (.return_, 1) := by decide +kernel
theorem di_4_0 : decode prog_2_method_1_code 0 = .ok (.aload_n 0, 1) := by decide +kernel
theorem di_4_1 : decode prog_2_method_1_code 1 = .ok (.invokespecial 3, 3) := by decide +kernel
theorem di_4_4 : decode prog_2_method_1_code 4 = .ok (.aload_n 0, 1) := by decide +kernel
theorem di_4_5 : decode prog_2_method_1_code 5 = .ok (.iconst 4, 1) := by decide +kernel
theorem di_4_6 : decode prog_2_method_1_code 6 = .ok (.newarray .int, 2) := by decide +kernel
theorem di_4_8 : decode prog_2_method_1_code 8 = .ok (.putfield 9, 3) := by decide +kernel
theorem di_4_11 : decode prog_2_method_1_code 11 = .ok (.aload_n 0, 1) := by decide +kernel
theorem di_4_12 : decode prog_2_method_1_code 12 = .ok (.iconst 4, 1) := by decide +kernel
theorem di_4_13 : decode prog_2_method_1_code 13 = .ok (.newarray .int, 2) := by decide +kernel
theorem di_4_15 : decode prog_2_method_1_code 15 = .ok (.putfield 15, 3) := by decide +kernel
theorem di_4_18 : decode prog_2_method_1_code 18 = .ok (.aload_n 0, 1) := by decide +kernel
theorem di_4_19 : decode prog_2_method_1_code 19 = .ok (.getfield 9, 3) := by decide +kernel
theorem di_4_22 : decode prog_2_method_1_code 22 = .ok (.sipush 1000, 3) := by decide +kernel
theorem di_4_25 : decode prog_2_method_1_code 25 = .ok (.invokestatic 18, 3) := by decide +kernel
theorem di_4_28 : decode prog_2_method_1_code 28 = .ok (.aload_n 0, 1) := by decide +kernel
theorem di_4_29 : decode prog_2_method_1_code 29 = .ok (.getfield 15, 3) := by decide +kernel
theorem di_4_32 : decode prog_2_method_1_code 32 = .ok (.sipush 1000, 3) := by decide +kernel
theorem di_4_35 : decode prog_2_method_1_code 35 = .ok (.invokestatic 18, 3) := by decide +kernel
theorem di_4_38 : decode prog_2_method_1_code 38 = .ok (.aload_n 0, 1) := by decide +kernel
theorem di_4_39 : decode prog_2_method_1_code 39 = .ok (.new 24, 3) := by decide +kernel
theorem di_4_42 : decode prog_2_method_1_code 42 = .ok (.dup, 1) := by decide +kernel
theorem di_4_43 : decode prog_2_method_1_code 43 = .ok (.invokespecial 26, 3) := by decide +kernel
theorem di_4_46 : decode prog_2_method_1_code 46 = .ok (.putfield 27, 3) := by decide +kernel
theorem di_4_49 : decode prog_2_method_1_code 49 = .ok (.return_, 1) := by decide +kernel
theorem di_5_0 : decode prog_4_method_1_code 0 = .ok (.aload_n 0, 1) := by decide +kernel
theorem di_5_1 : decode prog_4_method_1_code 1 = .ok (.invokespecial 3, 3) := by decide +kernel
theorem di_5_4 : decode prog_4_method_1_code 4 = .ok (.aload_n 0, 1) := by decide +kernel
theorem di_5_5 : decode prog_4_method_1_code 5 = .ok (.iconst 5, 1) := by decide +kernel
theorem di_5_6 : decode prog_4_method_1_code 6 = .ok (.newarray .int, 2) := by decide +kernel
theorem di_5_8 : decode prog_4_method_1_code 8 = .ok (.putfield 9, 3) := by decide +kernel
theorem di_5_11 : decode prog_4_method_1_code 11 = .ok (.aload_n 0, 1) := by decide +kernel
theorem di_5_12 : decode prog_4_method_1_code 12 = .ok (.iconst 1, 1) := by decide +kernel
theorem di_5_13 : decode prog_4_method_1_code 13 = .ok (.putfield 15, 3) := by decide +kernel
theorem di_5_16 : decode prog_4_method_1_code 16 = .ok (.return_, 1) := by decide +kernel
theorem di_6_0 : decode prog_3_method_1_code 0 = .ok (.aload_n 0, 1) := by decide +kernel
theorem di_6_1 : decode prog_3_method_1_code 1 = .ok (.invokespecial 1, 3) := by decide +kernel
theorem di_6_4 : decode prog_3_method_1_code 4 = .ok (.return_, 1) := by decide +kernel
theorem di_7_0 : decode prog_10_method_1_code 0 = .ok (.aload_n 0, 1) := by decide +kernel
theorem di_7_1 : decode prog_10_method_1_code 1 = .ok (.invokespecial 1, 3) := by decide +kernel
theorem di_7_4 : decode prog_10_method_1_code 4 = .ok (.aload_n 0, 1) := by decide +kernel
theorem di_7_5 : decode prog_10_method_1_code 5 = .ok (.iconst 4, 1) := by decide +kernel
theorem di_7_6 : decode prog_10_method_1_code 6 = .ok (.newarray .int, 2) := by decide +kernel
theorem di_7_8 : decode prog_10_method_1_code 8 = .ok (.putfield 7, 3) := by decide +kernel
theorem di_7_11 : decode prog_10_method_1_code 11 = .ok (.aload_n 0, 1) := by decide +kernel
theorem di_7_12 : decode prog_10_method_1_code 12 = .ok (.iconst 4, 1) := by decide +kernel
theorem di_7_13 : decode prog_10_method_1_code 13 = .ok (.newarray .int, 2) := by decide +kernel
theorem di_7_15 : decode prog_10_method_1_code 15 = .ok (.putfield 13, 3) := by decide +kernel
theorem di_7_18 : decode prog_10_method_1_code 18 = .ok (.aload_n 0, 1) := by decide +kernel
theorem di_7_19 : decode prog_10_method_1_code 19 = .ok (.iconst 4, 1) := by decide +kernel
theorem di_7_20 : decode prog_10_method_1_code 20 = .ok (.newarray .int, 2) := by decide +kernel
theorem di_7_22 : decode prog_10_method_1_code 22 = .ok (.putfield 16, 3) := by decide +kernel
theorem di_7_25 : decode prog_10_method_1_code 25 = .ok (.aload_n 0, 1) := by decide +kernel
theorem di_7_26 : decode prog_10_method_1_code 26 = .ok (.iconst 4, 1) := by decide +kernel
theorem di_7_27 : decode prog_10_method_1_code 27 = .ok (.newarray .int, 2) := by decide +kernel
theorem di_7_29 : decode prog_10_method_1_code 29 = .ok (.putfield 19, 3) := by decide +kernel
theorem di_7_32 : decode prog_10_method_1_code 32 = .ok (.aload_n 0, 1) := by decide +kernel
theorem di_7_33 : decode prog_10_method_1_code 33 = .ok (.iconst 4, 1) := by decide +kernel
theorem di_7_34 : decode prog_10_method_1_code 34 = .ok (.newarray .int, 2) := by decide +kernel
theorem di_7_36 : decode prog_10_method_1_code 36 = .ok (.putfield 22, 3) := by decide +kernel
theorem di_7_39 : decode prog_10_method_1_code 39 = .ok (.aload_n 0, 1) := by decide +kernel
theorem di_7_40 : decode prog_10_method_1_code 40 = .ok (.iconst 4, 1) := by decide +kernel
theorem di_7_41 : decode prog_10_method_1_code 41 = .ok (.newarray .int, 2) := by decide +kernel
theorem di_7_43 : decode prog_10_method_1_code 43 = .ok (.putfield 25, 3) := by decide +kernel
theorem di_7_46 : decode prog_10_method_1_code 46 = .ok (.aload_n 0, 1) := by decide +kernel
theorem di_7_47 : decode prog_10_method_1_code 47 = .ok (.iconst 4, 1) := by decide +kernel
theorem di_7_48 : decode prog_10_method_1_code 48 = .ok (.newarray .int, 2) := by decide +kernel
theorem di_7_50 : decode prog_10_method_1_code 50 = .ok (.putfield 28, 3) := by decide +kernel
theorem di_7_53 : decode prog_10_method_1_code 53 = .ok (.aload_n 0, 1) := by decide +kernel
theorem di_7_54 : decode prog_10_method_1_code 54 = .ok (.iconst 4, 1) := by decide +kernel
theorem di_7_55 : decode prog_10_method_1_code 55 = .ok (.newarray .int, 2) := by decide +kernel
theorem di_7_57 : decode prog_10_method_1_code 57 = .ok (.putfield 31, 3) := by decide +kernel
theorem di_7_60 : decode prog_10_method_1_code 60 = .ok (.aload_n 0, 1) := by decide +kernel
theorem di_7_61 : decode prog_10_method_1_code 61 = .ok (.iconst 4, 1) := by decide +kernel
theorem di_7_62 : decode prog_10_method_1_code 62 = .ok (.newarray .int, 2) := by decide +kernel
theorem di_7_64 : decode prog_10_method_1_code 64 = .ok (.putfield 34, 3) := by decide +kernel
theorem di_7_67 : decode prog_10_method_1_code 67 = .ok (.aload_n 0, 1) := by decide +kernel
theorem di_7_68 : decode prog_10_method_1_code 68 = .ok (.iconst 4, 1) := by decide +kernel
theorem di_7_69 : decode prog_10_method_1_code 69 = .ok (.newarray .int, 2) := by decide +kernel
theorem di_7_71 : decode prog_10_method_1_code 71 = .ok (.putfield 37, 3) := by decide +kernel
theorem di_7_74 : decode prog_10_method_1_code 74 = .ok (.aload_n 0, 1) := by decide +kernel
theorem di_7_75 : decode prog_10_method_1_code 75 = .ok (.iconst 4, 1) := by decide +kernel
theorem di_7_76 : decode prog_10_method_1_code 76 = .ok (.newarray .int, 2) := by decide +kernel
theorem di_7_78 : decode prog_10_method_1_code 78 = .ok (.putfield 40, 3) := by decide +kernel
theorem di_7_81 : decode prog_10_method_1_code 81 = .ok (.aload_n 0, 1) := by decide +kernel
theorem di_7_82 : decode prog_10_method_1_code 82 = .ok (.iconst 4, 1) := by decide +kernel
theorem di_7_83 : decode prog_10_method_1_code 83 = .ok (.newarray .int, 2) := by decide +kernel
theorem di_7_85 : decode prog_10_method_1_code 85 = .ok (.putfield 43, 3) := by decide +kernel
theorem di_7_88 : decode prog_10_method_1_code 88 = .ok (.aload_n 0, 1) := by decide +kernel
theorem di_7_89 : decode prog_10_method_1_code 89 = .ok (.iconst 4, 1) := by decide +kernel
theorem di_7_90 : decode prog_10_method_1_code 90 = .ok (.newarray .int, 2) := by decide +kernel
theorem di_7_92 : decode prog_10_method_1_code 92 = .ok (.putfield 46, 3) := by decide +kernel
theorem di_7_95 : decode prog_10_method_1_code 95 = .ok (.aload_n 0, 1) := by decide +kernel
theorem di_7_96 : decode prog_10_method_1_code 96 = .ok (.iconst 4, 1) := by decide +kernel
theorem di_7_97 : decode prog_10_method_1_code 97 = .ok (.newarray .boolean, 2) := by decide +kernel
theorem di_7_99 : decode prog_10_method_1_code 99 = .ok (.putfield 49, 3) := by decide +kernel
theorem di_7_102 : decode prog_10_method_1_code 102 = .ok (.aload_n 0, 1) := by decide +kernel
theorem di_7_103 : decode prog_10_method_1_code 103 = .ok (.bipush 32, 2) := by decide +kernel
theorem di_7_105 : decode prog_10_method_1_code 105 = .ok (.newarray .int, 2) := by decide +kernel
theorem di_7_107 : decode prog_10_method_1_code 107 = .ok (.putfield 53, 3) := by decide +kernel
theorem di_7_110 : decode prog_10_method_1_code 110 = .ok (.aload_n 0, 1) := by decide +kernel
theorem di_7_111 : decode prog_10_method_1_code 111 = .ok (.bipush 40, 2) := by decide +kernel
theorem di_7_113 : decode prog_10_method_1_code 113 = .ok (.newarray .int, 2) := by decide +kernel
theorem di_7_115 : decode prog_10_method_1_code 115 = .ok (.putfield 56, 3) := by decide +kernel
theorem di_7_118 : decode prog_10_method_1_code 118 = .ok (.aload_n 0, 1) := by decide +kernel
theorem di_7_119 : decode prog_10_method_1_code 119 = .ok (.iconst 4, 1) := by decide +kernel
theorem di_7_120 : decode prog_10_method_1_code 120 = .ok (.newarray .int, 2) := by decide +kernel
theorem di_7_122 : decode prog_10_method_1_code 122 = .ok (.putfield 59, 3) := by decide +kernel
theorem di_7_125 : decode prog_10_method_1_code 125 = .ok (.aload_n 0, 1) := by decide +kernel
theorem di_7_126 : decode prog_10_method_1_code 126 = .ok (.iconst 4, 1) := by decide +kernel
theorem di_7_127 : decode prog_10_method_1_code 127 = .ok (.newarray .int, 2) := by decide +kernel
theorem di_7_129 : decode prog_10_method_1_code 129 = .ok (.putfield 62, 3) := by decide +kernel
theorem di_7_132 : decode prog_10_method_1_code 132 = .ok (.aload_n 0, 1) := by decide +kernel
theorem di_7_133 : decode prog_10_method_1_code 133 = .ok (.iconst 4, 1) := by decide +kernel
theorem di_7_134 : decode prog_10_method_1_code 134 = .ok (.newarray .int, 2) := by decide +kernel
theorem di_7_136 : decode prog_10_method_1_code 136 = .ok (.putfield 65, 3) := by decide +kernel
theorem di_7_139 : decode prog_10_method_1_code 139 = .ok (.aload_n 0, 1) := by decide +kernel
theorem di_7_140 : decode prog_10_method_1_code 140 = .ok (.iconst 4, 1) := by decide +kernel
theorem di_7_141 : decode prog_10_method_1_code 141 = .ok (.newarray .int, 2) := by decide +kernel
theorem di_7_143 : decode prog_10_method_1_code 143 = .ok (.putfield 68, 3) := by decide +kernel
theorem di_7_146 : decode prog_10_method_1_code 146 = .ok (.aload_n 0, 1) := by decide +kernel
theorem di_7_147 : decode prog_10_method_1_code 147 = .ok (.iconst 4, 1) := by decide +kernel
theorem di_7_148 : decode prog_10_method_1_code 148 = .ok (.newarray .int, 2) := by decide +kernel
theorem di_7_150 : decode prog_10_method_1_code 150 = .ok (.putfield 71, 3) := by decide +kernel
theorem di_7_153 : decode prog_10_method_1_code 153 = .ok (.aload_n 0, 1) := by decide +kernel
theorem di_7_154 : decode prog_10_method_1_code 154 = .ok (.iconst 5, 1) := by decide +kernel
theorem di_7_155 : decode prog_10_method_1_code 155 = .ok (.newarray .int, 2) := by decide +kernel
theorem di_7_157 : decode prog_10_method_1_code 157 = .ok (.putfield 74, 3) := by decide +kernel
theorem di_7_160 : decode prog_10_method_1_code 160 = .ok (.iconst 0, 1) := by decide +kernel
theorem di_7_161 : decode prog_10_method_1_code 161 = .ok (.istore_n 2, 1) := by decide +kernel
theorem di_7_162 : decode prog_10_method_1_code 162 = .ok (.iload_n 2, 1) := by decide +kernel
theorem di_7_163 : decode prog_10_method_1_code 163 = .ok (.iconst 4, 1) := by decide +kernel
theorem di_7_164 : decode prog_10_method_1_code 164 = .ok (.if_icmp .ge 33, 3) := by decide +kernel
theorem di_7_167 : decode prog_10_method_1_code 167 = .ok (.aload_n 0, 1) := by decide +kernel
theorem di_7_168 : decode prog_10_method_1_code 168 = .ok (.getfield 7, 3) := by decide +kernel
theorem di_7_171 : decode prog_10_method_1_code 171 = .ok (.iload_n 2, 1) := by decide +kernel
theorem di_7_172 : decode prog_10_method_1_code 172 = .ok (.iload_n 1, 1) := by decide +kernel
theorem di_7_173 : decode prog_10_method_1_code 173 = .ok (.bipush 8, 2) := by decide +kernel
theorem di_7_175 : decode prog_10_method_1_code 175 = .ok (.iload_n 2, 1) := by decide +kernel
theorem di_7_176 : decode prog_10_method_1_code 176 = .ok (.imul, 1) := by decide +kernel
theorem di_7_177 : decode prog_10_method_1_code 177 = .ok (.iushr, 1) := by decide +kernel
theorem di_7_178 : decode prog_10_method_1_code 178 = .ok (.sipush 255, 3) := by decide +kernel
theorem di_7_181 : decode prog_10_method_1_code 181 = .ok (.iand, 1) := by decide +kernel
theorem di_7_182 : decode prog_10_method_1_code 182 = .ok (.bipush 31, 2) := by decide +kernel
theorem di_7_184 : decode prog_10_method_1_code 184 = .ok (.irem, 1) := by decide +kernel
theorem di_7_185 : decode prog_10_method_1_code 185 = .ok (.iastore, 1) := by decide +kernel
theorem di_7_186 : decode prog_10_method_1_code 186 = .ok (.aload_n 0, 1) := by decide +kernel
theorem di_7_187 : decode prog_10_method_1_code 187 = .ok (.iload_n 2, 1) := by decide +kernel
theorem di_7_188 : decode prog_10_method_1_code 188 = .ok (.invokevirtual 77, 3) := by decide +kernel
theorem di_7_191 : decode prog_10_method_1_code 191 = .ok (.iinc 2 1, 3) := by decide +kernel
theorem di_7_194 : decode prog_10_method_1_code 194 = .ok (.goto (-32), 3) := by decide +kernel
theorem di_7_197 : decode prog_10_method_1_code 197 = .ok (.return_, 1) := by decide +kernel
theorem ct_D1 {A : Nat → Prop} {a : Nat} {e : va_E} (h : A a) : va_D A [(a, e)] := by
  refine ⟨fun i j p q hi hj _ => ?_, fun k q hk => ?_⟩
  · have h1 := (List.getElem?_eq_some_iff.mp hi).1
    have h2 := (List.getElem?_eq_some_iff.mp hj).1
    simp at h1 h2
    omega
  · have h1 := List.mem_of_getElem? hk
    rw [List.mem_singleton.mp h1]
    exact h
theorem wc_0 : Cond.methodLink "SlotBus$Middle" 3 ⟨"java/lang/Object", "<init>", "()V"⟩ ∈ TBL := tbm (i := 130) (by decide +kernel) (by decide +kernel)
theorem wc_1 : Cond.instanceMethod ⟨"java/lang/Object", "<init>", "()V"⟩ ∈ TBL := tbm (i := 58) (by decide +kernel) (by decide +kernel)
theorem wc_2 : Cond.code objectInit ⟨#[0xb1]⟩ 1 none ∈ TBL := tbm (i := 59) (by decide +kernel) (by decide +kernel)
theorem wc_3 : Cond.arrayClass .int ∈ TBL := tbm (i := 138) (by decide +kernel) (by decide +kernel)
theorem wc_4 : Cond.fieldLink "SlotBus$Middle" 9 "SlotBus$Middle" "inOrder" "[I" ∈ TBL := tbm (i := 131) (by decide +kernel) (by decide +kernel)
theorem wc_5 : Cond.fieldLink "SlotBus$Middle" 15 "SlotBus$Middle" "size" "I" ∈ TBL := tbm (i := 132) (by decide +kernel) (by decide +kernel)
set_option maxHeartbeats 4000000 in
set_option maxRecDepth 100000 in
theorem c_mid (hT : ∀ w ∈ lw_tbl, w.before a0 s0 = true) (hK0 : va_K D clA (tyA CA) s0) (h : Nat) (sz : Nat) (hh : s0.heap.size ≤ h) : Met l ⟨"SlotBus$Middle", "<init>", "()V"⟩ [.code ⟨"SlotBus$Middle", "<init>", "()V"⟩ prog_4_method_1_code 1 none] { frames := 1, cells := 1, slots := 5, locals := 12 } (ctP s0 [.ref h] (fun H => H.size = sz ∧ va_P D clA [(h, .inr (2, [.null, .int 0]))] H)) (ctQ (fun q => q = h) (fun H H1 => ∃ mq, va_P D clA [(h, .inr (2, [.ref mq, .int (1 : Int32)])), (mq, .inl (CA 0, 5, .inl (fun _ => 0)))] H1 ∧ va_D (fun z => z = h ∨ H.size ≤ z) [(h, .inr (2, [.ref mq, .int (1 : Int32)])), (mq, .inl (CA 0, 5, .inl (fun _ => 0)))])) 1 5 (fun q => q = h ∨ sz ≤ q) := by
  refine ct_of (by decide) (Nat.le_of_ble_eq_true rfl) ?_
  intro p e s m below meth c ls hx hb hr hml hown hlk hnm hW ho hY hl
  obtain ⟨rfl, hP⟩ := hY
  have hts : ∀ w ∈ TBL, w.before ([.ref h] : List Value).toArray s = true := tb_at hT hW
  have hK : va_K D clA (tyA CA) s := va_K.moved hW.alike hK0
  obtain ⟨A, hAd⟩ : ∃ A : Nat → Prop, A = fun q => q = h ∨ s.heap.size ≤ q := ⟨_, rfl⟩
  have hA : ∀ q : Nat, s.heap.size ≤ q → A q := fun q z => by rw [hAd]; exact Or.inr z
  have hAo : ∀ q, A q → s0.heap.size ≤ q := fun q z => by rw [hAd] at z; rcases z with z | z; rw [z]; exact hh; exact Nat.le_trans ho.1 z
  have hD : va_D A [(h, .inr (2, [.null, .int 0]))] := ct_D1 (by rw [hAd]; exact Or.inl rfl)
  have hS : va_S A s.heap s.heap [] := ⟨Nat.le_refl _, fun _ _ _ => rfl, fun _ h => by cases h⟩
  have hl : lv_has ls 1 [(0, .ref h)] := hl
  refine lv_aload_n hx hb di_5_0 rfl (lv_at hl 0 rfl) ?_
  refine W.objInit hx hb hown (hts _ wc_0) (hts _ wc_1) (hts _ wc_2) rfl (by rw [hml]; exact hl.1) rfl di_5_1 (Nat.le_of_ble_eq_true rfl) (Nat.le_of_ble_eq_true rfl) ?_
  refine W.eq (g2 := F0 m 4 ls []) rfl ?_
  refine lv_aload_n hx hb di_5_4 rfl (lv_at hl 0 rfl) ?_
  refine lv_iconst hx hb di_5_5 ci_5 ?_
  refine ct_newa (atype := .int) (ty := .int) hx hb (hts _ wc_3) rfl 0 rfl (fun _ h => h) hK hP hD hS hA (a0 := (5, .inl (fun _ => 0))) (fun _ => rfl) (by decide) (N' := 5) (by decide) (by decide) (by decide) (by decide) di_5_6 (fun q1 H hP hD hS => ?_)
  have hP : va_P D clA [(h, .inr (2, [.null, .int 0])), (q1, .inl (CA 0, 5, .inl (fun _ => 0)))] H := hP
  have hD : va_D A [(h, .inr (2, [.null, .int 0])), (q1, .inl (CA 0, 5, .inl (fun _ => 0)))] := hD
  refine va_putF (v := .ref q1) hx hb hts (u8_in 2 (by decide)) (tyf 2) (ty8_ok 2 (by decide)) (nm8_ok 2 (by decide)) hown hK hP hD hS 0 rfl (clA_at 2 (by decide)) 0 (by decide) (hts _ wc_4) (fun z h => h) rfl hnm rfl (ty8_ok 2 (by decide) 0 (by decide)) rfl rfl (Nat.lt_of_succ_le (Nat.le_of_ble_eq_true rfl)) di_5_8 (fun H locs hP hD hS => ?_)
  have hP : va_P D clA [(h, .inr (2, [.ref q1, .int 0])), (q1, .inl (CA 0, 5, .inl (fun _ => 0)))] H := hP
  have hD : va_D A [(h, .inr (2, [.ref q1, .int 0])), (q1, .inl (CA 0, 5, .inl (fun _ => 0)))] := hD
  refine lv_aload_n hx hb di_5_11 rfl (lv_at hl 0 rfl) ?_
  refine lv_iconst hx hb di_5_12 ci_1 ?_
  refine va_put (v := .int (1 : Int32)) hx hb hts (u8_in 2 (by decide)) (tyf 2) (ty8_ok 2 (by decide)) (nm8_ok 2 (by decide)) hown hK hP hD hS 0 rfl (clA_at 2 (by decide)) 1 (by decide) (hts _ wc_5) (fun z h => h) rfl (ty8_ok 2 (by decide) 1 (by decide)) rfl rfl (Nat.lt_of_succ_le (Nat.le_of_ble_eq_true rfl)) di_5_13 (fun H locs hP hD hS => ?_)
  have hP : va_P D clA [(h, .inr (2, [.ref q1, .int (1 : Int32)])), (q1, .inl (CA 0, 5, .inl (fun _ => 0)))] H := hP
  have hD : va_D A [(h, .inr (2, [.ref q1, .int (1 : Int32)])), (q1, .inl (CA 0, 5, .inl (fun _ => 0)))] := hD
  subst hAd
  have hP := hP.sub (ws' := [(h, .inr (2, [.ref q1, .int (1 : Int32)])), (q1, .inl (CA 0, 5, .inl (fun _ => 0)))]) [0, 1] rfl
  have hD := hD.sub (ws' := [(h, .inr (2, [.ref q1, .int (1 : Int32)])), (q1, .inl (CA 0, 5, .inl (fun _ => 0)))]) [0, 1] (by decide) rfl
  exact W.vret hx hb hr (fun t ht _ => ⟨rfl, ct_F hS ht, q1, by rw [ht]; exact hP, hD⟩) (fun q hq => hS.2.2 q hq) di_5_16 hlk
theorem wc_6 : Cond.methodLink "SlotBus$Deviations" 3 ⟨"java/lang/Object", "<init>", "()V"⟩ ∈ TBL := tbm (i := 121) (by decide +kernel) (by decide +kernel)
theorem wc_7 : Cond.fieldLink "SlotBus$Deviations" 9 "SlotBus$Deviations" "even" "[I" ∈ TBL := tbm (i := 139) (by decide +kernel) (by decide +kernel)
theorem wc_8 : Cond.fieldLink "SlotBus$Deviations" 15 "SlotBus$Deviations" "odd" "[I" ∈ TBL := tbm (i := 140) (by decide +kernel) (by decide +kernel)
theorem wc_9 : Cond.code ⟨"java/util/Arrays", "fill", "([II)V"⟩ prog_17_method_103_code 4 none ∈ TBL := tbm (i := 124) (by decide +kernel) (by decide +kernel)
theorem wc_10 : Cond.initialized "java/util/Arrays" ∈ TBL := tbm (i := 41) (by decide +kernel) (by decide +kernel)
theorem wc_11 : Cond.static ⟨"java/util/Arrays", "fill", "([II)V"⟩ ∈ TBL := tbm (i := 123) (by decide +kernel) (by decide +kernel)
theorem wc_12 : Cond.methodLink "SlotBus$Deviations" 18 ⟨"java/util/Arrays", "fill", "([II)V"⟩ ∈ TBL := tbm (i := 122) (by decide +kernel) (by decide +kernel)
theorem wc_13 : Cond.classLink "SlotBus$Deviations" 24 "SlotBus$Middle" ∈ TBL := tbm (i := 125) (by decide +kernel) (by decide +kernel)
theorem wc_14 : Cond.instantiable "SlotBus$Middle" 2 ∈ TBL := tbm (i := 126) (by decide +kernel) (by decide +kernel)
theorem wc_15 : Cond.initialized "SlotBus$Middle" ∈ TBL := tbm (i := 42) (by decide +kernel) (by decide +kernel)
theorem wc_16 : Cond.methodLink "SlotBus$Deviations" 26 ⟨"SlotBus$Middle", "<init>", "()V"⟩ ∈ TBL := tbm (i := 127) (by decide +kernel) (by decide +kernel)
theorem wc_17 : Cond.code ⟨"SlotBus$Middle", "<init>", "()V"⟩ prog_4_method_1_code 1 none ∈ TBL := tbm (i := 129) (by decide +kernel) (by decide +kernel)
theorem wc_18 : Cond.instanceMethod ⟨"SlotBus$Middle", "<init>", "()V"⟩ ∈ TBL := tbm (i := 128) (by decide +kernel) (by decide +kernel)
theorem wc_19 : Cond.fieldLink "SlotBus$Deviations" 27 "SlotBus$Deviations" "middle" "LSlotBus$Middle;" ∈ TBL := tbm (i := 141) (by decide +kernel) (by decide +kernel)
set_option maxHeartbeats 4000000 in
set_option maxRecDepth 100000 in
theorem c_dev (hT : ∀ w ∈ lw_tbl, w.before a0 s0 = true) (hK0 : va_K D clA (tyA CA) s0) (h : Nat) (sz : Nat) (hh : s0.heap.size ≤ h) : Met l ⟨"SlotBus$Deviations", "<init>", "()V"⟩ [.code ⟨"SlotBus$Deviations", "<init>", "()V"⟩ prog_2_method_1_code 1 none] { frames := 2, cells := 4, slots := 15, locals := 50 } (ctP s0 [.ref h] (fun H => H.size = sz ∧ va_P D clA [(h, .inr (0, [.null, .null, .null]))] H)) (ctQ (fun q => q = h) (fun H H1 => ∃ eq oq mq iq, va_P D clA [(h, .inr (0, [.ref eq, .ref oq, .ref mq])), (eq, .inl (CA 0, 4, .inl (fun j => if j < 4 then (1000 : Int32) else (fun _ => 0) j))), (oq, .inl (CA 0, 4, .inl (fun j => if j < 4 then (1000 : Int32) else (fun _ => 0) j))), (mq, .inr (2, [.ref iq, .int (1 : Int32)])), (iq, .inl (CA 0, 5, .inl (fun _ => 0)))] H1 ∧ va_D (fun z => z = h ∨ H.size ≤ z) [(h, .inr (0, [.ref eq, .ref oq, .ref mq])), (eq, .inl (CA 0, 4, .inl (fun j => if j < 4 then (1000 : Int32) else (fun _ => 0) j))), (oq, .inl (CA 0, 4, .inl (fun j => if j < 4 then (1000 : Int32) else (fun _ => 0) j))), (mq, .inr (2, [.ref iq, .int (1 : Int32)])), (iq, .inl (CA 0, 5, .inl (fun _ => 0)))])) 4 15 (fun q => q = h ∨ sz ≤ q) := by
  refine ct_of (by decide) (Nat.le_of_ble_eq_true rfl) ?_
  intro p e s m below meth c ls hx hb hr hml hown hlk hnm hW ho hY hl
  obtain ⟨rfl, hP⟩ := hY
  have hts : ∀ w ∈ TBL, w.before ([.ref h] : List Value).toArray s = true := tb_at hT hW
  have hK : va_K D clA (tyA CA) s := va_K.moved hW.alike hK0
  obtain ⟨A, hAd⟩ : ∃ A : Nat → Prop, A = fun q => q = h ∨ s.heap.size ≤ q := ⟨_, rfl⟩
  have hA : ∀ q : Nat, s.heap.size ≤ q → A q := fun q z => by rw [hAd]; exact Or.inr z
  have hAo : ∀ q, A q → s0.heap.size ≤ q := fun q z => by rw [hAd] at z; rcases z with z | z; rw [z]; exact hh; exact Nat.le_trans ho.1 z
  have hD : va_D A [(h, .inr (0, [.null, .null, .null]))] := ct_D1 (by rw [hAd]; exact Or.inl rfl)
  have hS : va_S A s.heap s.heap [] := ⟨Nat.le_refl _, fun _ _ _ => rfl, fun _ h => by cases h⟩
  have hl : lv_has ls 1 [(0, .ref h)] := hl
  refine lv_aload_n hx hb di_4_0 rfl (lv_at hl 0 rfl) ?_
  refine W.objInit hx hb hown (hts _ wc_6) (hts _ wc_1) (hts _ wc_2) rfl (by rw [hml]; exact hl.1) rfl di_4_1 (Nat.le_of_ble_eq_true rfl) (Nat.le_of_ble_eq_true rfl) ?_
  refine W.eq (g2 := F0 m 4 ls []) rfl ?_
  refine lv_aload_n hx hb di_4_4 rfl (lv_at hl 0 rfl) ?_
  refine lv_iconst hx hb di_4_5 ci_4 ?_
  refine ct_newa (atype := .int) (ty := .int) hx hb (hts _ wc_3) rfl 0 rfl (fun _ h => h) hK hP hD hS hA (a0 := (4, .inl (fun _ => 0))) (fun _ => rfl) (by decide) (N' := 4) (by decide) (by decide) (by decide) (by decide) di_4_6 (fun q1 H hP hD hS => ?_)
  have hP : va_P D clA [(h, .inr (0, [.null, .null, .null])), (q1, .inl (CA 0, 4, .inl (fun _ => 0)))] H := hP
  have hD : va_D A [(h, .inr (0, [.null, .null, .null])), (q1, .inl (CA 0, 4, .inl (fun _ => 0)))] := hD
  refine va_putF (v := .ref q1) hx hb hts (u8_in 0 (by decide)) (tyf 0) (ty8_ok 0 (by decide)) (nm8_ok 0 (by decide)) hown hK hP hD hS 0 rfl (clA_at 0 (by decide)) 0 (by decide) (hts _ wc_7) (fun z h => h) rfl hnm rfl (ty8_ok 0 (by decide) 0 (by decide)) rfl rfl (Nat.lt_of_succ_le (Nat.le_of_ble_eq_true rfl)) di_4_8 (fun H locs hP hD hS => ?_)
  have hP : va_P D clA [(h, .inr (0, [.ref q1, .null, .null])), (q1, .inl (CA 0, 4, .inl (fun _ => 0)))] H := hP
  have hD : va_D A [(h, .inr (0, [.ref q1, .null, .null])), (q1, .inl (CA 0, 4, .inl (fun _ => 0)))] := hD
  refine lv_aload_n hx hb di_4_11 rfl (lv_at hl 0 rfl) ?_
  refine lv_iconst hx hb di_4_12 ci_4 ?_
  refine ct_newa (atype := .int) (ty := .int) hx hb (hts _ wc_3) rfl 0 rfl (fun _ h => h) hK hP hD hS hA (a0 := (4, .inl (fun _ => 0))) (fun _ => rfl) (by decide) (N' := 4) (by decide) (by decide) (by decide) (by decide) di_4_13 (fun q2 H hP hD hS => ?_)
  have hP : va_P D clA [(h, .inr (0, [.ref q1, .null, .null])), (q1, .inl (CA 0, 4, .inl (fun _ => 0))), (q2, .inl (CA 0, 4, .inl (fun _ => 0)))] H := hP
  have hD : va_D A [(h, .inr (0, [.ref q1, .null, .null])), (q1, .inl (CA 0, 4, .inl (fun _ => 0))), (q2, .inl (CA 0, 4, .inl (fun _ => 0)))] := hD
  refine va_putF (v := .ref q2) hx hb hts (u8_in 0 (by decide)) (tyf 0) (ty8_ok 0 (by decide)) (nm8_ok 0 (by decide)) hown hK hP hD hS 0 rfl (clA_at 0 (by decide)) 1 (by decide) (hts _ wc_8) (fun z h => h) rfl hnm rfl (ty8_ok 0 (by decide) 1 (by decide)) rfl rfl (Nat.lt_of_succ_le (Nat.le_of_ble_eq_true rfl)) di_4_15 (fun H locs hP hD hS => ?_)
  have hP : va_P D clA [(h, .inr (0, [.ref q1, .ref q2, .null])), (q1, .inl (CA 0, 4, .inl (fun _ => 0))), (q2, .inl (CA 0, 4, .inl (fun _ => 0)))] H := hP
  have hD : va_D A [(h, .inr (0, [.ref q1, .ref q2, .null])), (q1, .inl (CA 0, 4, .inl (fun _ => 0))), (q2, .inl (CA 0, 4, .inl (fun _ => 0)))] := hD
  refine lv_aload_n hx hb di_4_18 rfl (lv_at hl 0 rfl) ?_
  refine va_get hx hb hts (u8_in 0 (by decide)) hown hK hP 0 rfl (clA_at 0 (by decide)) 0 (by decide) (hts _ wc_7) (fun z h => h) rfl di_4_19 ?_
  refine lv_sipush hx hb di_4_22 cs_1000 ?_
  have hP := hP.sub (ws' := [(h, .inr (0, [.ref q1, .ref q2, .null])), (q2, .inl (CA 0, 4, .inl (fun _ => 0))), (q1, .inl (CA 0, 4, .inl (fun _ => 0)))]) [0, 2, 1] rfl
  have hD := hD.sub (ws' := [(h, .inr (0, [.ref q1, .ref q2, .null])), (q2, .inl (CA 0, 4, .inl (fun _ => 0))), (q1, .inl (CA 0, 4, .inl (fun _ => 0)))]) [0, 2, 1] (by decide) rfl
  have hY9 := hP.sub (ws' := [(q1, .inl (CA 0, 4, .inl (fun _ => 0)))]) [2] rfl
  refine ct_callS (rest := []) (As := [.ref q1, .int (1000 : Int32)]) hx hb hml hown hts (c_fill hT hK0 q1 4 (by decide) (1000 : Int32) (fun _ => 0)) wc_9 wc_10 wc_11 wc_12 ⟨by decide, by decide⟩ (show (parseMethodDescriptor "([II)V").map (fun d => d.parameters.length) = some 2 by decide +kernel) ⟨rfl, rfl, by decide, by decide⟩ hW (ct_old hAo ho hS) hY9 hl.1 rfl rfl di_4_25 ⟨by decide, by decide⟩ hS (fun q _ h => h ▸ hD.2 2 _ rfl) (fun q h => h ▸ hD.2 2 _ rfl) (fun H1 locs1 hX _ hk hS1 => ?_)
  have hP1 := ct_join (ws := [(h, .inr (0, [.ref q1, .ref q2, .null])), (q2, .inl (CA 0, 4, .inl (fun _ => 0)))]) (d := q1) (hP.sub [0, 1] rfl) hk (ct_ne (ws := [(h, .inr (0, [.ref q1, .ref q2, .null])), (q2, .inl (CA 0, 4, .inl (fun _ => 0)))]) hD) hX
  have hD1 := ct_Dmap (ws' := [(h, .inr (0, [.ref q1, .ref q2, .null])), (q2, .inl (CA 0, 4, .inl (fun _ => 0))), (q1, .inl (CA 0, 4, .inl (fun j => if j < 4 then (1000 : Int32) else ((fun _ => 0)) j)))]) hD rfl
  have hP := hP1
  have hD := hD1
  have hS := hS1
  clear hP1 hD1 hS1 hk hX hY9
  have hP : va_P D clA [(h, .inr (0, [.ref q1, .ref q2, .null])), (q2, .inl (CA 0, 4, .inl (fun _ => 0))), (q1, .inl (CA 0, 4, .inl (fun j => if j < 4 then (1000 : Int32) else ((fun _ => 0)) j)))] H1 := hP
  have hD : va_D A [(h, .inr (0, [.ref q1, .ref q2, .null])), (q2, .inl (CA 0, 4, .inl (fun _ => 0))), (q1, .inl (CA 0, 4, .inl (fun j => if j < 4 then (1000 : Int32) else ((fun _ => 0)) j)))] := hD
  obtain ⟨H, hHe⟩ : ∃ z, z = H1 := ⟨_, rfl⟩
  rw [← hHe] at hP hS ⊢
  clear hHe
  refine lv_aload_n hx hb di_4_28 rfl (lv_at hl 0 rfl) ?_
  refine va_get hx hb hts (u8_in 0 (by decide)) hown hK hP 0 rfl (clA_at 0 (by decide)) 1 (by decide) (hts _ wc_8) (fun z h => h) rfl di_4_29 ?_
  refine lv_sipush hx hb di_4_32 cs_1000 ?_
  have hP := hP.sub (ws' := [(h, .inr (0, [.ref q1, .ref q2, .null])), (q1, .inl (CA 0, 4, .inl (fun j => if j < 4 then (1000 : Int32) else ((fun _ => 0)) j))), (q2, .inl (CA 0, 4, .inl (fun _ => 0)))]) [0, 2, 1] rfl
  have hD := hD.sub (ws' := [(h, .inr (0, [.ref q1, .ref q2, .null])), (q1, .inl (CA 0, 4, .inl (fun j => if j < 4 then (1000 : Int32) else ((fun _ => 0)) j))), (q2, .inl (CA 0, 4, .inl (fun _ => 0)))]) [0, 2, 1] (by decide) rfl
  have hY9 := hP.sub (ws' := [(q2, .inl (CA 0, 4, .inl (fun _ => 0)))]) [2] rfl
  refine ct_callS (rest := []) (As := [.ref q2, .int (1000 : Int32)]) hx hb hml hown hts (c_fill hT hK0 q2 4 (by decide) (1000 : Int32) (fun _ => 0)) wc_9 wc_10 wc_11 wc_12 ⟨by decide, by decide⟩ (show (parseMethodDescriptor "([II)V").map (fun d => d.parameters.length) = some 2 by decide +kernel) ⟨rfl, rfl, by decide, by decide⟩ hW (ct_old hAo ho hS) hY9 hl.1 rfl rfl di_4_35 ⟨by decide, by decide⟩ hS (fun q _ h => h ▸ hD.2 2 _ rfl) (fun q h => h ▸ hD.2 2 _ rfl) (fun H1 locs1 hX _ hk hS1 => ?_)
  have hP1 := ct_join (ws := [(h, .inr (0, [.ref q1, .ref q2, .null])), (q1, .inl (CA 0, 4, .inl (fun j => if j < 4 then (1000 : Int32) else ((fun _ => 0)) j)))]) (d := q2) (hP.sub [0, 1] rfl) hk (ct_ne (ws := [(h, .inr (0, [.ref q1, .ref q2, .null])), (q1, .inl (CA 0, 4, .inl (fun j => if j < 4 then (1000 : Int32) else ((fun _ => 0)) j)))]) hD) hX
  have hD1 := ct_Dmap (ws' := [(h, .inr (0, [.ref q1, .ref q2, .null])), (q1, .inl (CA 0, 4, .inl (fun j => if j < 4 then (1000 : Int32) else ((fun _ => 0)) j))), (q2, .inl (CA 0, 4, .inl (fun j => if j < 4 then (1000 : Int32) else ((fun _ => 0)) j)))]) hD rfl
  have hP := hP1
  have hD := hD1
  have hS := hS1
  clear hP1 hD1 hS1 hk hX hY9
  have hP : va_P D clA [(h, .inr (0, [.ref q1, .ref q2, .null])), (q1, .inl (CA 0, 4, .inl (fun j => if j < 4 then (1000 : Int32) else ((fun _ => 0)) j))), (q2, .inl (CA 0, 4, .inl (fun j => if j < 4 then (1000 : Int32) else ((fun _ => 0)) j)))] H1 := hP
  have hD : va_D A [(h, .inr (0, [.ref q1, .ref q2, .null])), (q1, .inl (CA 0, 4, .inl (fun j => if j < 4 then (1000 : Int32) else ((fun _ => 0)) j))), (q2, .inl (CA 0, 4, .inl (fun j => if j < 4 then (1000 : Int32) else ((fun _ => 0)) j)))] := hD
  obtain ⟨H, hHe⟩ : ∃ z, z = H1 := ⟨_, rfl⟩
  rw [← hHe] at hP hS ⊢
  clear hHe
  refine lv_aload_n hx hb di_4_38 rfl (lv_at hl 0 rfl) ?_
  refine va_new hx hb hts (u8_in 2 (by decide)) (tyf 2) (ty8_ok 2 (by decide)) hown (hts _ wc_13) (hts _ wc_14) (hts _ wc_15) hK hP hD hS hA (clA_at 2 (by decide)) (fs := [.null, .int 0]) (by decide +kernel) (by decide) (by decide) di_4_39 (fun q3 H hP hD hS => ?_)
  have hP : va_P D clA [(h, .inr (0, [.ref q1, .ref q2, .null])), (q1, .inl (CA 0, 4, .inl (fun j => if j < 4 then (1000 : Int32) else ((fun _ => 0)) j))), (q2, .inl (CA 0, 4, .inl (fun j => if j < 4 then (1000 : Int32) else ((fun _ => 0)) j))), (q3, .inr (2, [.null, .int 0]))] H := hP
  have hD : va_D A [(h, .inr (0, [.ref q1, .ref q2, .null])), (q1, .inl (CA 0, 4, .inl (fun j => if j < 4 then (1000 : Int32) else ((fun _ => 0)) j))), (q2, .inl (CA 0, 4, .inl (fun j => if j < 4 then (1000 : Int32) else ((fun _ => 0)) j))), (q3, .inr (2, [.null, .int 0]))] := hD
  refine lv_dup hx hb di_4_42 rfl ?_
  have hY9 := hP.sub (ws' := [(q3, .inr (2, [.null, .int 0]))]) [3] rfl
  refine ct_callI (rest := [.ref q3, .ref h]) (As := []) hx hb hml hown hts (c_mid hT hK0 q3 H.size (hAo _ (hD.2 3 _ rfl))) wc_17 wc_15 wc_18 wc_16 ⟨by decide, by decide⟩ rfl (show (parseMethodDescriptor "()V").map (fun d => d.parameters.length) = some 0 by decide +kernel) ⟨rfl, rfl, by decide, by decide⟩ hW (ct_old hAo ho hS) ⟨rfl, hY9⟩ hl.1 rfl rfl di_4_43 ⟨by decide, by decide⟩ hS (fun q _ h => h ▸ hD.2 3 _ rfl) (fun q h => h.elim (fun h => h ▸ hD.2 3 _ rfl) (fun h => hA q (Nat.le_trans hS.1 h))) (fun H1 locs1 hX _ hk hS1 => ?_)
  obtain ⟨mq1, hP2, hD2⟩ := hX
  have hD1 := ct_Dapp (ws := [(h, .inr (0, [.ref q1, .ref q2, .null])), (q1, .inl (CA 0, 4, .inl (fun j => if j < 4 then (1000 : Int32) else ((fun _ => 0)) j))), (q2, .inl (CA 0, 4, .inl (fun j => if j < 4 then (1000 : Int32) else ((fun _ => 0)) j)))]) hD hP hS hA hD2
  have hP1 := ct_join (ws := [(h, .inr (0, [.ref q1, .ref q2, .null])), (q1, .inl (CA 0, 4, .inl (fun j => if j < 4 then (1000 : Int32) else ((fun _ => 0)) j))), (q2, .inl (CA 0, 4, .inl (fun j => if j < 4 then (1000 : Int32) else ((fun _ => 0)) j)))]) (d := q3) (hP.sub [0, 1, 2] rfl) hk (ct_ne (ws := [(h, .inr (0, [.ref q1, .ref q2, .null])), (q1, .inl (CA 0, 4, .inl (fun j => if j < 4 then (1000 : Int32) else ((fun _ => 0)) j))), (q2, .inl (CA 0, 4, .inl (fun j => if j < 4 then (1000 : Int32) else ((fun _ => 0)) j)))]) hD) hP2
  clear hP hD hS hP2 hD2 hk hY9
  have hP := hP1
  have hD := hD1
  have hS := hS1
  clear hP1 hD1 hS1
  have hP : va_P D clA [(h, .inr (0, [.ref q1, .ref q2, .null])), (q1, .inl (CA 0, 4, .inl (fun j => if j < 4 then (1000 : Int32) else ((fun _ => 0)) j))), (q2, .inl (CA 0, 4, .inl (fun j => if j < 4 then (1000 : Int32) else ((fun _ => 0)) j))), (q3, .inr (2, [.ref mq1, .int (1 : Int32)])), (mq1, .inl (CA 0, 5, .inl (fun _ => 0)))] H1 := hP
  have hD : va_D A [(h, .inr (0, [.ref q1, .ref q2, .null])), (q1, .inl (CA 0, 4, .inl (fun j => if j < 4 then (1000 : Int32) else ((fun _ => 0)) j))), (q2, .inl (CA 0, 4, .inl (fun j => if j < 4 then (1000 : Int32) else ((fun _ => 0)) j))), (q3, .inr (2, [.ref mq1, .int (1 : Int32)])), (mq1, .inl (CA 0, 5, .inl (fun _ => 0)))] := hD
  obtain ⟨H, hHe⟩ : ∃ z, z = H1 := ⟨_, rfl⟩
  rw [← hHe] at hP hS ⊢
  clear hHe
  refine va_putF (v := .ref q3) hx hb hts (u8_in 0 (by decide)) (tyf 0) (ty8_ok 0 (by decide)) (nm8_ok 0 (by decide)) hown hK hP hD hS 0 rfl (clA_at 0 (by decide)) 2 (by decide) (hts _ wc_19) (fun z h => h) rfl hnm rfl (ty8_ok 0 (by decide) 2 (by decide)) rfl rfl (Nat.lt_of_succ_le (Nat.le_of_ble_eq_true rfl)) di_4_46 (fun H locs hP hD hS => ?_)
  have hP : va_P D clA [(h, .inr (0, [.ref q1, .ref q2, .ref q3])), (q1, .inl (CA 0, 4, .inl (fun j => if j < 4 then (1000 : Int32) else ((fun _ => 0)) j))), (q2, .inl (CA 0, 4, .inl (fun j => if j < 4 then (1000 : Int32) else ((fun _ => 0)) j))), (q3, .inr (2, [.ref mq1, .int (1 : Int32)])), (mq1, .inl (CA 0, 5, .inl (fun _ => 0)))] H := hP
  have hD : va_D A [(h, .inr (0, [.ref q1, .ref q2, .ref q3])), (q1, .inl (CA 0, 4, .inl (fun j => if j < 4 then (1000 : Int32) else ((fun _ => 0)) j))), (q2, .inl (CA 0, 4, .inl (fun j => if j < 4 then (1000 : Int32) else ((fun _ => 0)) j))), (q3, .inr (2, [.ref mq1, .int (1 : Int32)])), (mq1, .inl (CA 0, 5, .inl (fun _ => 0)))] := hD
  subst hAd
  have hP := hP.sub (ws' := [(h, .inr (0, [.ref q1, .ref q2, .ref q3])), (q1, .inl (CA 0, 4, .inl (fun j => if j < 4 then (1000 : Int32) else ((fun _ => 0)) j))), (q2, .inl (CA 0, 4, .inl (fun j => if j < 4 then (1000 : Int32) else ((fun _ => 0)) j))), (q3, .inr (2, [.ref mq1, .int (1 : Int32)])), (mq1, .inl (CA 0, 5, .inl (fun _ => 0)))]) [0, 1, 2, 3, 4] rfl
  have hD := hD.sub (ws' := [(h, .inr (0, [.ref q1, .ref q2, .ref q3])), (q1, .inl (CA 0, 4, .inl (fun j => if j < 4 then (1000 : Int32) else ((fun _ => 0)) j))), (q2, .inl (CA 0, 4, .inl (fun j => if j < 4 then (1000 : Int32) else ((fun _ => 0)) j))), (q3, .inr (2, [.ref mq1, .int (1 : Int32)])), (mq1, .inl (CA 0, 5, .inl (fun _ => 0)))]) [0, 1, 2, 3, 4] (by decide) rfl
  exact W.vret hx hb hr (fun t ht _ => ⟨rfl, ct_F hS ht, q1, q2, q3, mq1, by rw [ht]; exact hP, hD⟩) (fun q hq => hS.2.2 q hq) di_4_49 hlk
theorem wc_20 : Cond.methodLink "SlotBus$Node" 3 ⟨"java/lang/Object", "<init>", "()V"⟩ ∈ TBL := tbm (i := 66) (by decide +kernel) (by decide +kernel)
theorem wc_21 : Cond.fieldLink "SlotBus$Node" 9 "SlotBus$Node" "index" "I" ∈ TBL := tbm (i := 176) (by decide +kernel) (by decide +kernel)
theorem wc_22 : Cond.fieldLink "SlotBus$Node" 15 "SlotBus$Node" "slowness" "I" ∈ TBL := tbm (i := 177) (by decide +kernel) (by decide +kernel)
theorem wc_23 : Cond.classLink "SlotBus$Node" 18 "SlotBus$Timer" ∈ TBL := tbm (i := 67) (by decide +kernel) (by decide +kernel)
theorem wc_24 : Cond.instantiable "SlotBus$Timer" 5 ∈ TBL := tbm (i := 68) (by decide +kernel) (by decide +kernel)
theorem wc_25 : Cond.initialized "SlotBus$Timer" ∈ TBL := tbm (i := 38) (by decide +kernel) (by decide +kernel)
theorem wc_26 : Cond.methodLinkNest "SlotBus$Node" 20 ⟨"SlotBus$Timer", "<init>", "()V"⟩ "SlotBus" ∈ lw_tbl := List.mem_of_getElem? (i := 69) (by decide +kernel)
theorem wc_27 : Cond.code ⟨"SlotBus$Timer", "<init>", "()V"⟩ prog_7_method_1_code 1 none ∈ TBL := tbm (i := 71) (by decide +kernel) (by decide +kernel)
theorem wc_28 : Cond.instanceMethod ⟨"SlotBus$Timer", "<init>", "()V"⟩ ∈ TBL := tbm (i := 70) (by decide +kernel) (by decide +kernel)
theorem wc_29 : Cond.methodLink "SlotBus$Timer" 1 ⟨"java/lang/Object", "<init>", "()V"⟩ ∈ TBL := tbm (i := 72) (by decide +kernel) (by decide +kernel)
theorem wc_30 : Cond.fieldLink "SlotBus$Node" 21 "SlotBus$Node" "timer" "LSlotBus$Timer;" ∈ TBL := tbm (i := 178) (by decide +kernel) (by decide +kernel)
theorem wc_31 : Cond.classLink "SlotBus$Node" 25 "SlotBus$Search" ∈ TBL := tbm (i := 95) (by decide +kernel) (by decide +kernel)
theorem wc_32 : Cond.instantiable "SlotBus$Search" 4 ∈ TBL := tbm (i := 96) (by decide +kernel) (by decide +kernel)
theorem wc_33 : Cond.initialized "SlotBus$Search" ∈ TBL := tbm (i := 39) (by decide +kernel) (by decide +kernel)
theorem wc_34 : Cond.methodLinkNest "SlotBus$Node" 27 ⟨"SlotBus$Search", "<init>", "()V"⟩ "SlotBus" ∈ lw_tbl := List.mem_of_getElem? (i := 97) (by decide +kernel)
theorem wc_35 : Cond.code ⟨"SlotBus$Search", "<init>", "()V"⟩ prog_6_method_1_code 1 none ∈ TBL := tbm (i := 99) (by decide +kernel) (by decide +kernel)
theorem wc_36 : Cond.instanceMethod ⟨"SlotBus$Search", "<init>", "()V"⟩ ∈ TBL := tbm (i := 98) (by decide +kernel) (by decide +kernel)
theorem wc_37 : Cond.methodLink "SlotBus$Search" 1 ⟨"java/lang/Object", "<init>", "()V"⟩ ∈ TBL := tbm (i := 100) (by decide +kernel) (by decide +kernel)
theorem wc_38 : Cond.fieldLink "SlotBus$Node" 28 "SlotBus$Node" "search" "LSlotBus$Search;" ∈ TBL := tbm (i := 180) (by decide +kernel) (by decide +kernel)
theorem wc_39 : Cond.classLink "SlotBus$Node" 32 "SlotBus$Deviations" ∈ TBL := tbm (i := 116) (by decide +kernel) (by decide +kernel)
theorem wc_40 : Cond.instantiable "SlotBus$Deviations" 3 ∈ TBL := tbm (i := 117) (by decide +kernel) (by decide +kernel)
theorem wc_41 : Cond.initialized "SlotBus$Deviations" ∈ TBL := tbm (i := 40) (by decide +kernel) (by decide +kernel)
theorem wc_42 : Cond.methodLink "SlotBus$Node" 34 ⟨"SlotBus$Deviations", "<init>", "()V"⟩ ∈ TBL := tbm (i := 118) (by decide +kernel) (by decide +kernel)
theorem wc_43 : Cond.code ⟨"SlotBus$Deviations", "<init>", "()V"⟩ prog_2_method_1_code 1 none ∈ TBL := tbm (i := 120) (by decide +kernel) (by decide +kernel)
theorem wc_44 : Cond.instanceMethod ⟨"SlotBus$Deviations", "<init>", "()V"⟩ ∈ TBL := tbm (i := 119) (by decide +kernel) (by decide +kernel)
theorem wc_45 : Cond.fieldLink "SlotBus$Node" 35 "SlotBus$Node" "deviations" "LSlotBus$Deviations;" ∈ TBL := tbm (i := 181) (by decide +kernel) (by decide +kernel)
theorem wc_46 : Cond.classLink "SlotBus$Node" 39 "SlotBus$Message" ∈ TBL := tbm (i := 149) (by decide +kernel) (by decide +kernel)
theorem wc_47 : Cond.instantiable "SlotBus$Message" 5 ∈ TBL := tbm (i := 150) (by decide +kernel) (by decide +kernel)
theorem wc_48 : Cond.initialized "SlotBus$Message" ∈ TBL := tbm (i := 43) (by decide +kernel) (by decide +kernel)
theorem wc_49 : Cond.methodLinkNest "SlotBus$Node" 41 ⟨"SlotBus$Message", "<init>", "()V"⟩ "SlotBus" ∈ lw_tbl := List.mem_of_getElem? (i := 151) (by decide +kernel)
theorem wc_50 : Cond.code ⟨"SlotBus$Message", "<init>", "()V"⟩ prog_3_method_1_code 1 none ∈ TBL := tbm (i := 153) (by decide +kernel) (by decide +kernel)
theorem wc_51 : Cond.instanceMethod ⟨"SlotBus$Message", "<init>", "()V"⟩ ∈ TBL := tbm (i := 152) (by decide +kernel) (by decide +kernel)
theorem wc_52 : Cond.methodLink "SlotBus$Message" 1 ⟨"java/lang/Object", "<init>", "()V"⟩ ∈ TBL := tbm (i := 154) (by decide +kernel) (by decide +kernel)
theorem wc_53 : Cond.fieldLink "SlotBus$Node" 42 "SlotBus$Node" "message" "LSlotBus$Message;" ∈ TBL := tbm (i := 183) (by decide +kernel) (by decide +kernel)
theorem wc_54 : Cond.fieldLink "SlotBus$Node" 46 "SlotBus$Node" "received" "[I" ∈ TBL := tbm (i := 185) (by decide +kernel) (by decide +kernel)
theorem wc_55 : Cond.methodLink "SlotBus$Node" 50 ⟨"java/util/Arrays", "fill", "([II)V"⟩ ∈ TBL := tbm (i := 175) (by decide +kernel) (by decide +kernel)
set_option maxHeartbeats 4000000 in
set_option maxRecDepth 100000 in
theorem c_node (hT : ∀ w ∈ lw_tbl, w.before a0 s0 = true) (hK0 : va_K D clA (tyA CA) s0) (h : Nat) (ix : Int32) (sl : Int32) (sz : Nat) (hh : s0.heap.size ≤ h) : Met l ⟨"SlotBus$Node", "<init>", "(II)V"⟩ [.code ⟨"SlotBus$Node", "<init>", "(II)V"⟩ prog_5_method_1_code 3 none] { frames := 3, cells := 9, slots := 42, locals := 90 } (ctP s0 [.ref h, .int ix, .int sl] (fun H => H.size = sz ∧ va_P D clA [(h, .inr (3, [.int 0, .int 0, .null, .null, .null, .null, .null, .int 0, .int 0, .int 0, .int 0, .int 0, .int 0]))] H)) (ctQ (fun q => q = h) (fun H H1 => ∃ tq sq dq eq oq mq iq gq rq, va_P D clA [(h, .inr (3, [.int ix, .int sl, .ref tq, .ref sq, .ref dq, .ref gq, .ref rq, .int 0, .int 0, .int 0, .int 0, .int 0, .int 0])), (tq, .inr (5, [.int 0, .int 0, .int 0, .int 0, .int 0])), (sq, .inr (4, [.int 0, .int 0, .int 0, .int 0])), (dq, .inr (0, [.ref eq, .ref oq, .ref mq])), (eq, .inl (CA 0, 4, .inl (fun j => if j < 4 then (1000 : Int32) else (fun _ => 0) j))), (oq, .inl (CA 0, 4, .inl (fun j => if j < 4 then (1000 : Int32) else (fun _ => 0) j))), (mq, .inr (2, [.ref iq, .int (1 : Int32)])), (iq, .inl (CA 0, 5, .inl (fun _ => 0))), (gq, .inr (1, [.int 0, .int 0, .int 0, .int 0, .int 0])), (rq, .inl (CA 0, 10, .inl (fun j => if j < 10 then (-1 : Int32) else (fun _ => 0) j)))] H1 ∧ va_D (fun z => z = h ∨ H.size ≤ z) [(h, .inr (3, [.int ix, .int sl, .ref tq, .ref sq, .ref dq, .ref gq, .ref rq, .int 0, .int 0, .int 0, .int 0, .int 0, .int 0])), (tq, .inr (5, [.int 0, .int 0, .int 0, .int 0, .int 0])), (sq, .inr (4, [.int 0, .int 0, .int 0, .int 0])), (dq, .inr (0, [.ref eq, .ref oq, .ref mq])), (eq, .inl (CA 0, 4, .inl (fun j => if j < 4 then (1000 : Int32) else (fun _ => 0) j))), (oq, .inl (CA 0, 4, .inl (fun j => if j < 4 then (1000 : Int32) else (fun _ => 0) j))), (mq, .inr (2, [.ref iq, .int (1 : Int32)])), (iq, .inl (CA 0, 5, .inl (fun _ => 0))), (gq, .inr (1, [.int 0, .int 0, .int 0, .int 0, .int 0])), (rq, .inl (CA 0, 10, .inl (fun j => if j < 10 then (-1 : Int32) else (fun _ => 0) j)))])) 9 42 (fun q => q = h ∨ sz ≤ q) := by
  refine ct_of (by decide) (Nat.le_of_ble_eq_true rfl) ?_
  intro p e s m below meth c ls hx hb hr hml hown hlk hnm hW ho hY hl
  obtain ⟨rfl, hP⟩ := hY
  have hts : ∀ w ∈ TBL, w.before ([.ref h, .int ix, .int sl] : List Value).toArray s = true := tb_at hT hW
  have hK : va_K D clA (tyA CA) s := va_K.moved hW.alike hK0
  obtain ⟨A, hAd⟩ : ∃ A : Nat → Prop, A = fun q => q = h ∨ s.heap.size ≤ q := ⟨_, rfl⟩
  have hA : ∀ q : Nat, s.heap.size ≤ q → A q := fun q z => by rw [hAd]; exact Or.inr z
  have hAo : ∀ q, A q → s0.heap.size ≤ q := fun q z => by rw [hAd] at z; rcases z with z | z; rw [z]; exact hh; exact Nat.le_trans ho.1 z
  have hD : va_D A [(h, .inr (3, [.int 0, .int 0, .null, .null, .null, .null, .null, .int 0, .int 0, .int 0, .int 0, .int 0, .int 0]))] := ct_D1 (by rw [hAd]; exact Or.inl rfl)
  have hS : va_S A s.heap s.heap [] := ⟨Nat.le_refl _, fun _ _ _ => rfl, fun _ h => by cases h⟩
  have hl : lv_has ls 3 [(0, .ref h), (1, .int ix), (2, .int sl)] := hl
  refine lv_aload_n hx hb di_1_0 rfl (lv_at hl 0 rfl) ?_
  refine W.objInit hx hb hown (hts _ wc_20) (hts _ wc_1) (hts _ wc_2) rfl (by rw [hml]; exact hl.1) rfl di_1_1 (Nat.le_of_ble_eq_true rfl) (Nat.le_of_ble_eq_true rfl) ?_
  refine W.eq (g2 := F0 m 4 ls []) rfl ?_
  refine lv_aload_n hx hb di_1_4 rfl (lv_at hl 0 rfl) ?_
  refine lv_iload_n hx hb di_1_5 rfl (lv_at hl 1 rfl) ?_
  refine va_putF (v := .int ix) hx hb hts (u8_in 3 (by decide)) (tyf 3) (ty8_ok 3 (by decide)) (nm8_ok 3 (by decide)) hown hK hP hD hS 0 rfl (clA_at 3 (by decide)) 0 (by decide) (hts _ wc_21) (fun z h => h) rfl hnm rfl (ty8_ok 3 (by decide) 0 (by decide)) rfl rfl (Nat.lt_of_succ_le (Nat.le_of_ble_eq_true rfl)) di_1_6 (fun H locs hP hD hS => ?_)
  have hP : va_P D clA [(h, .inr (3, [.int ix, .int 0, .null, .null, .null, .null, .null, .int 0, .int 0, .int 0, .int 0, .int 0, .int 0]))] H := hP
  have hD : va_D A [(h, .inr (3, [.int ix, .int 0, .null, .null, .null, .null, .null, .int 0, .int 0, .int 0, .int 0, .int 0, .int 0]))] := hD
  refine lv_aload_n hx hb di_1_9 rfl (lv_at hl 0 rfl) ?_
  refine lv_iload_n hx hb di_1_10 rfl (lv_at hl 2 rfl) ?_
  refine va_putF (v := .int sl) hx hb hts (u8_in 3 (by decide)) (tyf 3) (ty8_ok 3 (by decide)) (nm8_ok 3 (by decide)) hown hK hP hD hS 0 rfl (clA_at 3 (by decide)) 1 (by decide) (hts _ wc_22) (fun z h => h) rfl hnm rfl (ty8_ok 3 (by decide) 1 (by decide)) rfl rfl (Nat.lt_of_succ_le (Nat.le_of_ble_eq_true rfl)) di_1_11 (fun H locs hP hD hS => ?_)
  have hP : va_P D clA [(h, .inr (3, [.int ix, .int sl, .null, .null, .null, .null, .null, .int 0, .int 0, .int 0, .int 0, .int 0, .int 0]))] H := hP
  have hD : va_D A [(h, .inr (3, [.int ix, .int sl, .null, .null, .null, .null, .null, .int 0, .int 0, .int 0, .int 0, .int 0, .int 0]))] := hD
  refine lv_aload_n hx hb di_1_14 rfl (lv_at hl 0 rfl) ?_
  refine va_new hx hb hts (u8_in 5 (by decide)) (tyf 5) (ty8_ok 5 (by decide)) hown (hts _ wc_23) (hts _ wc_24) (hts _ wc_25) hK hP hD hS hA (clA_at 5 (by decide)) (fs := [.int 0, .int 0, .int 0, .int 0, .int 0]) (by decide +kernel) (by decide) (by decide) di_1_15 (fun q1 H hP hD hS => ?_)
  have hP : va_P D clA [(h, .inr (3, [.int ix, .int sl, .null, .null, .null, .null, .null, .int 0, .int 0, .int 0, .int 0, .int 0, .int 0])), (q1, .inr (5, [.int 0, .int 0, .int 0, .int 0, .int 0]))] H := hP
  have hD : va_D A [(h, .inr (3, [.int ix, .int sl, .null, .null, .null, .null, .null, .int 0, .int 0, .int 0, .int 0, .int 0, .int 0])), (q1, .inr (5, [.int 0, .int 0, .int 0, .int 0, .int 0]))] := hD
  refine lv_dup hx hb di_1_18 rfl ?_
  refine ct_callIN (rest := [.ref q1, .ref h]) (As := []) hT hx hb hml hown hts (c_triv hT (y := ⟨"SlotBus$Timer", "<init>", "()V"⟩) (bytes := prog_7_method_1_code) (idx := 1) (by decide) wc_29 wc_1 wc_2 di_2_0 di_2_1 di_2_4 q1) wc_27 wc_25 wc_28 wc_26 ⟨by decide, by decide⟩ rfl (show (parseMethodDescriptor "()V").map (fun d => d.parameters.length) = some 0 by decide +kernel) ⟨rfl, rfl, by decide, by decide⟩ hW (ct_old hAo ho hS) trivial hl.1 rfl rfl di_1_19 ⟨by decide, by decide⟩ hS (fun _ _ h => h.elim) (fun _ h => h.elim) (fun H1 locs1 hX _ _ hS1 => ?_)
  have hP : va_P D clA [(h, .inr (3, [.int ix, .int sl, .null, .null, .null, .null, .null, .int 0, .int 0, .int 0, .int 0, .int 0, .int 0])), (q1, .inr (5, [.int 0, .int 0, .int 0, .int 0, .int 0]))] H1 := by rw [hX]; exact hP
  have hS := hS1
  clear hS1 hX
  have hP : va_P D clA [(h, .inr (3, [.int ix, .int sl, .null, .null, .null, .null, .null, .int 0, .int 0, .int 0, .int 0, .int 0, .int 0])), (q1, .inr (5, [.int 0, .int 0, .int 0, .int 0, .int 0]))] H1 := hP
  have hD : va_D A [(h, .inr (3, [.int ix, .int sl, .null, .null, .null, .null, .null, .int 0, .int 0, .int 0, .int 0, .int 0, .int 0])), (q1, .inr (5, [.int 0, .int 0, .int 0, .int 0, .int 0]))] := hD
  obtain ⟨H, hHe⟩ : ∃ z, z = H1 := ⟨_, rfl⟩
  rw [← hHe] at hP hS ⊢
  clear hHe
  refine va_putF (v := .ref q1) hx hb hts (u8_in 3 (by decide)) (tyf 3) (ty8_ok 3 (by decide)) (nm8_ok 3 (by decide)) hown hK hP hD hS 0 rfl (clA_at 3 (by decide)) 2 (by decide) (hts _ wc_30) (fun z h => h) rfl hnm rfl (ty8_ok 3 (by decide) 2 (by decide)) rfl rfl (Nat.lt_of_succ_le (Nat.le_of_ble_eq_true rfl)) di_1_22 (fun H locs hP hD hS => ?_)
  have hP : va_P D clA [(h, .inr (3, [.int ix, .int sl, .ref q1, .null, .null, .null, .null, .int 0, .int 0, .int 0, .int 0, .int 0, .int 0])), (q1, .inr (5, [.int 0, .int 0, .int 0, .int 0, .int 0]))] H := hP
  have hD : va_D A [(h, .inr (3, [.int ix, .int sl, .ref q1, .null, .null, .null, .null, .int 0, .int 0, .int 0, .int 0, .int 0, .int 0])), (q1, .inr (5, [.int 0, .int 0, .int 0, .int 0, .int 0]))] := hD
  refine lv_aload_n hx hb di_1_25 rfl (lv_at hl 0 rfl) ?_
  refine va_new hx hb hts (u8_in 4 (by decide)) (tyf 4) (ty8_ok 4 (by decide)) hown (hts _ wc_31) (hts _ wc_32) (hts _ wc_33) hK hP hD hS hA (clA_at 4 (by decide)) (fs := [.int 0, .int 0, .int 0, .int 0]) (by decide +kernel) (by decide) (by decide) di_1_26 (fun q2 H hP hD hS => ?_)
  have hP : va_P D clA [(h, .inr (3, [.int ix, .int sl, .ref q1, .null, .null, .null, .null, .int 0, .int 0, .int 0, .int 0, .int 0, .int 0])), (q1, .inr (5, [.int 0, .int 0, .int 0, .int 0, .int 0])), (q2, .inr (4, [.int 0, .int 0, .int 0, .int 0]))] H := hP
  have hD : va_D A [(h, .inr (3, [.int ix, .int sl, .ref q1, .null, .null, .null, .null, .int 0, .int 0, .int 0, .int 0, .int 0, .int 0])), (q1, .inr (5, [.int 0, .int 0, .int 0, .int 0, .int 0])), (q2, .inr (4, [.int 0, .int 0, .int 0, .int 0]))] := hD
  refine lv_dup hx hb di_1_29 rfl ?_
  refine ct_callIN (rest := [.ref q2, .ref h]) (As := []) hT hx hb hml hown hts (c_triv hT (y := ⟨"SlotBus$Search", "<init>", "()V"⟩) (bytes := prog_6_method_1_code) (idx := 1) (by decide) wc_37 wc_1 wc_2 di_3_0 di_3_1 di_3_4 q2) wc_35 wc_33 wc_36 wc_34 ⟨by decide, by decide⟩ rfl (show (parseMethodDescriptor "()V").map (fun d => d.parameters.length) = some 0 by decide +kernel) ⟨rfl, rfl, by decide, by decide⟩ hW (ct_old hAo ho hS) trivial hl.1 rfl rfl di_1_30 ⟨by decide, by decide⟩ hS (fun _ _ h => h.elim) (fun _ h => h.elim) (fun H1 locs1 hX _ _ hS1 => ?_)
  have hP : va_P D clA [(h, .inr (3, [.int ix, .int sl, .ref q1, .null, .null, .null, .null, .int 0, .int 0, .int 0, .int 0, .int 0, .int 0])), (q1, .inr (5, [.int 0, .int 0, .int 0, .int 0, .int 0])), (q2, .inr (4, [.int 0, .int 0, .int 0, .int 0]))] H1 := by rw [hX]; exact hP
  have hS := hS1
  clear hS1 hX
  have hP : va_P D clA [(h, .inr (3, [.int ix, .int sl, .ref q1, .null, .null, .null, .null, .int 0, .int 0, .int 0, .int 0, .int 0, .int 0])), (q1, .inr (5, [.int 0, .int 0, .int 0, .int 0, .int 0])), (q2, .inr (4, [.int 0, .int 0, .int 0, .int 0]))] H1 := hP
  have hD : va_D A [(h, .inr (3, [.int ix, .int sl, .ref q1, .null, .null, .null, .null, .int 0, .int 0, .int 0, .int 0, .int 0, .int 0])), (q1, .inr (5, [.int 0, .int 0, .int 0, .int 0, .int 0])), (q2, .inr (4, [.int 0, .int 0, .int 0, .int 0]))] := hD
  obtain ⟨H, hHe⟩ : ∃ z, z = H1 := ⟨_, rfl⟩
  rw [← hHe] at hP hS ⊢
  clear hHe
  refine va_putF (v := .ref q2) hx hb hts (u8_in 3 (by decide)) (tyf 3) (ty8_ok 3 (by decide)) (nm8_ok 3 (by decide)) hown hK hP hD hS 0 rfl (clA_at 3 (by decide)) 3 (by decide) (hts _ wc_38) (fun z h => h) rfl hnm rfl (ty8_ok 3 (by decide) 3 (by decide)) rfl rfl (Nat.lt_of_succ_le (Nat.le_of_ble_eq_true rfl)) di_1_33 (fun H locs hP hD hS => ?_)
  have hP : va_P D clA [(h, .inr (3, [.int ix, .int sl, .ref q1, .ref q2, .null, .null, .null, .int 0, .int 0, .int 0, .int 0, .int 0, .int 0])), (q1, .inr (5, [.int 0, .int 0, .int 0, .int 0, .int 0])), (q2, .inr (4, [.int 0, .int 0, .int 0, .int 0]))] H := hP
  have hD : va_D A [(h, .inr (3, [.int ix, .int sl, .ref q1, .ref q2, .null, .null, .null, .int 0, .int 0, .int 0, .int 0, .int 0, .int 0])), (q1, .inr (5, [.int 0, .int 0, .int 0, .int 0, .int 0])), (q2, .inr (4, [.int 0, .int 0, .int 0, .int 0]))] := hD
  refine lv_aload_n hx hb di_1_36 rfl (lv_at hl 0 rfl) ?_
  refine va_new hx hb hts (u8_in 0 (by decide)) (tyf 0) (ty8_ok 0 (by decide)) hown (hts _ wc_39) (hts _ wc_40) (hts _ wc_41) hK hP hD hS hA (clA_at 0 (by decide)) (fs := [.null, .null, .null]) (by decide +kernel) (by decide) (by decide) di_1_37 (fun q3 H hP hD hS => ?_)
  have hP : va_P D clA [(h, .inr (3, [.int ix, .int sl, .ref q1, .ref q2, .null, .null, .null, .int 0, .int 0, .int 0, .int 0, .int 0, .int 0])), (q1, .inr (5, [.int 0, .int 0, .int 0, .int 0, .int 0])), (q2, .inr (4, [.int 0, .int 0, .int 0, .int 0])), (q3, .inr (0, [.null, .null, .null]))] H := hP
  have hD : va_D A [(h, .inr (3, [.int ix, .int sl, .ref q1, .ref q2, .null, .null, .null, .int 0, .int 0, .int 0, .int 0, .int 0, .int 0])), (q1, .inr (5, [.int 0, .int 0, .int 0, .int 0, .int 0])), (q2, .inr (4, [.int 0, .int 0, .int 0, .int 0])), (q3, .inr (0, [.null, .null, .null]))] := hD
  refine lv_dup hx hb di_1_40 rfl ?_
  have hY9 := hP.sub (ws' := [(q3, .inr (0, [.null, .null, .null]))]) [3] rfl
  refine ct_callI (rest := [.ref q3, .ref h]) (As := []) hx hb hml hown hts (c_dev hT hK0 q3 H.size (hAo _ (hD.2 3 _ rfl))) wc_43 wc_41 wc_44 wc_42 ⟨by decide, by decide⟩ rfl (show (parseMethodDescriptor "()V").map (fun d => d.parameters.length) = some 0 by decide +kernel) ⟨rfl, rfl, by decide, by decide⟩ hW (ct_old hAo ho hS) ⟨rfl, hY9⟩ hl.1 rfl rfl di_1_41 ⟨by decide, by decide⟩ hS (fun q _ h => h ▸ hD.2 3 _ rfl) (fun q h => h.elim (fun h => h ▸ hD.2 3 _ rfl) (fun h => hA q (Nat.le_trans hS.1 h))) (fun H1 locs1 hX _ hk hS1 => ?_)
  obtain ⟨eq1, oq1, mq1, iq1, hP2, hD2⟩ := hX
  have hD1 := ct_Dapp (ws := [(h, .inr (3, [.int ix, .int sl, .ref q1, .ref q2, .null, .null, .null, .int 0, .int 0, .int 0, .int 0, .int 0, .int 0])), (q1, .inr (5, [.int 0, .int 0, .int 0, .int 0, .int 0])), (q2, .inr (4, [.int 0, .int 0, .int 0, .int 0]))]) hD hP hS hA hD2
  have hP1 := ct_join (ws := [(h, .inr (3, [.int ix, .int sl, .ref q1, .ref q2, .null, .null, .null, .int 0, .int 0, .int 0, .int 0, .int 0, .int 0])), (q1, .inr (5, [.int 0, .int 0, .int 0, .int 0, .int 0])), (q2, .inr (4, [.int 0, .int 0, .int 0, .int 0]))]) (d := q3) (hP.sub [0, 1, 2] rfl) hk (ct_ne (ws := [(h, .inr (3, [.int ix, .int sl, .ref q1, .ref q2, .null, .null, .null, .int 0, .int 0, .int 0, .int 0, .int 0, .int 0])), (q1, .inr (5, [.int 0, .int 0, .int 0, .int 0, .int 0])), (q2, .inr (4, [.int 0, .int 0, .int 0, .int 0]))]) hD) hP2
  clear hP hD hS hP2 hD2 hk hY9
  have hP := hP1
  have hD := hD1
  have hS := hS1
  clear hP1 hD1 hS1
  have hP : va_P D clA [(h, .inr (3, [.int ix, .int sl, .ref q1, .ref q2, .null, .null, .null, .int 0, .int 0, .int 0, .int 0, .int 0, .int 0])), (q1, .inr (5, [.int 0, .int 0, .int 0, .int 0, .int 0])), (q2, .inr (4, [.int 0, .int 0, .int 0, .int 0])), (q3, .inr (0, [.ref eq1, .ref oq1, .ref mq1])), (eq1, .inl (CA 0, 4, .inl (fun j => if j < 4 then (1000 : Int32) else (fun _ => 0) j))), (oq1, .inl (CA 0, 4, .inl (fun j => if j < 4 then (1000 : Int32) else (fun _ => 0) j))), (mq1, .inr (2, [.ref iq1, .int (1 : Int32)])), (iq1, .inl (CA 0, 5, .inl (fun _ => 0)))] H1 := hP
  have hD : va_D A [(h, .inr (3, [.int ix, .int sl, .ref q1, .ref q2, .null, .null, .null, .int 0, .int 0, .int 0, .int 0, .int 0, .int 0])), (q1, .inr (5, [.int 0, .int 0, .int 0, .int 0, .int 0])), (q2, .inr (4, [.int 0, .int 0, .int 0, .int 0])), (q3, .inr (0, [.ref eq1, .ref oq1, .ref mq1])), (eq1, .inl (CA 0, 4, .inl (fun j => if j < 4 then (1000 : Int32) else (fun _ => 0) j))), (oq1, .inl (CA 0, 4, .inl (fun j => if j < 4 then (1000 : Int32) else (fun _ => 0) j))), (mq1, .inr (2, [.ref iq1, .int (1 : Int32)])), (iq1, .inl (CA 0, 5, .inl (fun _ => 0)))] := hD
  obtain ⟨H, hHe⟩ : ∃ z, z = H1 := ⟨_, rfl⟩
  rw [← hHe] at hP hS ⊢
  clear hHe
  refine va_putF (v := .ref q3) hx hb hts (u8_in 3 (by decide)) (tyf 3) (ty8_ok 3 (by decide)) (nm8_ok 3 (by decide)) hown hK hP hD hS 0 rfl (clA_at 3 (by decide)) 4 (by decide) (hts _ wc_45) (fun z h => h) rfl hnm rfl (ty8_ok 3 (by decide) 4 (by decide)) rfl rfl (Nat.lt_of_succ_le (Nat.le_of_ble_eq_true rfl)) di_1_44 (fun H locs hP hD hS => ?_)
  have hP : va_P D clA [(h, .inr (3, [.int ix, .int sl, .ref q1, .ref q2, .ref q3, .null, .null, .int 0, .int 0, .int 0, .int 0, .int 0, .int 0])), (q1, .inr (5, [.int 0, .int 0, .int 0, .int 0, .int 0])), (q2, .inr (4, [.int 0, .int 0, .int 0, .int 0])), (q3, .inr (0, [.ref eq1, .ref oq1, .ref mq1])), (eq1, .inl (CA 0, 4, .inl (fun j => if j < 4 then (1000 : Int32) else (fun _ => 0) j))), (oq1, .inl (CA 0, 4, .inl (fun j => if j < 4 then (1000 : Int32) else (fun _ => 0) j))), (mq1, .inr (2, [.ref iq1, .int (1 : Int32)])), (iq1, .inl (CA 0, 5, .inl (fun _ => 0)))] H := hP
  have hD : va_D A [(h, .inr (3, [.int ix, .int sl, .ref q1, .ref q2, .ref q3, .null, .null, .int 0, .int 0, .int 0, .int 0, .int 0, .int 0])), (q1, .inr (5, [.int 0, .int 0, .int 0, .int 0, .int 0])), (q2, .inr (4, [.int 0, .int 0, .int 0, .int 0])), (q3, .inr (0, [.ref eq1, .ref oq1, .ref mq1])), (eq1, .inl (CA 0, 4, .inl (fun j => if j < 4 then (1000 : Int32) else (fun _ => 0) j))), (oq1, .inl (CA 0, 4, .inl (fun j => if j < 4 then (1000 : Int32) else (fun _ => 0) j))), (mq1, .inr (2, [.ref iq1, .int (1 : Int32)])), (iq1, .inl (CA 0, 5, .inl (fun _ => 0)))] := hD
  refine lv_aload_n hx hb di_1_47 rfl (lv_at hl 0 rfl) ?_
  refine va_new hx hb hts (u8_in 1 (by decide)) (tyf 1) (ty8_ok 1 (by decide)) hown (hts _ wc_46) (hts _ wc_47) (hts _ wc_48) hK hP hD hS hA (clA_at 1 (by decide)) (fs := [.int 0, .int 0, .int 0, .int 0, .int 0]) (by decide +kernel) (by decide) (by decide) di_1_48 (fun q4 H hP hD hS => ?_)
  have hP : va_P D clA [(h, .inr (3, [.int ix, .int sl, .ref q1, .ref q2, .ref q3, .null, .null, .int 0, .int 0, .int 0, .int 0, .int 0, .int 0])), (q1, .inr (5, [.int 0, .int 0, .int 0, .int 0, .int 0])), (q2, .inr (4, [.int 0, .int 0, .int 0, .int 0])), (q3, .inr (0, [.ref eq1, .ref oq1, .ref mq1])), (eq1, .inl (CA 0, 4, .inl (fun j => if j < 4 then (1000 : Int32) else (fun _ => 0) j))), (oq1, .inl (CA 0, 4, .inl (fun j => if j < 4 then (1000 : Int32) else (fun _ => 0) j))), (mq1, .inr (2, [.ref iq1, .int (1 : Int32)])), (iq1, .inl (CA 0, 5, .inl (fun _ => 0))), (q4, .inr (1, [.int 0, .int 0, .int 0, .int 0, .int 0]))] H := hP
  have hD : va_D A [(h, .inr (3, [.int ix, .int sl, .ref q1, .ref q2, .ref q3, .null, .null, .int 0, .int 0, .int 0, .int 0, .int 0, .int 0])), (q1, .inr (5, [.int 0, .int 0, .int 0, .int 0, .int 0])), (q2, .inr (4, [.int 0, .int 0, .int 0, .int 0])), (q3, .inr (0, [.ref eq1, .ref oq1, .ref mq1])), (eq1, .inl (CA 0, 4, .inl (fun j => if j < 4 then (1000 : Int32) else (fun _ => 0) j))), (oq1, .inl (CA 0, 4, .inl (fun j => if j < 4 then (1000 : Int32) else (fun _ => 0) j))), (mq1, .inr (2, [.ref iq1, .int (1 : Int32)])), (iq1, .inl (CA 0, 5, .inl (fun _ => 0))), (q4, .inr (1, [.int 0, .int 0, .int 0, .int 0, .int 0]))] := hD
  refine lv_dup hx hb di_1_51 rfl ?_
  refine ct_callIN (rest := [.ref q4, .ref h]) (As := []) hT hx hb hml hown hts (c_triv hT (y := ⟨"SlotBus$Message", "<init>", "()V"⟩) (bytes := prog_3_method_1_code) (idx := 1) (by decide) wc_52 wc_1 wc_2 di_6_0 di_6_1 di_6_4 q4) wc_50 wc_48 wc_51 wc_49 ⟨by decide, by decide⟩ rfl (show (parseMethodDescriptor "()V").map (fun d => d.parameters.length) = some 0 by decide +kernel) ⟨rfl, rfl, by decide, by decide⟩ hW (ct_old hAo ho hS) trivial hl.1 rfl rfl di_1_52 ⟨by decide, by decide⟩ hS (fun _ _ h => h.elim) (fun _ h => h.elim) (fun H1 locs1 hX _ _ hS1 => ?_)
  have hP : va_P D clA [(h, .inr (3, [.int ix, .int sl, .ref q1, .ref q2, .ref q3, .null, .null, .int 0, .int 0, .int 0, .int 0, .int 0, .int 0])), (q1, .inr (5, [.int 0, .int 0, .int 0, .int 0, .int 0])), (q2, .inr (4, [.int 0, .int 0, .int 0, .int 0])), (q3, .inr (0, [.ref eq1, .ref oq1, .ref mq1])), (eq1, .inl (CA 0, 4, .inl (fun j => if j < 4 then (1000 : Int32) else (fun _ => 0) j))), (oq1, .inl (CA 0, 4, .inl (fun j => if j < 4 then (1000 : Int32) else (fun _ => 0) j))), (mq1, .inr (2, [.ref iq1, .int (1 : Int32)])), (iq1, .inl (CA 0, 5, .inl (fun _ => 0))), (q4, .inr (1, [.int 0, .int 0, .int 0, .int 0, .int 0]))] H1 := by rw [hX]; exact hP
  have hS := hS1
  clear hS1 hX
  have hP : va_P D clA [(h, .inr (3, [.int ix, .int sl, .ref q1, .ref q2, .ref q3, .null, .null, .int 0, .int 0, .int 0, .int 0, .int 0, .int 0])), (q1, .inr (5, [.int 0, .int 0, .int 0, .int 0, .int 0])), (q2, .inr (4, [.int 0, .int 0, .int 0, .int 0])), (q3, .inr (0, [.ref eq1, .ref oq1, .ref mq1])), (eq1, .inl (CA 0, 4, .inl (fun j => if j < 4 then (1000 : Int32) else (fun _ => 0) j))), (oq1, .inl (CA 0, 4, .inl (fun j => if j < 4 then (1000 : Int32) else (fun _ => 0) j))), (mq1, .inr (2, [.ref iq1, .int (1 : Int32)])), (iq1, .inl (CA 0, 5, .inl (fun _ => 0))), (q4, .inr (1, [.int 0, .int 0, .int 0, .int 0, .int 0]))] H1 := hP
  have hD : va_D A [(h, .inr (3, [.int ix, .int sl, .ref q1, .ref q2, .ref q3, .null, .null, .int 0, .int 0, .int 0, .int 0, .int 0, .int 0])), (q1, .inr (5, [.int 0, .int 0, .int 0, .int 0, .int 0])), (q2, .inr (4, [.int 0, .int 0, .int 0, .int 0])), (q3, .inr (0, [.ref eq1, .ref oq1, .ref mq1])), (eq1, .inl (CA 0, 4, .inl (fun j => if j < 4 then (1000 : Int32) else (fun _ => 0) j))), (oq1, .inl (CA 0, 4, .inl (fun j => if j < 4 then (1000 : Int32) else (fun _ => 0) j))), (mq1, .inr (2, [.ref iq1, .int (1 : Int32)])), (iq1, .inl (CA 0, 5, .inl (fun _ => 0))), (q4, .inr (1, [.int 0, .int 0, .int 0, .int 0, .int 0]))] := hD
  obtain ⟨H, hHe⟩ : ∃ z, z = H1 := ⟨_, rfl⟩
  rw [← hHe] at hP hS ⊢
  clear hHe
  refine va_putF (v := .ref q4) hx hb hts (u8_in 3 (by decide)) (tyf 3) (ty8_ok 3 (by decide)) (nm8_ok 3 (by decide)) hown hK hP hD hS 0 rfl (clA_at 3 (by decide)) 5 (by decide) (hts _ wc_53) (fun z h => h) rfl hnm rfl (ty8_ok 3 (by decide) 5 (by decide)) rfl rfl (Nat.lt_of_succ_le (Nat.le_of_ble_eq_true rfl)) di_1_55 (fun H locs hP hD hS => ?_)
  have hP : va_P D clA [(h, .inr (3, [.int ix, .int sl, .ref q1, .ref q2, .ref q3, .ref q4, .null, .int 0, .int 0, .int 0, .int 0, .int 0, .int 0])), (q1, .inr (5, [.int 0, .int 0, .int 0, .int 0, .int 0])), (q2, .inr (4, [.int 0, .int 0, .int 0, .int 0])), (q3, .inr (0, [.ref eq1, .ref oq1, .ref mq1])), (eq1, .inl (CA 0, 4, .inl (fun j => if j < 4 then (1000 : Int32) else (fun _ => 0) j))), (oq1, .inl (CA 0, 4, .inl (fun j => if j < 4 then (1000 : Int32) else (fun _ => 0) j))), (mq1, .inr (2, [.ref iq1, .int (1 : Int32)])), (iq1, .inl (CA 0, 5, .inl (fun _ => 0))), (q4, .inr (1, [.int 0, .int 0, .int 0, .int 0, .int 0]))] H := hP
  have hD : va_D A [(h, .inr (3, [.int ix, .int sl, .ref q1, .ref q2, .ref q3, .ref q4, .null, .int 0, .int 0, .int 0, .int 0, .int 0, .int 0])), (q1, .inr (5, [.int 0, .int 0, .int 0, .int 0, .int 0])), (q2, .inr (4, [.int 0, .int 0, .int 0, .int 0])), (q3, .inr (0, [.ref eq1, .ref oq1, .ref mq1])), (eq1, .inl (CA 0, 4, .inl (fun j => if j < 4 then (1000 : Int32) else (fun _ => 0) j))), (oq1, .inl (CA 0, 4, .inl (fun j => if j < 4 then (1000 : Int32) else (fun _ => 0) j))), (mq1, .inr (2, [.ref iq1, .int (1 : Int32)])), (iq1, .inl (CA 0, 5, .inl (fun _ => 0))), (q4, .inr (1, [.int 0, .int 0, .int 0, .int 0, .int 0]))] := hD
  refine lv_aload_n hx hb di_1_58 rfl (lv_at hl 0 rfl) ?_
  refine lv_bipush hx hb di_1_59 cb_10 ?_
  refine ct_newa (atype := .int) (ty := .int) hx hb (hts _ wc_3) rfl 0 rfl (fun _ h => h) hK hP hD hS hA (a0 := (10, .inl (fun _ => 0))) (fun _ => rfl) (by decide) (N' := 10) (by decide) (by decide) (by decide) (by decide) di_1_61 (fun q5 H hP hD hS => ?_)
  have hP : va_P D clA [(h, .inr (3, [.int ix, .int sl, .ref q1, .ref q2, .ref q3, .ref q4, .null, .int 0, .int 0, .int 0, .int 0, .int 0, .int 0])), (q1, .inr (5, [.int 0, .int 0, .int 0, .int 0, .int 0])), (q2, .inr (4, [.int 0, .int 0, .int 0, .int 0])), (q3, .inr (0, [.ref eq1, .ref oq1, .ref mq1])), (eq1, .inl (CA 0, 4, .inl (fun j => if j < 4 then (1000 : Int32) else (fun _ => 0) j))), (oq1, .inl (CA 0, 4, .inl (fun j => if j < 4 then (1000 : Int32) else (fun _ => 0) j))), (mq1, .inr (2, [.ref iq1, .int (1 : Int32)])), (iq1, .inl (CA 0, 5, .inl (fun _ => 0))), (q4, .inr (1, [.int 0, .int 0, .int 0, .int 0, .int 0])), (q5, .inl (CA 0, 10, .inl (fun _ => 0)))] H := hP
  have hD : va_D A [(h, .inr (3, [.int ix, .int sl, .ref q1, .ref q2, .ref q3, .ref q4, .null, .int 0, .int 0, .int 0, .int 0, .int 0, .int 0])), (q1, .inr (5, [.int 0, .int 0, .int 0, .int 0, .int 0])), (q2, .inr (4, [.int 0, .int 0, .int 0, .int 0])), (q3, .inr (0, [.ref eq1, .ref oq1, .ref mq1])), (eq1, .inl (CA 0, 4, .inl (fun j => if j < 4 then (1000 : Int32) else (fun _ => 0) j))), (oq1, .inl (CA 0, 4, .inl (fun j => if j < 4 then (1000 : Int32) else (fun _ => 0) j))), (mq1, .inr (2, [.ref iq1, .int (1 : Int32)])), (iq1, .inl (CA 0, 5, .inl (fun _ => 0))), (q4, .inr (1, [.int 0, .int 0, .int 0, .int 0, .int 0])), (q5, .inl (CA 0, 10, .inl (fun _ => 0)))] := hD
  refine va_putF (v := .ref q5) hx hb hts (u8_in 3 (by decide)) (tyf 3) (ty8_ok 3 (by decide)) (nm8_ok 3 (by decide)) hown hK hP hD hS 0 rfl (clA_at 3 (by decide)) 6 (by decide) (hts _ wc_54) (fun z h => h) rfl hnm rfl (ty8_ok 3 (by decide) 6 (by decide)) rfl rfl (Nat.lt_of_succ_le (Nat.le_of_ble_eq_true rfl)) di_1_63 (fun H locs hP hD hS => ?_)
  have hP : va_P D clA [(h, .inr (3, [.int ix, .int sl, .ref q1, .ref q2, .ref q3, .ref q4, .ref q5, .int 0, .int 0, .int 0, .int 0, .int 0, .int 0])), (q1, .inr (5, [.int 0, .int 0, .int 0, .int 0, .int 0])), (q2, .inr (4, [.int 0, .int 0, .int 0, .int 0])), (q3, .inr (0, [.ref eq1, .ref oq1, .ref mq1])), (eq1, .inl (CA 0, 4, .inl (fun j => if j < 4 then (1000 : Int32) else (fun _ => 0) j))), (oq1, .inl (CA 0, 4, .inl (fun j => if j < 4 then (1000 : Int32) else (fun _ => 0) j))), (mq1, .inr (2, [.ref iq1, .int (1 : Int32)])), (iq1, .inl (CA 0, 5, .inl (fun _ => 0))), (q4, .inr (1, [.int 0, .int 0, .int 0, .int 0, .int 0])), (q5, .inl (CA 0, 10, .inl (fun _ => 0)))] H := hP
  have hD : va_D A [(h, .inr (3, [.int ix, .int sl, .ref q1, .ref q2, .ref q3, .ref q4, .ref q5, .int 0, .int 0, .int 0, .int 0, .int 0, .int 0])), (q1, .inr (5, [.int 0, .int 0, .int 0, .int 0, .int 0])), (q2, .inr (4, [.int 0, .int 0, .int 0, .int 0])), (q3, .inr (0, [.ref eq1, .ref oq1, .ref mq1])), (eq1, .inl (CA 0, 4, .inl (fun j => if j < 4 then (1000 : Int32) else (fun _ => 0) j))), (oq1, .inl (CA 0, 4, .inl (fun j => if j < 4 then (1000 : Int32) else (fun _ => 0) j))), (mq1, .inr (2, [.ref iq1, .int (1 : Int32)])), (iq1, .inl (CA 0, 5, .inl (fun _ => 0))), (q4, .inr (1, [.int 0, .int 0, .int 0, .int 0, .int 0])), (q5, .inl (CA 0, 10, .inl (fun _ => 0)))] := hD
  refine lv_aload_n hx hb di_1_66 rfl (lv_at hl 0 rfl) ?_
  refine va_get hx hb hts (u8_in 3 (by decide)) hown hK hP 0 rfl (clA_at 3 (by decide)) 6 (by decide) (hts _ wc_54) (fun z h => h) rfl di_1_67 ?_
  refine lv_iconst hx hb di_1_70 ci_m1 ?_
  have hP := hP.sub (ws' := [(h, .inr (3, [.int ix, .int sl, .ref q1, .ref q2, .ref q3, .ref q4, .ref q5, .int 0, .int 0, .int 0, .int 0, .int 0, .int 0])), (q1, .inr (5, [.int 0, .int 0, .int 0, .int 0, .int 0])), (q2, .inr (4, [.int 0, .int 0, .int 0, .int 0])), (q3, .inr (0, [.ref eq1, .ref oq1, .ref mq1])), (eq1, .inl (CA 0, 4, .inl (fun j => if j < 4 then (1000 : Int32) else (fun _ => 0) j))), (oq1, .inl (CA 0, 4, .inl (fun j => if j < 4 then (1000 : Int32) else (fun _ => 0) j))), (mq1, .inr (2, [.ref iq1, .int (1 : Int32)])), (iq1, .inl (CA 0, 5, .inl (fun _ => 0))), (q4, .inr (1, [.int 0, .int 0, .int 0, .int 0, .int 0])), (q5, .inl (CA 0, 10, .inl (fun _ => 0)))]) [0, 1, 2, 3, 4, 5, 6, 7, 8, 9] rfl
  have hD := hD.sub (ws' := [(h, .inr (3, [.int ix, .int sl, .ref q1, .ref q2, .ref q3, .ref q4, .ref q5, .int 0, .int 0, .int 0, .int 0, .int 0, .int 0])), (q1, .inr (5, [.int 0, .int 0, .int 0, .int 0, .int 0])), (q2, .inr (4, [.int 0, .int 0, .int 0, .int 0])), (q3, .inr (0, [.ref eq1, .ref oq1, .ref mq1])), (eq1, .inl (CA 0, 4, .inl (fun j => if j < 4 then (1000 : Int32) else (fun _ => 0) j))), (oq1, .inl (CA 0, 4, .inl (fun j => if j < 4 then (1000 : Int32) else (fun _ => 0) j))), (mq1, .inr (2, [.ref iq1, .int (1 : Int32)])), (iq1, .inl (CA 0, 5, .inl (fun _ => 0))), (q4, .inr (1, [.int 0, .int 0, .int 0, .int 0, .int 0])), (q5, .inl (CA 0, 10, .inl (fun _ => 0)))]) [0, 1, 2, 3, 4, 5, 6, 7, 8, 9] (by decide) rfl
  have hY9 := hP.sub (ws' := [(q5, .inl (CA 0, 10, .inl (fun _ => 0)))]) [9] rfl
  refine ct_callS (rest := []) (As := [.ref q5, .int (-1 : Int32)]) hx hb hml hown hts (c_fill hT hK0 q5 10 (by decide) (-1 : Int32) (fun _ => 0)) wc_9 wc_10 wc_11 wc_55 ⟨by decide, by decide⟩ (show (parseMethodDescriptor "([II)V").map (fun d => d.parameters.length) = some 2 by decide +kernel) ⟨rfl, rfl, by decide, by decide⟩ hW (ct_old hAo ho hS) hY9 hl.1 rfl rfl di_1_71 ⟨by decide, by decide⟩ hS (fun q _ h => h ▸ hD.2 9 _ rfl) (fun q h => h ▸ hD.2 9 _ rfl) (fun H1 locs1 hX _ hk hS1 => ?_)
  have hP1 := ct_join (ws := [(h, .inr (3, [.int ix, .int sl, .ref q1, .ref q2, .ref q3, .ref q4, .ref q5, .int 0, .int 0, .int 0, .int 0, .int 0, .int 0])), (q1, .inr (5, [.int 0, .int 0, .int 0, .int 0, .int 0])), (q2, .inr (4, [.int 0, .int 0, .int 0, .int 0])), (q3, .inr (0, [.ref eq1, .ref oq1, .ref mq1])), (eq1, .inl (CA 0, 4, .inl (fun j => if j < 4 then (1000 : Int32) else (fun _ => 0) j))), (oq1, .inl (CA 0, 4, .inl (fun j => if j < 4 then (1000 : Int32) else (fun _ => 0) j))), (mq1, .inr (2, [.ref iq1, .int (1 : Int32)])), (iq1, .inl (CA 0, 5, .inl (fun _ => 0))), (q4, .inr (1, [.int 0, .int 0, .int 0, .int 0, .int 0]))]) (d := q5) (hP.sub [0, 1, 2, 3, 4, 5, 6, 7, 8] rfl) hk (ct_ne (ws := [(h, .inr (3, [.int ix, .int sl, .ref q1, .ref q2, .ref q3, .ref q4, .ref q5, .int 0, .int 0, .int 0, .int 0, .int 0, .int 0])), (q1, .inr (5, [.int 0, .int 0, .int 0, .int 0, .int 0])), (q2, .inr (4, [.int 0, .int 0, .int 0, .int 0])), (q3, .inr (0, [.ref eq1, .ref oq1, .ref mq1])), (eq1, .inl (CA 0, 4, .inl (fun j => if j < 4 then (1000 : Int32) else (fun _ => 0) j))), (oq1, .inl (CA 0, 4, .inl (fun j => if j < 4 then (1000 : Int32) else (fun _ => 0) j))), (mq1, .inr (2, [.ref iq1, .int (1 : Int32)])), (iq1, .inl (CA 0, 5, .inl (fun _ => 0))), (q4, .inr (1, [.int 0, .int 0, .int 0, .int 0, .int 0]))]) hD) hX
  have hD1 := ct_Dmap (ws' := [(h, .inr (3, [.int ix, .int sl, .ref q1, .ref q2, .ref q3, .ref q4, .ref q5, .int 0, .int 0, .int 0, .int 0, .int 0, .int 0])), (q1, .inr (5, [.int 0, .int 0, .int 0, .int 0, .int 0])), (q2, .inr (4, [.int 0, .int 0, .int 0, .int 0])), (q3, .inr (0, [.ref eq1, .ref oq1, .ref mq1])), (eq1, .inl (CA 0, 4, .inl (fun j => if j < 4 then (1000 : Int32) else (fun _ => 0) j))), (oq1, .inl (CA 0, 4, .inl (fun j => if j < 4 then (1000 : Int32) else (fun _ => 0) j))), (mq1, .inr (2, [.ref iq1, .int (1 : Int32)])), (iq1, .inl (CA 0, 5, .inl (fun _ => 0))), (q4, .inr (1, [.int 0, .int 0, .int 0, .int 0, .int 0])), (q5, .inl (CA 0, 10, .inl (fun j => if j < 10 then (-1 : Int32) else ((fun _ => 0)) j)))]) hD rfl
  have hP := hP1
  have hD := hD1
  have hS := hS1
  clear hP1 hD1 hS1 hk hX hY9
  have hP : va_P D clA [(h, .inr (3, [.int ix, .int sl, .ref q1, .ref q2, .ref q3, .ref q4, .ref q5, .int 0, .int 0, .int 0, .int 0, .int 0, .int 0])), (q1, .inr (5, [.int 0, .int 0, .int 0, .int 0, .int 0])), (q2, .inr (4, [.int 0, .int 0, .int 0, .int 0])), (q3, .inr (0, [.ref eq1, .ref oq1, .ref mq1])), (eq1, .inl (CA 0, 4, .inl (fun j => if j < 4 then (1000 : Int32) else (fun _ => 0) j))), (oq1, .inl (CA 0, 4, .inl (fun j => if j < 4 then (1000 : Int32) else (fun _ => 0) j))), (mq1, .inr (2, [.ref iq1, .int (1 : Int32)])), (iq1, .inl (CA 0, 5, .inl (fun _ => 0))), (q4, .inr (1, [.int 0, .int 0, .int 0, .int 0, .int 0])), (q5, .inl (CA 0, 10, .inl (fun j => if j < 10 then (-1 : Int32) else ((fun _ => 0)) j)))] H1 := hP
  have hD : va_D A [(h, .inr (3, [.int ix, .int sl, .ref q1, .ref q2, .ref q3, .ref q4, .ref q5, .int 0, .int 0, .int 0, .int 0, .int 0, .int 0])), (q1, .inr (5, [.int 0, .int 0, .int 0, .int 0, .int 0])), (q2, .inr (4, [.int 0, .int 0, .int 0, .int 0])), (q3, .inr (0, [.ref eq1, .ref oq1, .ref mq1])), (eq1, .inl (CA 0, 4, .inl (fun j => if j < 4 then (1000 : Int32) else (fun _ => 0) j))), (oq1, .inl (CA 0, 4, .inl (fun j => if j < 4 then (1000 : Int32) else (fun _ => 0) j))), (mq1, .inr (2, [.ref iq1, .int (1 : Int32)])), (iq1, .inl (CA 0, 5, .inl (fun _ => 0))), (q4, .inr (1, [.int 0, .int 0, .int 0, .int 0, .int 0])), (q5, .inl (CA 0, 10, .inl (fun j => if j < 10 then (-1 : Int32) else ((fun _ => 0)) j)))] := hD
  obtain ⟨H, hHe⟩ : ∃ z, z = H1 := ⟨_, rfl⟩
  rw [← hHe] at hP hS ⊢
  clear hHe
  subst hAd
  have hP := hP.sub (ws' := [(h, .inr (3, [.int ix, .int sl, .ref q1, .ref q2, .ref q3, .ref q4, .ref q5, .int 0, .int 0, .int 0, .int 0, .int 0, .int 0])), (q1, .inr (5, [.int 0, .int 0, .int 0, .int 0, .int 0])), (q2, .inr (4, [.int 0, .int 0, .int 0, .int 0])), (q3, .inr (0, [.ref eq1, .ref oq1, .ref mq1])), (eq1, .inl (CA 0, 4, .inl (fun j => if j < 4 then (1000 : Int32) else (fun _ => 0) j))), (oq1, .inl (CA 0, 4, .inl (fun j => if j < 4 then (1000 : Int32) else (fun _ => 0) j))), (mq1, .inr (2, [.ref iq1, .int (1 : Int32)])), (iq1, .inl (CA 0, 5, .inl (fun _ => 0))), (q4, .inr (1, [.int 0, .int 0, .int 0, .int 0, .int 0])), (q5, .inl (CA 0, 10, .inl (fun j => if j < 10 then (-1 : Int32) else ((fun _ => 0)) j)))]) [0, 1, 2, 3, 4, 5, 6, 7, 8, 9] rfl
  have hD := hD.sub (ws' := [(h, .inr (3, [.int ix, .int sl, .ref q1, .ref q2, .ref q3, .ref q4, .ref q5, .int 0, .int 0, .int 0, .int 0, .int 0, .int 0])), (q1, .inr (5, [.int 0, .int 0, .int 0, .int 0, .int 0])), (q2, .inr (4, [.int 0, .int 0, .int 0, .int 0])), (q3, .inr (0, [.ref eq1, .ref oq1, .ref mq1])), (eq1, .inl (CA 0, 4, .inl (fun j => if j < 4 then (1000 : Int32) else (fun _ => 0) j))), (oq1, .inl (CA 0, 4, .inl (fun j => if j < 4 then (1000 : Int32) else (fun _ => 0) j))), (mq1, .inr (2, [.ref iq1, .int (1 : Int32)])), (iq1, .inl (CA 0, 5, .inl (fun _ => 0))), (q4, .inr (1, [.int 0, .int 0, .int 0, .int 0, .int 0])), (q5, .inl (CA 0, 10, .inl (fun j => if j < 10 then (-1 : Int32) else ((fun _ => 0)) j)))]) [0, 1, 2, 3, 4, 5, 6, 7, 8, 9] (by decide) rfl
  exact W.vret hx hb hr (fun t ht _ => ⟨rfl, ct_F hS ht, q1, q2, q3, eq1, oq1, mq1, iq1, q4, q5, by rw [ht]; exact hP, hD⟩) (fun q hq => hS.2.2 q hq) di_1_74 hlk
end CT
