/-! facts of the tables, by decision -/
section TB
set_option maxRecDepth 100000 in
theorem u8_in : ∀ ci, ci < 8 → ∀ w ∈ u_ws (cn ci) (Tf ci) (nf ci), w ∈ TBL := by decide +kernel
set_option maxRecDepth 100000 in
theorem ty8_ok : ∀ ci, ci < 8 → ∀ k, k < nf ci → parseFieldDescriptor ((Tf ci) k).2.2.1 = some (tyf ci k) := by decide +kernel
set_option maxRecDepth 100000 in
theorem nm8_ok : ∀ ci, ci < 8 → ∀ a, a < nf ci → ∀ b, b < nf ci → a ≠ b → ((Tf ci) a).2.1 ≠ ((Tf ci) b).2.1 := by decide +kernel
/-- what a cell's shape says of its class -/
def shpOk (a : Nat) : Bool := match shp a with
  | .inl (ci, cs) => decide (ci < 8) && decide (cs.length = nf ci) && (List.range (nf ci)).all (fun j => decide ((cs[j]? = some 0 → tyf ci j = .int) ∧ (cs[j]? = some 2 → tyf ci j = .boolean) ∧ (cs[j]? = some 1 → tyf ci j = .long)))
  | .inr _ => true
set_option maxRecDepth 100000 in
theorem shp_ok : ∀ a, a < cellN → shpOk a = true := by decide +kernel
theorem shp_fact {a ci : Nat} {cs : List Nat} (h : a < cellN) (hs : shp a = .inl (ci, cs)) : ci < 8 ∧ cs.length = nf ci ∧ ∀ j, j < nf ci → (cs[j]? = some 0 → tyf ci j = .int) ∧ (cs[j]? = some 2 → tyf ci j = .boolean) ∧ (cs[j]? = some 1 → tyf ci j = .long) := by
  have h1 := shp_ok a h
  unfold shpOk at h1
  simp only [hs, Bool.and_eq_true, decide_eq_true_eq, List.all_eq_true, List.mem_range] at h1
  exact ⟨h1.1.1, h1.1.2, fun j hj => h1.2 j hj⟩
set_option maxRecDepth 100000 in
theorem ct_ok : ∀ q ∈ ctT, Cond.classLink (cn q.1) q.2.1 q.2.2 ∈ TBL ∧ Cond.castable q.2.2 q.2.2 ∈ lw_tbl ∧ ¬ q.2.1 = 0 := by decide +kernel
set_option maxRecDepth 100000 in
theorem kl_ok : ∀ q ∈ klT, Cond.constantLong (cn q.1) q.2.1 q.2.2 ∈ TBL := by decide +kernel
set_option maxRecDepth 100000 in
theorem ki_ok : ∀ q ∈ kiT, Cond.constant (cn q.1) q.2.1 q.2.2 ∈ TBL := by decide +kernel
end TB
/-! locals, stacks and cells under a placing of the cells -/
section RHO
variable {ρ : Nat → Nat}
def mmq (ρ : Nat → Nat) (q : Nat × Value) : Nat × Value := (q.1, mmv ρ q.2)
theorem mmv_cat (v : Value) : (mmv ρ v).category = v.category := by cases v <;> rfl
theorem mmv_cats (t : List Value) : ((t.map (mmv ρ)).map fun v => v.category) = t.map fun v => v.category := by
  rw [List.map_map]
  exact List.map_congr_left (fun v _ => mmv_cat v)
theorem lvG_mem {lv : List (Nat × Value)} {i : Nat} {v : Value} (h : lvG lv i = some v) : (i, v) ∈ lv := by
  induction lv with
  | nil => cases h
  | cons q t ih =>
    unfold lvG at h
    split at h
    · next hq => cases h; subst hq; exact List.mem_cons_self
    · exact List.mem_cons_of_mem _ (ih h)
theorem lvG_at {ls : Array Slot} {nL : Nat} {lv : List (Nat × Value)} (hl : lv_has ls nL (lv.map (mmq ρ))) {i : Nat} {v : Value} (h : lvG lv i = some v) : ls[i]? = some (.val (mmv ρ v)) :=
  hl.2.2 (i, mmv ρ v) (List.mem_map.mpr ⟨(i, v), lvG_mem h, rfl⟩)
theorem lvD_map (lv : List (Nat × Value)) (i : Nat) : (lv.map (mmq ρ)).filter (fun q => !(q.1 == i) && !(q.1 + 1 == i && q.2.category == 2)) = (lvD lv i).map (mmq ρ) := by
  unfold lvD
  rw [List.filter_map]
  congr 1
  refine List.filter_congr (fun q _ => ?_)
  show (!(q.1 == i) && !(q.1 + 1 == i && (mmv ρ q.2).category == 2)) = _
  rw [mmv_cat]
theorem lvD2_map (lv : List (Nat × Value)) (i : Nat) : (lv.map (mmq ρ)).filter (fun q => !(q.1 == i) && (!(q.1 == i + 1) && !(q.1 + 1 == i && q.2.category == 2))) = (lvD2 lv i).map (mmq ρ) := by
  unfold lvD2
  rw [List.filter_map]
  congr 1
  refine List.filter_congr (fun q _ => ?_)
  show (!(q.1 == i) && (!(q.1 == i + 1) && !(q.1 + 1 == i && (mmv ρ q.2).category == 2))) = _
  rw [mmv_cat]
theorem lvA_map (As : List Value) : ∀ i, lv_args i (As.map (mmv ρ)) = (lv_args i As).map (mmq ρ) := by
  induction As with
  | nil => intro i; rfl
  | cons v t ih =>
    intro i
    show (i, mmv ρ v) :: lv_args (if (mmv ρ v).category = 2 then i + 2 else i + 1) (t.map (mmv ρ)) = (i, mmv ρ v) :: (lv_args (if v.category = 2 then i + 2 else i + 1) t).map (mmq ρ)
    rw [mmv_cat, ih]
theorem lgs_len (As : List Value) : (lg_sl (As.map (mmv ρ))).length = (lg_sl As).length := by
  induction As with
  | nil => rfl
  | cons v t ih =>
    simp only [lg_sl, List.map_cons, List.flatMap_cons, List.length_append, mmv_cat] at ih ⊢
    rw [ih]
    split <;> rfl
theorem slV_rho (iv : Nat → Int32) (jv : Nat → Int64) (j c : Nat) : mmv ρ (slV id iv jv j c) = slV ρ iv jv j c := by
  rcases c with _ | _ | _ | c <;> rfl
variable {CA : Nat → ClassId} {N : Nat} {σ σ' : mmS}
theorem mmW_get {k : Nat} (h : k < N) : (mmW CA ρ N σ)[k]? = some (ρ k, mmE CA ρ k (σ.1 k) (σ.2 k)) := by
  unfold mmW
  rw [List.getElem?_map, List.getElem?_range h]
  rfl
theorem mmW_none {k : Nat} (h : ¬ k < N) : (mmW CA ρ N σ)[k]? = none := by
  unfold mmW
  rw [List.getElem?_map, List.getElem?_eq_none (by rw [List.length_range]; omega)]
  rfl
theorem mmW_inv {k : Nat} {q : Nat × va_E} (h : (mmW CA ρ N σ)[k]? = some q) : k < N ∧ q = (ρ k, mmE CA ρ k (σ.1 k) (σ.2 k)) := by
  by_cases hk : k < N
  · rw [mmW_get hk] at h
    exact ⟨hk, (Option.some.inj h).symm⟩
  · rw [mmW_none hk] at h
    cases h
theorem mmW_set {k : Nat} (hk : k < N) {x : va_E} (hx : mmE CA ρ k (σ'.1 k) (σ'.2 k) = x) (h : ∀ j, j ≠ k → σ'.1 j = σ.1 j ∧ σ'.2 j = σ.2 j) : (mmW CA ρ N σ).set k (ρ k, x) = mmW CA ρ N σ' := by
  apply List.ext_getElem?
  intro j
  rw [List.getElem?_set]
  by_cases hj : k = j
  · subst hj
    have hlen : k < (mmW CA ρ N σ).length := by unfold mmW; rw [List.length_map, List.length_range]; exact hk
    rw [if_pos rfl, if_pos hlen, mmW_get hk, hx]
  · rw [if_neg hj]
    by_cases hjN : j < N
    · rw [mmW_get hjN, mmW_get hjN, (h j (fun e => hj e.symm)).1, (h j (fun e => hj e.symm)).2]
    · rw [mmW_none hjN, mmW_none hjN]
theorem mmE_o {k ci : Nat} {cs : List Nat} {iv : Nat → Int32} {jv : Nat → Int64} (h : shp k = .inl (ci, cs)) : mmE CA ρ k iv jv = .inr (ci, cs.mapIdx (slV ρ iv jv)) := by unfold mmE; simp only [h]
theorem mmE_0 {k n : Nat} {iv : Nat → Int32} {jv : Nat → Int64} (h : shp k = .inr (0, n)) : mmE CA ρ k iv jv = .inl (CA 0, n, .inl iv) := by unfold mmE; simp only [h]
theorem mmE_1 {k n : Nat} {iv : Nat → Int32} {jv : Nat → Int64} (h : shp k = .inr (1, n)) : mmE CA ρ k iv jv = .inl (CA 1, n, .inl iv) := by unfold mmE; simp only [h]
theorem mmE_2 {k n : Nat} {iv : Nat → Int32} {jv : Nat → Int64} (h : shp k = .inr (2, n)) : mmE CA ρ k iv jv = .inl (CA 2, n, .inr (.inl jv)) := by unfold mmE; simp only [h]
theorem mmE_3 {k n : Nat} {iv : Nat → Int32} {jv : Nat → Int64} (h : shp k = .inr (3, n)) : mmE CA ρ k iv jv = .inl (CA 3, n, .inr (.inr (.inr (.inr (fun j => some (ρ (10 * j + 2))))))) := by unfold mmE; simp only [h]
theorem mmI_other {k j : Nat} {v : Int32} : ∀ i, i ≠ k → (mmI σ k j v).1 i = σ.1 i ∧ (mmI σ k j v).2 i = σ.2 i := fun i hi => ⟨if_neg hi, rfl⟩
theorem mmJ_other {k j : Nat} {v : Int64} : ∀ i, i ≠ k → (mmJ σ k j v).1 i = σ.1 i ∧ (mmJ σ k j v).2 i = σ.2 i := fun i hi => ⟨rfl, if_neg hi⟩
theorem mmI_self {k j : Nat} {v : Int32} : (mmI σ k j v).1 k = upd (σ.1 k) j v := if_pos rfl
theorem mmJ_self {k j : Nat} {v : Int64} : (mmJ σ k j v).2 k = vp_updL (σ.2 k) j v := if_pos rfl
theorem slV_setI {cs : List Nat} {j : Nat} {iv : Nat → Int32} {jv : Nat → Int64} {v : Int32} (h : cs[j]? = some 0 ∨ cs[j]? = some 2) : cs.mapIdx (slV ρ (upd iv j v) jv) = (cs.mapIdx (slV ρ iv jv)).set j (.int v) := by
  apply List.ext_getElem?
  intro i
  rw [List.getElem?_set, List.getElem?_mapIdx, List.getElem?_mapIdx, List.length_mapIdx]
  by_cases hi : j = i
  · subst hi
    rw [if_pos rfl]
    rcases h with h | h <;> (rw [if_pos (List.getElem?_eq_some_iff.mp h).1, h]; show some (Value.int (upd iv j v j)) = _; rw [pk_us])
  · rw [if_neg hi]
    cases hc : cs[i]? with
    | none => rfl
    | some c =>
      show some (slV ρ (upd iv j v) jv i c) = some (slV ρ iv jv i c)
      rcases c with _ | _ | _ | c
      · show some (Value.int (upd iv j v i)) = _; rw [pk_un (fun h => hi h.symm)]; rfl
      · rfl
      · show some (Value.int (upd iv j v i)) = _; rw [pk_un (fun h => hi h.symm)]; rfl
      · rfl
theorem slV_setJ {cs : List Nat} {j : Nat} {iv : Nat → Int32} {jv : Nat → Int64} {v : Int64} (h : cs[j]? = some 1) : cs.mapIdx (slV ρ iv (vp_updL jv j v)) = (cs.mapIdx (slV ρ iv jv)).set j (.long v) := by
  apply List.ext_getElem?
  intro i
  rw [List.getElem?_set, List.getElem?_mapIdx, List.getElem?_mapIdx, List.length_mapIdx]
  by_cases hi : j = i
  · subst hi
    rw [if_pos rfl, if_pos (List.getElem?_eq_some_iff.mp h).1, h]
    show some (Value.long (vp_updL jv j v j)) = _
    rw [pk_uLs]
  · rw [if_neg hi]
    cases hc : cs[i]? with
    | none => rfl
    | some c =>
      show some (slV ρ iv (vp_updL jv j v) i c) = some (slV ρ iv jv i c)
      rcases c with _ | _ | _ | c
      · rfl
      · show some (Value.long (vp_updL jv j v i)) = _; rw [pk_uLn (fun h => hi h.symm)]; rfl
      · rfl
      · rfl
end RHO

/-! what is fixed: the law's start s0, the placing of the cells; what holds at a frame -/
section SN
def tyA (CA : Nat → ClassId) : List (ClassId × FieldType) := [(CA 0, .int), (CA 1, .boolean), (CA 2, .long), (CA 3, .object "SlotBus$Node")]
def mmA (ρ : Nat → Nat) (N : Nat) : Nat → Prop := fun q => ∃ k, k < N ∧ ρ k = q
def mmG (l : Launch) (s0 : State) (a0 : Array Value) (D : va_G) (CA : Nat → ClassId) (ρ : Nat → Nat) (b N L : Nat) (xs : Nat → Int32) : Prop :=
  l.stackTraces = false ∧ (∀ w ∈ lw_tbl, w.before a0 s0 = true) ∧ va_K D clA (tyA CA) s0 ∧ (∀ k, k < N → s0.heap.size ≤ ρ k) ∧ (∀ i j, i < N → j < N → ρ i = ρ j → i = j) ∧ ρ 1000 = b ∧ b < s0.heap.size ∧ va_X b L xs s0 s0.heap ∧ N ≤ cellN ∧
  vx_Zq Bundle.tN "UNASSIGNED_STACK" Bundle.steD (fun q => s0.heap.size ≤ q) s0 s0.heap ∧ vx_Zq Bundle.tN "SUPPRESSED_SENTINEL" Bundle.listD (fun q => s0.heap.size ≤ q) s0 s0.heap ∧
  (∀ q ∈ ncT, va_Nc q.1 q.2 s0) ∧ (∀ q ∈ xtT, ∃ a : Nat, vk_R (cn q.1) q.2.1 q.2.2 a s0)
def mmOld (s0 : State) (H : Heap) : Prop := s0.heap.size ≤ H.size ∧ ∀ q : Nat, q < s0.heap.size → H[q]? = s0.heap[q]?
def mmK (s0 : State) (y : Nat) (p : Program) (s : State) (m : MethodId) (meth : Method) (c : Code) : Prop :=
  p.tables.exec = Jvm.exec ∧ c.code = mC y ∧ meth.sig.returnType = mR y ∧ c.maxLocals = mL y ∧ s.vm.findClass (cn (mO y)) = some m.cls ∧ meth.locks = false ∧ s0.WarmedH s.vm ∧ mmOld s0 s.heap ∧ (mH y ≠ [] → c.exceptionTable.toList = tableOf (mH y))
def mmH (D : va_G) (CA : Nat → ClassId) (ρ : Nat → Nat) (N : Nat) (s : State) (σ : mmS) (H : Heap) (locs : List Loc) : Prop := va_P D clA (mmW CA ρ N σ) H ∧ va_S (mmA ρ N) s.heap H locs
def mmRet (y pc : Nat) (v : Option Value) : Prop := match v with
  | none => decode (mC y) pc = .ok (.return_, 1) ∧ mR y = none
  | some (.int x) => decode (mC y) pc = .ok (.ireturn, 1) ∧ (mR y = some .int ∨ mR y = some .boolean ∧ (x = 0 ∨ x = 1))
  | some (.long _) => decode (mC y) pc = .ok (.lreturn, 1) ∧ mR y = some .long
  | _ => False
def Snd (l : Launch) (s0 : State) (D : va_G) (CA : Nat → ClassId) (ρ : Nat → Nat) (N : Nat) (x : mmX) (r : mmR) : Prop :=
  ∀ (p : Program) (e : Env) (s : State) (m : MethodId) (args : Array Value) (below : List Frame) (meth : Method) (c : Code) (R : Room) (Q : State → Prop) (c0 k0 : Nat),
    mmK s0 x.1 p s m meth c → (mF x.1 ≤ R.frames ∧ mLo x.1 ≤ R.locals ∧ c0 + mE x.1 ≤ R.cells ∧ k0 + 6 * mE x.1 ≤ R.slots) →
    (∀ v, r.1 = .inl v → ∀ (pc : Nat) (ls : Array Slot) (H : Heap) (locs : List Loc) (e' : Nat), mmRet x.1 pc v → mmH D CA ρ N s r.2 H locs → ls.size = mL x.1 → e' ≤ mE x.1 → W p l e R s m args below meth c H locs (c0 + e') (k0 + 6 * e') Q (F0 m pc ls (v.map (mmv ρ)).toList)) →
    (∀ E, r.1 = .inr E → ∀ (pc : Nat) (ls : Array Slot) (H : Heap) (locs : List Loc) (e' : Nat) (st : List Value) (q : Addr) (ce : Cell), mmH D CA ρ N s r.2 H locs → e' ≤ mE x.1 → mH x.1 = [] → H[q]? = some ce → ce.vm = .none → s.vm.findClass E = some ce.cls → vx_W p l e R s m args below meth c H locs (c0 + e') (k0 + 6 * e') Q (F0 m pc ls st) q) →
    (∀ E, r.1 = .inr E → ∀ (pc ik is ic : Nat) (ls : Array Slot) (H : Heap) (locs : List Loc) (e' : Nat) (st : List Value), (x.1, pc, ik, is, ic, E) ∈ xsT → mmH D CA ρ N s r.2 H locs → ls.size = mL x.1 → e' + 1 ≤ mE x.1 → (st.map fun v => v.category).sum ≤ 8 → mH x.1 = [] → W p l e R s m args below meth c H locs (c0 + e') (k0 + 6 * e') Q (F0 m pc ls st)) →
    x.2.2.2.2.1 ≤ mE x.1 → ∀ (H : Heap) (ls : Array Slot) (locs : List Loc), mmH D CA ρ N s x.2.2.2.2.2 H locs → lv_has ls (mL x.1) (x.2.2.1.map (mmq ρ)) →
      W p l e R s m args below meth c H locs (c0 + x.2.2.2.2.1) (k0 + 6 * x.2.2.2.2.1) Q (F0 m x.2.1 ls (x.2.2.2.1.map (mmv ρ)))
section Words
variable {s0 s : State} {a0 args : Array Value}
theorem tb_at (hT : ∀ w ∈ lw_tbl, w.before a0 s0 = true) (hW : s0.WarmedH s.vm) : ∀ w ∈ TBL, w.before args s = true := fun w hw => word_at hW (good_of_word (List.mem_filter.mp hw).2) (hT w (List.mem_filter.mp hw).1)
theorem nf_at (hT : ∀ w ∈ lw_tbl, w.before a0 s0 = true) (hW : s0.WarmedH s.vm) {a b n d h : String} {i : Nat} (hw : Cond.fieldLinkNest a i b n d h ∈ lw_tbl) : (Cond.fieldLinkNest a i b n d h).before args s = true := va_Nw.use rfl (va_Nw.warmF hW (va_Nw.of rfl (hT _ hw)))
theorem nm_at (hT : ∀ w ∈ lw_tbl, w.before a0 s0 = true) (hW : s0.WarmedH s.vm) {a h : String} {i : Nat} {x : MethodName} (hw : Cond.methodLinkNest a i x h ∈ lw_tbl) : (Cond.methodLinkNest a i x h).before args s = true := va_Nw.use rfl (va_Nw.warmM hW (va_Nw.of rfl (hT _ hw)))
theorem ca_at (hT : ∀ w ∈ lw_tbl, w.before a0 s0 = true) (hW : s0.WarmedH s.vm) {a b : String} (hw : Cond.castable a b ∈ lw_tbl) : (Cond.castable a b).before args s = true := va_Nw.use rfl (va_Nw.warmC hW (va_Nw.of rfl (hT _ hw)))
/-- a good word, or one of the face, decided by the tables -/
def okW (w : Jvm.Cond) : Bool := goodWord w || (w.onTables && w.faceAtom)
theorem ok_at (hT : ∀ w ∈ lw_tbl, w.before a0 s0 = true) (hW : s0.WarmedH s.vm) {w : Jvm.Cond} (hw : w ∈ lw_tbl) (hk : okW w = true) : w.before args s = true := by
  unfold okW at hk
  rcases Bool.or_eq_true _ _ ▸ hk with h | h
  · exact word_at hW (good_of_word h) (hT w hw)
  · have h2 := Bool.and_eq_true _ _ ▸ h
    exact va_tabs h2.1 (rfl : (s0.setVm s.vm).vm = s.vm) (Cond.faceAtom_setVm hW.alike w h2.2 (hT w hw))
end Words
set_option maxRecDepth 100000 in
theorem xs_dec : ∀ q ∈ xsT, decode (mC q.1) q.2.1 = .ok (.new q.2.2.1, 3) ∧ decode (mC q.1) (q.2.1 + 3) = .ok (.dup, 1) ∧ decode (mC q.1) (q.2.1 + 4) = .ok (.ldc q.2.2.2.1, 2) ∧ decode (mC q.1) (q.2.1 + 6) = .ok (.invokespecial q.2.2.2.2.1, 3) ∧ decode (mC q.1) (q.2.1 + 9) = .ok (.athrow, 1) := by decide +kernel
def xsN : List String := ["java/lang/RuntimeException", "java/lang/Exception"]
set_option maxRecDepth 100000 in
theorem xs_wds : ∀ q ∈ xsT, q.2.2.2.2.2 ≠ "java/util/NoSuchElementException" → ∀ w ∈ Cond.classLink (cn (mO q.1)) q.2.2.1 q.2.2.2.2.2 :: Cond.initialized q.2.2.2.2.2 :: vx_atS (cn (mO q.1)) q.2.2.2.2.1 q.2.2.2.2.2 xsN, w ∈ lw_tbl ∧ okW w = true ∧ vx_ot w = true := by decide +kernel
set_option maxRecDepth 100000 in
theorem xs_oth : ∀ q ∈ xsT, Bundle.fit q.2.2.2.2.2 = true ∧ 5 < mF q.1 ∧ 90 ≤ mLo q.1 ∧ ∃ z ∈ xtT, z.1 = mO q.1 ∧ z.2.1 = q.2.2.2.1 := by decide +kernel
theorem xsN_fit : ∀ n ∈ xsN, Bundle.fit n = true := by decide +kernel
section Step
variable {l : Launch} {s0 : State} {a0 : Array Value} {D : va_G} {CA : Nat → ClassId} {ρ : Nat → Nat} {b N L : Nat} {xs : Nat → Int32}
theorem mm_notA (h : ∀ k, k < N → s0.heap.size ≤ ρ k) {q : Nat} (hq : q < s0.heap.size) : ¬ mmA ρ N q := fun ⟨k, hk, e⟩ => by
  have := h k hk
  omega
theorem mm_old (h : ∀ k, k < N → s0.heap.size ≤ ρ k) {H0 H : Heap} {locs : List Loc} (ho : mmOld s0 H0) (hS : va_S (mmA ρ N) H0 H locs) : mmOld s0 H :=
  ⟨Nat.le_trans ho.1 hS.1, fun q hq => by rw [hS.2.1 q (Nat.lt_of_lt_of_le hq ho.1) (mm_notA h hq), ho.2 q hq]⟩
theorem mm_D (h : ∀ i j, i < N → j < N → ρ i = ρ j → i = j) (σ : mmS) : va_D (mmA ρ N) (mmW CA ρ N σ) := by
  refine ⟨fun i j p q hi hj hpq => ?_, fun k q hk => ?_⟩
  · obtain ⟨h1, rfl⟩ := mmW_inv hi
    obtain ⟨h2, rfl⟩ := mmW_inv hj
    exact h i j h1 h2 hpq
  · obtain ⟨h1, rfl⟩ := mmW_inv hk
    exact ⟨k, h1, rfl⟩
theorem mm_F {s t : State} {H : Heap} {locs : List Loc} (hS : va_S (mmA ρ N) s.heap H locs) (ht : t.heap = H) : va_F (mmA ρ N) s t :=
  ⟨by rw [ht]; exact hS.1, fun q h1 h2 => by rw [ht]; exact hS.2.1 q h1 h2⟩
theorem mm_X {s : State} (hX : va_X b L xs s0 s0.heap) (hb : b < s0.heap.size) (hW : s0.WarmedH s.vm) (ho : mmOld s0 s.heap) : va_X b L xs s s.heap := (va_X.moved hW.alike hX).kept (ho.2 b hb)
set_option maxHeartbeats 4000000 in
set_option maxRecDepth 100000 in
/-- the straight instructions, branches, fields and rows -/
theorem snd_plain (G : mmG l s0 a0 D CA ρ b N L xs) {y pc : Nat} {lv : List (Nat × Value)} {st : List Value} {e : Nat} {σ : mmS} {r : mmR} {i : Instr} {len : Nat} (hd : decode (mC y) pc = .ok (i, len))
    (hcall : ∀ k, i ≠ .invokestatic k ∧ i ≠ .invokevirtual k) (ha : mmArm N L xs (Snd l s0 D CA ρ N) y pc lv st e σ r i len) : Snd l s0 D CA ρ N (y, pc, lv, st, e, σ) r := by
  intro p env s m args below meth c R Q c0 k0 K hR kr kx kt he H ls locs hH hl
  have K0 := K
  obtain ⟨hst9, hT, hK0, hρ, hinj, hρb, hbl, hX, hNc, hZ1, hZ2, hnc, hxt⟩ := G
  obtain ⟨hx, hb, hr, hml, hown, hlocks, hW0, hold, hex⟩ := K
  have H0 := hH
  obtain ⟨hP, hS⟩ := hH
  have hD : va_D (mmA ρ N) (mmW CA ρ N σ) := mm_D hinj σ
  have hK : va_K D clA (tyA CA) s := va_K.moved hW0.alike hK0
  have hts : ∀ w ∈ TBL, w.before args s = true := tb_at hT hW0
  have hXs : va_X b L xs s s.heap := mm_X hX hbl hW0 hold
  have hbs : b < s.heap.size := Nat.lt_of_lt_of_le hbl hold.1
  have hbA : ¬ mmA ρ N b := mm_notA hρ hbl
  dsimp only at hd ha he hl hR kr kx kt ⊢
  cases i with
  | iconst n => obtain ⟨rfl, v, hv, k⟩ := ha; exact lv_iconst hx hb hd hv (k p env s m args below meth c R Q c0 k0 K0 hR kr kx kt he H ls locs H0 hl)
  | bipush n => obtain ⟨rfl, v, hv, k⟩ := ha; exact lv_bipush hx hb hd hv (k p env s m args below meth c R Q c0 k0 K0 hR kr kx kt he H ls locs H0 hl)
  | sipush n => obtain ⟨rfl, v, hv, k⟩ := ha; exact lv_sipush hx hb hd hv (k p env s m args below meth c R Q c0 k0 K0 hR kr kx kt he H ls locs H0 hl)
  | lconst n => obtain ⟨rfl, v, hv, k⟩ := ha; exact lv_lconst hx hb hd hv (k p env s m args below meth c R Q c0 k0 K0 hR kr kx kt he H ls locs H0 hl)
  | ldc n => obtain ⟨rfl, v, hv, k⟩ := ha; exact lv_ldc hx hb hown (hts _ (ki_ok _ hv)) hd (k p env s m args below meth c R Q c0 k0 K0 hR kr kx kt he H ls locs H0 hl)
  | ldc2_w n => obtain ⟨rfl, v, hv, k⟩ := ha; exact lv_ldc2 hx hb hown (hts _ (kl_ok _ hv)) hd (k p env s m args below meth c R Q c0 k0 K0 hR kr kx kt he H ls locs H0 hl)
  | iload_n n => obtain ⟨rfl, v, hv, k⟩ := ha; exact lv_iload_n hx hb hd rfl (lvG_at hl hv) (k p env s m args below meth c R Q c0 k0 K0 hR kr kx kt he H ls locs H0 hl)
  | iload n => obtain ⟨rfl, v, hv, k⟩ := ha; exact lv_iload hx hb hd (lvG_at hl hv) (k p env s m args below meth c R Q c0 k0 K0 hR kr kx kt he H ls locs H0 hl)
  | istore_n n => obtain ⟨rfl, v, t, rfl, hn, k⟩ := ha; exact lv_istore_n hx hb hd rfl hl hn (by rw [lvD_map]; rfl) (fun ls' hl' => k p env s m args below meth c R Q c0 k0 K0 hR kr kx kt he H ls' locs H0 hl')
  | istore n => obtain ⟨rfl, v, t, rfl, hn, k⟩ := ha; exact lv_istore hx hb hd hl hn (by rw [lvD_map]; rfl) (fun ls' hl' => k p env s m args below meth c R Q c0 k0 K0 hR kr kx kt he H ls' locs H0 hl')
  | lload_n n => obtain ⟨rfl, v, hv, k⟩ := ha; exact lv_lload_n hx hb hd rfl (lvG_at hl hv) (k p env s m args below meth c R Q c0 k0 K0 hR kr kx kt he H ls locs H0 hl)
  | lload n => obtain ⟨rfl, v, hv, k⟩ := ha; exact lv_lload hx hb hd (lvG_at hl hv) (k p env s m args below meth c R Q c0 k0 K0 hR kr kx kt he H ls locs H0 hl)
  | lstore_n n => obtain ⟨rfl, v, t, rfl, hn, k⟩ := ha; exact lv_lstore_n hx hb hd rfl hl hn (by rw [lvD2_map]; rfl) (fun ls' hl' => k p env s m args below meth c R Q c0 k0 K0 hR kr kx kt he H ls' locs H0 hl')
  | lstore n => obtain ⟨rfl, v, t, rfl, hn, k⟩ := ha; exact lv_lstore hx hb hd hl hn (by rw [lvD2_map]; rfl) (fun ls' hl' => k p env s m args below meth c R Q c0 k0 K0 hR kr kx kt he H ls' locs H0 hl')
  | aload_n n => obtain ⟨rfl, v, hv, k⟩ := ha; exact lv_aload_n hx hb hd rfl (lvG_at hl hv) (k p env s m args below meth c R Q c0 k0 K0 hR kr kx kt he H ls locs H0 hl)
  | aload n => obtain ⟨rfl, v, hv, k⟩ := ha; exact lv_aload hx hb hd (lvG_at hl hv) (k p env s m args below meth c R Q c0 k0 K0 hR kr kx kt he H ls locs H0 hl)
  | astore_n n => obtain ⟨rfl, v, t, rfl, hn, k⟩ := ha; exact lv_astore_n hx hb hd rfl hl hn (by rw [lvD_map]; rfl) (fun ls' hl' => k p env s m args below meth c R Q c0 k0 K0 hR kr kx kt he H ls' locs H0 hl')
  | astore n => obtain ⟨rfl, v, t, rfl, hn, k⟩ := ha; exact lv_astore hx hb hd hl hn (by rw [lvD_map]; rfl) (fun ls' hl' => k p env s m args below meth c R Q c0 k0 K0 hR kr kx kt he H ls' locs H0 hl')
  | iinc n d =>
    obtain ⟨rfl, x, v, hv, hxv, hn, k⟩ := ha
    obtain ⟨i9, hi9⟩ := List.mem_iff_getElem?.mp (List.mem_map.mpr ⟨(n, Value.int x), lvG_mem hv, (rfl : mmq ρ (n, Value.int x) = (n, Value.int x))⟩)
    exact lv_iinc hx hb hd hl hi9 hxv hn (by rw [lvD_map]; rfl) (fun ls' hl' => k p env s m args below meth c R Q c0 k0 K0 hR kr kx kt he H ls' locs H0 hl')
  | iadd => obtain ⟨rfl, a, b, t, rfl, k⟩ := ha; exact lv_iadd hx hb hd (k p env s m args below meth c R Q c0 k0 K0 hR kr kx kt he H ls locs H0 hl)
  | isub => obtain ⟨rfl, a, b, t, rfl, k⟩ := ha; exact lv_isub hx hb hd (k p env s m args below meth c R Q c0 k0 K0 hR kr kx kt he H ls locs H0 hl)
  | imul => obtain ⟨rfl, a, b, t, rfl, k⟩ := ha; exact lv_imul hx hb hd (k p env s m args below meth c R Q c0 k0 K0 hR kr kx kt he H ls locs H0 hl)
  | iand => obtain ⟨rfl, a, b, t, rfl, k⟩ := ha; exact lv_iand hx hb hd (k p env s m args below meth c R Q c0 k0 K0 hR kr kx kt he H ls locs H0 hl)
  | ior => obtain ⟨rfl, a, b, t, rfl, k⟩ := ha; exact lv_ior hx hb hd (k p env s m args below meth c R Q c0 k0 K0 hR kr kx kt he H ls locs H0 hl)
  | ixor => obtain ⟨rfl, a, b, t, rfl, k⟩ := ha; exact lv_ixor hx hb hd (k p env s m args below meth c R Q c0 k0 K0 hR kr kx kt he H ls locs H0 hl)
  | ishl => obtain ⟨rfl, a, b, t, rfl, k⟩ := ha; exact lv_ishl hx hb hd (k p env s m args below meth c R Q c0 k0 K0 hR kr kx kt he H ls locs H0 hl)
  | ishr => obtain ⟨rfl, a, b, t, rfl, k⟩ := ha; exact lv_ishr hx hb hd (k p env s m args below meth c R Q c0 k0 K0 hR kr kx kt he H ls locs H0 hl)
  | ladd => obtain ⟨rfl, a, b, t, rfl, k⟩ := ha; exact lv_ladd hx hb hd (k p env s m args below meth c R Q c0 k0 K0 hR kr kx kt he H ls locs H0 hl)
  | lsub => obtain ⟨rfl, a, b, t, rfl, k⟩ := ha; exact lv_lsub hx hb hd (k p env s m args below meth c R Q c0 k0 K0 hR kr kx kt he H ls locs H0 hl)
  | lmul => obtain ⟨rfl, a, b, t, rfl, k⟩ := ha; exact lv_lmul hx hb hd (k p env s m args below meth c R Q c0 k0 K0 hR kr kx kt he H ls locs H0 hl)
  | land => obtain ⟨rfl, a, b, t, rfl, k⟩ := ha; exact lv_land hx hb hd (k p env s m args below meth c R Q c0 k0 K0 hR kr kx kt he H ls locs H0 hl)
  | lor => obtain ⟨rfl, a, b, t, rfl, k⟩ := ha; exact lv_lor hx hb hd (k p env s m args below meth c R Q c0 k0 K0 hR kr kx kt he H ls locs H0 hl)
  | lxor => obtain ⟨rfl, a, b, t, rfl, k⟩ := ha; exact lv_lxor hx hb hd (k p env s m args below meth c R Q c0 k0 K0 hR kr kx kt he H ls locs H0 hl)
  | idiv => obtain ⟨rfl, a, b, t, rfl, hne, k⟩ := ha; exact lv_idiv hx hb hd hne (k p env s m args below meth c R Q c0 k0 K0 hR kr kx kt he H ls locs H0 hl)
  | irem => obtain ⟨rfl, a, b, t, rfl, hne, k⟩ := ha; exact lv_irem hx hb hd hne (k p env s m args below meth c R Q c0 k0 K0 hR kr kx kt he H ls locs H0 hl)
  | ineg => obtain ⟨rfl, a, t, rfl, k⟩ := ha; exact lv_ineg hx hb hd (k p env s m args below meth c R Q c0 k0 K0 hR kr kx kt he H ls locs H0 hl)
  | iushr => obtain ⟨rfl, a, b, t, rfl, k⟩ := ha; exact lv_iushr hx hb hd rfl (k p env s m args below meth c R Q c0 k0 K0 hR kr kx kt he H ls locs H0 hl)
  | lushr => obtain ⟨rfl, a, b, t, rfl, k⟩ := ha; exact lv_lushr hx hb hd rfl (k p env s m args below meth c R Q c0 k0 K0 hR kr kx kt he H ls locs H0 hl)
  | lshl => obtain ⟨rfl, a, b, t, rfl, k⟩ := ha; exact lv_lshl hx hb hd rfl (k p env s m args below meth c R Q c0 k0 K0 hR kr kx kt he H ls locs H0 hl)
  | lshr => obtain ⟨rfl, a, b, t, rfl, k⟩ := ha; exact lv_lshr hx hb hd rfl (k p env s m args below meth c R Q c0 k0 K0 hR kr kx kt he H ls locs H0 hl)
  | i2l => obtain ⟨rfl, a, t, rfl, k⟩ := ha; exact lv_i2l hx hb hd rfl (k p env s m args below meth c R Q c0 k0 K0 hR kr kx kt he H ls locs H0 hl)
  | l2i => obtain ⟨rfl, a, t, rfl, k⟩ := ha; exact lv_l2i hx hb hd rfl (k p env s m args below meth c R Q c0 k0 K0 hR kr kx kt he H ls locs H0 hl)
  | lcmp => obtain ⟨rfl, a, b, t, rfl, k⟩ := ha; exact W.lcmp hx hb hd (k p env s m args below meth c R Q c0 k0 K0 hR kr kx kt he H ls locs H0 hl)
  | dup => obtain ⟨rfl, a, t, rfl, h1, k⟩ := ha; exact lv_dup hx hb hd ((mmv_cat a).trans h1) (k p env s m args below meth c R Q c0 k0 K0 hR kr kx kt he H ls locs H0 hl)
  | pop => obtain ⟨rfl, a, t, rfl, h1, k⟩ := ha; exact lv_pop hx hb hd ((mmv_cat a).trans h1) (k p env s m args below meth c R Q c0 k0 K0 hR kr kx kt he H ls locs H0 hl)
  | dup2 => obtain ⟨rfl, a, b, t, rfl, h1, h2, k⟩ := ha; exact lv_dup2_11 hx hb hd ((mmv_cat a).trans h1) ((mmv_cat b).trans h2) (k p env s m args below meth c R Q c0 k0 K0 hR kr kx kt he H ls locs H0 hl)
  | goto off => obtain ⟨rfl, tgt, ht, k⟩ := ha; exact lv_goto hx hb hd ht (k p env s m args below meth c R Q c0 k0 K0 hR kr kx kt he H ls locs H0 hl)
  | ifCond cc off =>
    obtain ⟨rfl, x, t, tgt, rfl, ht, kt', kf'⟩ := ha
    cases cc with
    | eq => exact lv_if_eq hx hb hd ht (fun h => kt' h p env s m args below meth c R Q c0 k0 K0 hR kr kx kt he H ls locs H0 hl) (fun h => kf' h p env s m args below meth c R Q c0 k0 K0 hR kr kx kt he H ls locs H0 hl)
    | ne => exact lv_if_ne hx hb hd ht (fun h => kt' h p env s m args below meth c R Q c0 k0 K0 hR kr kx kt he H ls locs H0 hl) (fun h => kf' (fun z => z h) p env s m args below meth c R Q c0 k0 K0 hR kr kx kt he H ls locs H0 hl)
    | lt => exact lv_if_lt hx hb hd ht (fun h => kt' h p env s m args below meth c R Q c0 k0 K0 hR kr kx kt he H ls locs H0 hl) (fun h => kf' h p env s m args below meth c R Q c0 k0 K0 hR kr kx kt he H ls locs H0 hl)
    | ge => exact lv_if_ge hx hb hd ht (fun h => kt' h p env s m args below meth c R Q c0 k0 K0 hR kr kx kt he H ls locs H0 hl) (fun h => kf' h p env s m args below meth c R Q c0 k0 K0 hR kr kx kt he H ls locs H0 hl)
    | gt => exact lv_if_gt hx hb hd ht (fun h => kt' h p env s m args below meth c R Q c0 k0 K0 hR kr kx kt he H ls locs H0 hl) (fun h => kf' h p env s m args below meth c R Q c0 k0 K0 hR kr kx kt he H ls locs H0 hl)
    | le => exact lv_if_le hx hb hd ht (fun h => kt' h p env s m args below meth c R Q c0 k0 K0 hR kr kx kt he H ls locs H0 hl) (fun h => kf' h p env s m args below meth c R Q c0 k0 K0 hR kr kx kt he H ls locs H0 hl)
  | if_icmp cc off =>
    obtain ⟨rfl, a, b, t, tgt, rfl, ht, kt', kf'⟩ := ha
    cases cc with
    | eq => exact lv_icmp_eq hx hb hd ht (fun h => kt' h p env s m args below meth c R Q c0 k0 K0 hR kr kx kt he H ls locs H0 hl) (fun h => kf' h p env s m args below meth c R Q c0 k0 K0 hR kr kx kt he H ls locs H0 hl)
    | ne => exact lv_icmp_ne hx hb hd ht (fun h => kt' h p env s m args below meth c R Q c0 k0 K0 hR kr kx kt he H ls locs H0 hl) (fun h => kf' (fun z => z h) p env s m args below meth c R Q c0 k0 K0 hR kr kx kt he H ls locs H0 hl)
    | lt => exact lv_icmp_lt hx hb hd ht (fun h => kt' h p env s m args below meth c R Q c0 k0 K0 hR kr kx kt he H ls locs H0 hl) (fun h => kf' h p env s m args below meth c R Q c0 k0 K0 hR kr kx kt he H ls locs H0 hl)
    | ge => exact lv_icmp_ge hx hb hd ht (fun h => kt' h p env s m args below meth c R Q c0 k0 K0 hR kr kx kt he H ls locs H0 hl) (fun h => kf' h p env s m args below meth c R Q c0 k0 K0 hR kr kx kt he H ls locs H0 hl)
    | gt => exact lv_icmp_gt hx hb hd ht (fun h => kt' h p env s m args below meth c R Q c0 k0 K0 hR kr kx kt he H ls locs H0 hl) (fun h => kf' h p env s m args below meth c R Q c0 k0 K0 hR kr kx kt he H ls locs H0 hl)
    | le => exact lv_icmp_le hx hb hd ht (fun h => kt' h p env s m args below meth c R Q c0 k0 K0 hR kr kx kt he H ls locs H0 hl) (fun h => kf' h p env s m args below meth c R Q c0 k0 K0 hR kr kx kt he H ls locs H0 hl)
  | tableswitch dflt lo hi offs =>
    obtain ⟨x, t, tgt, rfl, hh, k⟩ := ha
    rcases hh with ⟨h1, h2⟩ | ⟨off, h1, h2, h3, h4⟩
    · exact lv_tableOut hx hb hd h1 h2 (k p env s m args below meth c R Q c0 k0 K0 hR kr kx kt he H ls locs H0 hl)
    · exact lv_tableIn hx hb hd h1 h2 h3 h4 (k p env s m args below meth c R Q c0 k0 K0 hR kr kx kt he H ls locs H0 hl)
  | getfield k =>
    obtain ⟨rfl, a, t, ci, j, n, cs, v, rfl, hf, hN, hs, hv, kk⟩ := ha
    obtain ⟨f1, f2, f3, f4, f5⟩ := fl_ok _ hf
    dsimp only at f1 f2 f3 f4 f5
    have hg : (mmW CA ρ N σ)[a]? = some (ρ a, .inr (ci, cs.mapIdx (slV ρ (σ.1 a) (σ.2 a)))) := by rw [mmW_get hN, mmE_o hs]
    have hv' : (cs.mapIdx (slV ρ (σ.1 a) (σ.2 a)))[j]? = some (mmv ρ v) := by
      rw [List.getElem?_mapIdx]
      cases hc : cs[j]? with
      | none => rw [hc] at hv; cases hv
      | some c9 => rw [hc] at hv; cases hv; show some (slV ρ (σ.1 a) (σ.2 a) j c9) = _; rw [slV_rho]
    rcases f5 with ⟨-, f5⟩ | ⟨-, f5⟩
    · exact va_get hx hb hts (u8_in ci f1) hown hK hP a hg (clA_at ci f1) j f2 (hts _ f5) (fun z h => by rw [f3] at h; exact h) hv' hd (kk p env s m args below meth c R Q c0 k0 K0 hR kr kx kt he H ls locs H0 hl)
    · exact va_getN hx hb hts (u8_in ci f1) hown hK hP a hg (clA_at ci f1) j f2 (nf_at hT hW0 f5) (fun z h => by rw [f3] at h; exact h) hv' hd (kk p env s m args below meth c R Q c0 k0 K0 hR kr kx kt he H ls locs H0 hl)
  | putfield k =>
    obtain ⟨rfl, a, t, ci, j, n, cs, hf, hN, hs, hfin, hh⟩ := ha
    obtain ⟨f1, f2, f3, f4, f5⟩ := fl_ok _ hf
    dsimp only at f1 f2 f3 f4 f5
    obtain ⟨g1, g2, g3⟩ := shp_fact (Nat.lt_of_lt_of_le hN hNc) hs
    have hg : (mmW CA ρ N σ)[a]? = some (ρ a, .inr (ci, cs.mapIdx (slV ρ (σ.1 a) (σ.2 a)))) := by rw [mmW_get hN, mmE_o hs]
    have hlen : j < (cs.mapIdx (slV ρ (σ.1 a) (σ.2 a))).length := by rw [List.length_mapIdx, g2]; exact f2
    rcases hh with ⟨v, rfl, hv, kk⟩ | ⟨v, rfl, hv, kk⟩
    · have hnar : narrow (tyf ci j) (.int v) = .int v ∧ fits (tyf ci j) (.int v) = true := by
        rcases hv with hv | ⟨hv, h01⟩
        · rw [(g3 j f2).1 hv]; exact ⟨rfl, rfl⟩
        · rw [(g3 j f2).2.1 hv]; rcases h01 with rfl | rfl <;> exact ⟨rfl, rfl⟩
      have hv0 : cs[j]? = some 0 ∨ cs[j]? = some 2 := hv.imp id And.left
      have hset : (mmW CA ρ N σ).set a (ρ a, .inr (ci, (cs.mapIdx (slV ρ (σ.1 a) (σ.2 a))).set j (.int v))) = mmW CA ρ N (mmI σ a j v) := mmW_set hN (by rw [mmE_o hs, mmI_self, ← slV_setI hv0]; rfl) mmI_other
      rcases f5 with ⟨-, f5⟩ | ⟨-, f5⟩
      · refine va_put hx hb hts (u8_in ci f1) (tyf ci) (ty8_ok ci f1) (nm8_ok ci f1) hown hK hP hD hS a hg (clA_at ci f1) j f2 (hts _ f5) (fun z h => by rw [f3] at h; exact h) hfin f4 hnar.1 hnar.2 hlen hd (fun H1 locs1 hP1 _ hS1 => ?_)
        have hP1 : va_P D clA (mmW CA ρ N _) H1 := hset ▸ hP1
        exact kk p env s m args below meth c R Q c0 k0 K0 hR kr kx kt he H1 ls locs1 ⟨hP1, hS1⟩ hl
      · refine va_putN hx hb hts (u8_in ci f1) (tyf ci) (ty8_ok ci f1) (nm8_ok ci f1) hown hK hP hD hS a hg (clA_at ci f1) j f2 (nf_at hT hW0 f5) (fun z h => by rw [f3] at h; exact h) hfin f4 hnar.1 hnar.2 hlen hd (fun H1 locs1 hP1 _ hS1 => ?_)
        have hP1 : va_P D clA (mmW CA ρ N _) H1 := hset ▸ hP1
        exact kk p env s m args below meth c R Q c0 k0 K0 hR kr kx kt he H1 ls locs1 ⟨hP1, hS1⟩ hl
    · have hnar : narrow (tyf ci j) (.long v) = .long v ∧ fits (tyf ci j) (.long v) = true := by
        rw [(g3 j f2).2.2 hv]; exact ⟨rfl, rfl⟩
      have hset : (mmW CA ρ N σ).set a (ρ a, .inr (ci, (cs.mapIdx (slV ρ (σ.1 a) (σ.2 a))).set j (.long v))) = mmW CA ρ N (mmJ σ a j v) := mmW_set hN (by rw [mmE_o hs, mmJ_self, ← slV_setJ hv]; rfl) mmJ_other
      rcases f5 with ⟨-, f5⟩ | ⟨-, f5⟩
      · refine va_put hx hb hts (u8_in ci f1) (tyf ci) (ty8_ok ci f1) (nm8_ok ci f1) hown hK hP hD hS a hg (clA_at ci f1) j f2 (hts _ f5) (fun z h => by rw [f3] at h; exact h) hfin f4 hnar.1 hnar.2 hlen hd (fun H1 locs1 hP1 _ hS1 => ?_)
        have hP1 : va_P D clA (mmW CA ρ N _) H1 := hset ▸ hP1
        exact kk p env s m args below meth c R Q c0 k0 K0 hR kr kx kt he H1 ls locs1 ⟨hP1, hS1⟩ hl
      · refine va_putN hx hb hts (u8_in ci f1) (tyf ci) (ty8_ok ci f1) (nm8_ok ci f1) hown hK hP hD hS a hg (clA_at ci f1) j f2 (nf_at hT hW0 f5) (fun z h => by rw [f3] at h; exact h) hfin f4 hnar.1 hnar.2 hlen hd (fun H1 locs1 hP1 _ hS1 => ?_)
        have hP1 : va_P D clA (mmW CA ρ N _) H1 := hset ▸ hP1
        exact kk p env s m args below meth c R Q c0 k0 K0 hR kr kx kt he H1 ls locs1 ⟨hP1, hS1⟩ hl
  | iaload =>
    obtain ⟨rfl, j, a, t, rfl, hh⟩ := ha
    rcases hh with ⟨n, hN, hs, hj, k⟩ | ⟨rfl, hj, k⟩
    · have hg : (mmW CA ρ N σ)[a]? = some (ρ a, .inl (CA 0, n, .inl (σ.1 a))) := by rw [mmW_get hN, mmE_0 hs]
      exact va_iald hx hb hK hP a 0 hg rfl hj hd (k p env s m args below meth c R Q c0 k0 K0 hR kr kx kt he H ls locs H0 hl)
    · have hgo := va_sld (rest := t.map (mmv ρ)) hx hb hXs hbs hbA hS hj hd (k p env s m args below meth c R Q c0 k0 K0 hR kr kx kt he H ls locs H0 hl)
      rw [← hρb] at hgo
      exact hgo
  | baload =>
    obtain ⟨rfl, j, a, t, n, rfl, hN, hs, hj, k⟩ := ha
    have hg : (mmW CA ρ N σ)[a]? = some (ρ a, .inl (CA 1, n, .inl (σ.1 a))) := by rw [mmW_get hN, mmE_1 hs]
    exact va_zald hx hb hK hP a 1 hg rfl hj hd (k p env s m args below meth c R Q c0 k0 K0 hR kr kx kt he H ls locs H0 hl)
  | laload =>
    obtain ⟨rfl, j, a, t, n, rfl, hN, hs, hj, k⟩ := ha
    have hg : (mmW CA ρ N σ)[a]? = some (ρ a, .inl (CA 2, n, .inr (.inl (σ.2 a)))) := by rw [mmW_get hN, mmE_2 hs]
    exact va_lald hx hb hK hP a 2 hg rfl hj hd (k p env s m args below meth c R Q c0 k0 K0 hR kr kx kt he H ls locs H0 hl)
  | aaload =>
    obtain ⟨rfl, j, a, t, n, rfl, hN, hs, hj, k⟩ := ha
    have hg : (mmW CA ρ N σ)[a]? = some (ρ a, .inl (CA 3, n, .inr (.inr (.inr (.inr (fun j => some (ρ (10 * j + 2)))))))) := by rw [mmW_get hN, mmE_3 hs]
    exact va_aldq hx hb hK hP a 3 hg rfl hj hd (k p env s m args below meth c R Q c0 k0 K0 hR kr kx kt he H ls locs H0 hl)
  | iastore =>
    obtain ⟨rfl, v, j, a, t, n, rfl, hN, hs, hj, k⟩ := ha
    have hg : (mmW CA ρ N σ)[a]? = some (ρ a, .inl (CA 0, n, .inl (σ.1 a))) := by rw [mmW_get hN, mmE_0 hs]
    have hset : (mmW CA ρ N σ).set a (ρ a, .inl (CA 0, n, .inl (upd (σ.1 a) j.toNatClampNeg v))) = mmW CA ρ N (mmI σ a j.toNatClampNeg v) := mmW_set hN (by rw [mmE_0 hs, mmI_self]) mmI_other
    refine va_iast hx hb hK hP hD hS a 0 hg rfl hj hd (fun H1 locs1 hP1 _ hS1 => ?_)
    rw [hset] at hP1
    exact k p env s m args below meth c R Q c0 k0 K0 hR kr kx kt he H1 ls locs1 ⟨hP1, hS1⟩ hl
  | bastore =>
    obtain ⟨rfl, v, j, a, t, n, rfl, hN, hs, hj, k⟩ := ha
    have hg : (mmW CA ρ N σ)[a]? = some (ρ a, .inl (CA 1, n, .inl (σ.1 a))) := by rw [mmW_get hN, mmE_1 hs]
    have hset : (mmW CA ρ N σ).set a (ρ a, .inl (CA 1, n, .inl (upd (σ.1 a) j.toNatClampNeg (vp_nar .boolean v)))) = mmW CA ρ N (mmI σ a j.toNatClampNeg (vp_nar .boolean v)) := mmW_set hN (by rw [mmE_1 hs, mmI_self]) mmI_other
    refine va_zast hx hb hK hP hD hS a 1 hg rfl hj hd (fun H1 locs1 hP1 _ hS1 => ?_)
    rw [hset] at hP1
    exact k p env s m args below meth c R Q c0 k0 K0 hR kr kx kt he H1 ls locs1 ⟨hP1, hS1⟩ hl
  | lastore =>
    obtain ⟨rfl, v, j, a, t, n, rfl, hN, hs, hj, k⟩ := ha
    have hg : (mmW CA ρ N σ)[a]? = some (ρ a, .inl (CA 2, n, .inr (.inl (σ.2 a)))) := by rw [mmW_get hN, mmE_2 hs]
    have hset : (mmW CA ρ N σ).set a (ρ a, .inl (CA 2, n, .inr (.inl (vp_updL (σ.2 a) j.toNatClampNeg v)))) = mmW CA ρ N (mmJ σ a j.toNatClampNeg v) := mmW_set hN (by rw [mmE_2 hs, mmJ_self]) mmJ_other
    refine va_last hx hb hK hP hD hS a 2 hg rfl hj hd (fun H1 locs1 hP1 _ hS1 => ?_)
    rw [hset] at hP1
    exact k p env s m args below meth c R Q c0 k0 K0 hR kr kx kt he H1 ls locs1 ⟨hP1, hS1⟩ hl
  | arraylength =>
    obtain ⟨rfl, a, t, rfl, hh⟩ := ha
    rcases hh with ⟨k, n, hN, hs, hk, kk⟩ | ⟨rfl, k⟩
    · have hk' : k = 0 ∨ k = 1 ∨ k = 2 ∨ k = 3 := by omega
      rcases hk' with rfl | rfl | rfl | rfl
      · have hg : (mmW CA ρ N σ)[a]? = some (ρ a, .inl (CA 0, n, .inl (σ.1 a))) := by rw [mmW_get hN, mmE_0 hs]
        exact va_alen hx hb hK hP a 0 hg rfl rfl hd (kk p env s m args below meth c R Q c0 k0 K0 hR kr kx kt he H ls locs H0 hl)
      · have hg : (mmW CA ρ N σ)[a]? = some (ρ a, .inl (CA 1, n, .inl (σ.1 a))) := by rw [mmW_get hN, mmE_1 hs]
        exact va_alen hx hb hK hP a 1 hg rfl rfl hd (kk p env s m args below meth c R Q c0 k0 K0 hR kr kx kt he H ls locs H0 hl)
      · have hg : (mmW CA ρ N σ)[a]? = some (ρ a, .inl (CA 2, n, .inr (.inl (σ.2 a)))) := by rw [mmW_get hN, mmE_2 hs]
        exact va_alen hx hb hK hP a 2 hg rfl rfl hd (kk p env s m args below meth c R Q c0 k0 K0 hR kr kx kt he H ls locs H0 hl)
      · have hg : (mmW CA ρ N σ)[a]? = some (ρ a, .inl (CA 3, n, .inr (.inr (.inr (.inr (fun j => some (ρ (10 * j + 2)))))))) := by rw [mmW_get hN, mmE_3 hs]
        exact va_alen hx hb hK hP a 3 hg rfl rfl hd (kk p env s m args below meth c R Q c0 k0 K0 hR kr kx kt he H ls locs H0 hl)
    · have hgo := va_slen (rest := t.map (mmv ρ)) hx hb hXs hbs hbA hS hd (k p env s m args below meth c R Q c0 k0 K0 hR kr kx kt he H ls locs H0 hl)
      rw [← hρb] at hgo
      exact hgo
  | new k =>
    obtain ⟨rfl, E, i1, i2, hxs, he1, hc, hh, rfl⟩ := ha
    exact kt E rfl pc k i1 i2 ls H locs e _ hxs H0 hl.1 he1 (by rw [mmv_cats]; exact Nat.le_of_ble_eq_true hc) hh
  | ireturn =>
    obtain ⟨rfl, v, rfl, hv, rfl⟩ := ha
    exact kr (some (.int v)) rfl pc ls H locs e ⟨hd, hv⟩ H0 hl.1 he
  | lreturn =>
    obtain ⟨rfl, v, rfl, hv, rfl⟩ := ha
    exact kr (some (.long v)) rfl pc ls H locs e ⟨hd, hv⟩ H0 hl.1 he
  | return_ =>
    obtain ⟨rfl, rfl, hv, rfl⟩ := ha
    exact kr none rfl pc ls H locs e ⟨hd, hv⟩ H0 hl.1 he
  | invokestatic k => exact absurd rfl (hcall k).1
  | invokevirtual k => exact absurd rfl (hcall k).2
  | _ => exact ha.elim
end Step
end SN
