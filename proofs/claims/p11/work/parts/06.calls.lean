section SC
set_option maxRecDepth 100000 in
theorem xs_nx : ∀ q ∈ xsT, q.2.2.2.2.2 = nxN → ∀ w ∈ Cond.classLink (cn (mO q.1)) q.2.2.1 nxN :: Cond.initialized nxN :: (nxAt (cn (mO q.1)) q.2.2.2.2.1).filter vx_no, w ∈ lw_tbl ∧ okW w = true ∧ vx_ot w = true := by decide +kernel
variable {l : Launch} {s0 : State} {a0 : Array Value} {D : va_G} {CA : Nat → ClassId} {ρ : Nat → Nat} {b N L : Nat} {xs : Nat → Int32}
def mmPc (s0 : State) (D : va_G) (CA : Nat → ClassId) (ρ : Nat → Nat) (N : Nat) (As : List Value) (σ : mmS) : Array Value → State → Prop := va_Pc (As.map (mmv ρ)) (fun U => s0.WarmedH U.vm ∧ mmOld s0 U.heap ∧ va_P D clA (mmW CA ρ N σ) U.heap)
def mmQc (D : va_G) (CA : Nat → ClassId) (ρ : Nat → Nat) (N : Nat) (rc : mmR) : Array Value → State → Outcome → State → Prop := fun _ st oc t => (∃ v, rc.1 = .inl v ∧ oc = .returned (v.map (mmv ρ)) ∧ va_P D clA (mmW CA ρ N rc.2) t.heap) ∧ va_F (mmA ρ N) st t
def mmXC (D : va_G) (CA : Nat → ClassId) (ρ : Nat → Nat) (N : Nat) (rc : mmR) : String → State → State → Prop := fun E st t => rc.1 = .inr E ∧ va_P D clA (mmW CA ρ N rc.2) t.heap ∧ va_F (mmA ρ N) st t
def mmHd (z : Nat) : Jvm.Cond := if mH z = [] then .code (mN z) (mC z) (mL z) (mR z) else .codeWith (mN z) (mC z) (mL z) (mR z) (mH z)
def mmRm (z : Nat) : Room := { frames := mF z, locals := mLo z, cells := mE z, slots := 6 * mE z }
theorem mmPc_blind {As : List Value} {σ : mmS} : FrameBlind (mmPc s0 D CA ρ N As σ) := fun _ _ _ _ h => h
theorem mm_keptP {σ : mmS} {H H1 : Heap} (h : va_P D clA (mmW CA ρ N σ) H) (hk : ∀ q : Nat, q < H.size → H1[q]? = H[q]?) : va_P D clA (mmW CA ρ N σ) H1 := va_P.kept h (fun k q hq => hk _ (vx_lt h hq))
set_option maxHeartbeats 2000000 in
/-- a method's body meets what its run in the small machine says -/
theorem snd_body (G : mmG l s0 a0 D CA ρ b N L xs) {z : Nat} {As : List Value} {σ : mmS} {rc : mmR} (hw : (lg_sl As).length ≤ mL z) (h : Snd l s0 D CA ρ N (z, 0, lv_args 0 As, [], 0, σ) rc)
    {p : Program} {e : Env} {s : State} {m : MethodId} {args : Array Value} {below : List Frame} {meth : Method} {c : Code} (hx : p.tables.exec = Jvm.exec) (hb : c.code = mC z) (hr : meth.sig.returnType = mR z) (hml : c.maxLocals = mL z) (hown : s.vm.findClass (cn (mO z)) = some m.cls) (hlk : meth.locks = false)
    (ht : mH z ≠ [] → c.exceptionTable.toList = tableOf (mH z)) (ht0 : mH z = [] → ∀ x ∈ c.exceptionTable.toList, False) (hP : mmPc s0 D CA ρ N As σ args s) :
    W p l e (mmRm z) s m args below meth c s.heap [] 0 0 (vx_MQ below (mmQc D CA ρ N rc) (mmXC D CA ρ N rc) args s (mE z) (6 * mE z) (mmA ρ N)) (entryFrame m args (mL z)) := by
  have G0 := G
  obtain ⟨hst9, hT, hK0, hρ, hinj, hρb, hbl, hX, hNc, hZ1, hZ2, hnc, hxt⟩ := G
  obtain ⟨rfl, hW, ho, hPw⟩ := hP
  rw [lg_entry_eq]
  have hl := lv_entry (As.map (mmv ρ)) (n := mL z) (by rw [lgs_len]; exact hw)
  rw [lvA_map] at hl
  have K : mmK s0 z p s m meth c := ⟨hx, hb, hr, hml, hown, hlk, hW, ho, ht⟩
  have hS : va_S (mmA ρ N) s.heap s.heap [] := ⟨Nat.le_refl _, fun _ _ _ => rfl, fun _ h => by cases h⟩
  refine h p e s m _ below meth c (mmRm z) _ 0 0 K ⟨Nat.le_refl _, Nat.le_refl _, by show 0 + mE z ≤ mE z; omega, by show 0 + 6 * mE z ≤ 6 * mE z; omega⟩ ?_ ?_ ?_ (Nat.zero_le _) s.heap _ [] ⟨hPw, hS⟩ hl
  · intro v hv pc ls H locs e' hret hH hsz he'
    obtain ⟨hP1, hS1⟩ := hH
    dsimp only at hret he' hsz
    refine W.widen (k := mE z) (n := 6 * mE z) (by omega) (by omega) (vx_ret ?_)
    have hq : ∀ t : State, t.heap = H → s.WarmedH t.vm → mmQc D CA ρ N rc (As.map (mmv ρ)).toArray s (.returned (v.map (mmv ρ))) t := fun t ht _ => ⟨⟨v, hv, rfl, by rw [ht]; exact hP1⟩, mm_F hS1 ht⟩
    match v, hret, hq with
    | none, hret, hq => exact W.vret hx hb (hr.trans hret.2) hq hS1.2.2 hret.1 hlk
    | some (.int x), hret, hq =>
      rcases hret with ⟨hd, hm | ⟨hm, h01⟩⟩
      · exact W.iret hx hb (hr.trans hm) hq hS1.2.2 hd hlk
      · exact W.zret (ty := .boolean) hx hb (hr.trans hm) (by rcases h01 with rfl | rfl <;> rfl) hq hS1.2.2 hd hlk
    | some (.long x), hret, hq => exact W.lret hx hb (hr.trans hret.2) hq hS1.2.2 hret.1 hlk
    | some (.ref x), hret, hq => exact hret.elim
    | some (.float x), hret, hq => exact hret.elim
    | some (.double x), hret, hq => exact hret.elim
    | some .null, hret, hq => exact hret.elim
    | some (.retAddr x), hret, hq => exact hret.elim
  · intro E hE pc ls H locs e' st q ce hH he' hh hq hcv hcl
    obtain ⟨hP1, hS1⟩ := hH
    dsimp only at he' hh
    exact vx_out (fun x hx => (ht0 hh x hx).elim) hlk hq hcv hcl (fun t ht hA => ⟨hE, by rw [ht]; exact hP1, mm_F hS1 ht⟩) hS1.2.2 (by omega) (by omega)
  · intro E hE pc ik is ic ls H locs e' st hxs hH hsz he' hc hh
    obtain ⟨hP1, hS1⟩ := hH
    dsimp only at he' hh hsz hxs
    obtain ⟨d0, d3, d4, d6, d9⟩ := xs_dec _ hxs
    obtain ⟨hfit, hf6, hlo, z9, hz9, hz1, hz2⟩ := xs_oth _ hxs
    dsimp only at d0 d3 d4 d6 d9 hfit hf6 hlo hz1 hz2
    obtain ⟨sa, hsa⟩ := hxt z9 hz9
    rw [hz1, hz2] at hsa
    have hsub : ∀ q, mmA ρ N q → s0.heap.size ≤ q := fun q ⟨k, hk, e⟩ => by rw [← e]; exact hρ k hk
    have hU : vx_Zq Bundle.tN "UNASSIGNED_STACK" Bundle.steD (mmA ρ N) s s.heap := vx_Zq.narrow (vx_Zq.kept (vx_Zq.moved hW.alike hZ1) (fun a ha _ => ho.2 a ha)) hsub
    have hN : vx_Zq Bundle.tN "SUPPRESSED_SENTINEL" Bundle.listD (mmA ρ N) s s.heap := vx_Zq.narrow (vx_Zq.kept (vx_Zq.moved hW.alike hZ2) (fun a ha _ => ho.2 a ha)) hsub
    by_cases hNS : E = nxN
    · subst hNS
      have hwd := xs_nx _ hxs rfl
      dsimp only at hwd
      exact nx_throw hx hb hst9 hown (fun w hw => ⟨ok_at hT hW (hwd w hw).1 (hwd w hw).2.1, (hwd w hw).2.2⟩) (vk_R.warm hW hsa) hU hN hS1 (hsz.trans hml.symm) d0 d3 d4 d6 d9 (fun x hx => (ht0 hh x hx).elim) (by show 5 < mF z; omega) (by show (st.map fun v => v.category).sum + 82 ≤ mLo z; omega) (by show 0 + e' + 1 ≤ mE z; omega) (by show 0 + 6 * e' + 6 ≤ 6 * mE z; omega) hlk
        (fun t hz hk => ⟨hE, mm_keptP hP1 hk, ⟨Nat.le_trans hS1.1 hz, fun q h1 h2 => by rw [hk q (Nat.lt_of_lt_of_le h1 hS1.1)]; exact hS1.2.1 q h1 h2⟩⟩) hS1.2.2 (by omega) (by omega)
    have hwd := xs_wds _ hxs hNS
    dsimp only at hwd
    have hwa : ∀ w ∈ Cond.classLink (cn (mO z)) ik E :: Cond.initialized E :: vx_atS (cn (mO z)) ic E xsN, w.before (As.map (mmv ρ)).toArray s = true := fun w hw => ok_at hT hW (hwd w hw).1 (hwd w hw).2.1
    exact vx_throwS (names := xsN) hx hb hst9 hown hfit xsN_fit (hwa _ List.mem_cons_self) (hwa _ (List.mem_cons_of_mem _ List.mem_cons_self)) (vk_R.warm hW hsa) (fun w hw => hwa w (List.mem_cons_of_mem _ (List.mem_cons_of_mem _ hw))) (fun w hw => (hwd w hw).2.2)
      hU hN hS1 (hsz.trans hml.symm) d0 d3 d4 d6 d9 (fun x hx => (ht0 hh x hx).elim) (by show 2 + 3 < mF z; omega) (by show (st.map fun v => v.category).sum + (13 * (2 + 1) + 43) ≤ mLo z; omega) (by show 0 + e' + 1 ≤ mE z; omega) (by show 0 + 6 * e' + 6 ≤ 6 * mE z; omega) hlk
      (fun t _ hz hk => ⟨hE, mm_keptP hP1 hk, ⟨Nat.le_trans hS1.1 hz, fun q h1 h2 => by rw [hk q (Nat.lt_of_lt_of_le h1 hS1.1)]; exact hS1.2.1 q h1 h2⟩⟩) hS1.2.2 (by omega) (by omega)
/-- the contract of a method -/
theorem snd_met (G : mmG l s0 a0 D CA ρ b N L xs) {z : Nat} {As : List Value} {σ : mmS} {rc : mmR} (hz : plainName (mN z).cls = true) (hcls : (mN z).cls = cn (mO z)) (hw : (lg_sl As).length ≤ mL z) (h : Snd l s0 D CA ρ N (z, 0, lv_args 0 As, [], 0, σ) rc) :
    vx_Met l (mN z) [mmHd z] (mmRm z) (mmPc s0 D CA ρ N As σ) (mmQc D CA ρ N rc) (mmXC D CA ρ N rc) (mE z) (6 * mE z) (mmA ρ N) := by
  by_cases hh : mH z = []
  · refine vx_ofW (cc := mC z) (maxL := mL z) (ret := mR z) (ws' := []) hz (by unfold mmHd; rw [if_pos hh]) ?_
    intro p e s m args below meth c s₁ B hml ht hP
    have hown : s.vm.findClass (cn (mO z)) = some m.cls := by rw [← hcls]; exact findClass_of_methodNamed B.named
    exact snd_body G hw h B.exec B.bytes B.returns hml hown B.notSynchronized (fun h9 => absurd hh h9) (fun _ => ht) hP
  · refine vx_ofWH (cc := mC z) (maxL := mL z) (ret := mR z) (hh := mH z) (ws' := []) hz (by unfold mmHd; rw [if_neg hh]) ?_
    intro p e s m args below meth c s₁ B hml hP
    have hown : s.vm.findClass (cn (mO z)) = some m.cls := by rw [← hcls]; exact findClass_of_methodNamed B.named
    exact snd_body G hw h B.exec B.bytes B.returns hml hown B.notSynchronized (fun _ => vx_table (x := mN z) B (atoms_spec (ws := [mmHd z]) B.pre _ (by unfold mmHd; rw [if_neg hh]; exact List.mem_cons_self))) (fun h9 => absurd h9 hh) hP
/-- behind a call -/
theorem mm_after {p : Program} {e : Env} {R : Room} {s : State} {m : MethodId} {args : Array Value} {below : List Frame} {meth : Method} {c : Code} {H H0 : Heap} {locs : List Loc} {cells slots mc ms : Nat} {Q : State → Prop} {pc : Nat} {ls : Array Slot} {st0 rest : List Value} {a : Array Value} {rc : mmR}
    (hr : vx_Run p l e R s m args below meth c H locs cells slots mc ms (F0 m pc ls st0) rest (mmQc D CA ρ N rc a) (mmXC D CA ρ N rc) (mmA ρ N)) (hS : va_S (mmA ρ N) H0 H locs)
    (kk : ∀ v H1 locs1, rc.1 = .inl v → va_P D clA (mmW CA ρ N rc.2) H1 → va_S (mmA ρ N) H0 H1 locs1 → W p l e R s m args below meth c H1 locs1 (cells + mc) (slots + ms) Q (F0 m (pc + 3) ls ((v.map (mmv ρ)).toList ++ rest)))
    (kx : ∀ (E : String) (ce : Cell) (q : Addr) (H1 : Heap) (locs1 : List Loc), rc.1 = .inr E → va_P D clA (mmW CA ρ N rc.2) H1 → va_S (mmA ρ N) H0 H1 locs1 → H1[q]? = some ce → ce.vm = .none → s.vm.findClass E = some ce.cls → vx_W p l e R s m args below meth c H1 locs1 (cells + mc) (slots + ms) Q (F0 m pc ls rest) q) :
    W p l e R s m args below meth c H locs cells slots Q (F0 m pc ls st0) := by
  intro T hT X
  rcases hr T hT X with ⟨v, st₀, t, T', L, h0, X', hL, e1, e2, ⟨⟨v', hv, ho, hP⟩, hF⟩, st⟩ | ⟨q, st₀, t, T', L, E, ce, h0, X', hL, e1, e2, ⟨hE, hP, hF⟩, hce, hcv, hcl, st⟩
  · cases ho
    obtain ⟨k1, k2, k3⟩ := vx_keep h0 e1 hS (fun q _ h => h) (fun q h => h) hL hF
    obtain ⟨t2, a1, b1⟩ := kk v' T'.heap (locs ++ L) hv (by rw [e1]; exact hP) k3 T' rfl X'
    exact ⟨t2, st t2 a1, b1⟩
  · obtain ⟨k1, k2, k3⟩ := vx_keep h0 e1 hS (fun q _ h => h) (fun q h => h) hL hF
    obtain ⟨t2, a1, b1⟩ := kx E ce q T'.heap (locs ++ L) hE (by rw [e1]; exact hP) k3 (by rw [e1]; exact hce) hcv hcl T' rfl X'
    exact ⟨t2, st.trans a1, b1⟩
theorem hndl_spec {y pc h : Nat} {E : String} : ∀ {hs : List (Nat × Nat × Nat × Nat)}, hndl y pc E hs = some h → ∃ pre x suf, hs = pre ++ x :: suf ∧ x.2.2.1 = h ∧ x.1 ≤ pc ∧ pc < x.2.1 ∧ (mO y, x.2.2.2, E) ∈ ctT ∧ ∀ z ∈ pre, ¬ (z.1 ≤ pc ∧ pc < z.2.1) ∨ ∃ nm, (mO y, z.2.2.2, nm) ∈ ctT ∧ (E, nm) ∈ ncT
  | [], h9 => by cases h9
  | q :: t, h9 => by
    unfold hndl at h9
    by_cases hc : q.1 ≤ pc ∧ pc < q.2.1
    · rw [if_pos hc] at h9
      by_cases hm : (mO y, q.2.2.2, E) ∈ ctT
      · rw [if_pos hm] at h9
        cases h9
        exact ⟨[], q, t, rfl, rfl, hc.1, hc.2, hm, fun _ h => by cases h⟩
      · rw [if_neg hm] at h9
        by_cases hw : ∃ w ∈ ctT, w.1 = mO y ∧ w.2.1 = q.2.2.2 ∧ (E, w.2.2) ∈ ncT
        · rw [if_pos hw] at h9
          obtain ⟨w9, hw1, hw2, hw3, hw4⟩ := hw
          obtain ⟨pre, x, suf, e1, e2, e3, e4, e5, e6⟩ := hndl_spec h9
          refine ⟨q :: pre, x, suf, by rw [e1]; rfl, e2, e3, e4, e5, fun z hz => ?_⟩
          rcases List.mem_cons.mp hz with rfl | hz
          · exact Or.inr ⟨w9.2.2, by rw [← hw2, ← hw3]; exact hw1, hw4⟩
          · exact e6 z hz
        · rw [if_neg hw] at h9
          cases h9
    · rw [if_neg hc] at h9
      obtain ⟨pre, x, suf, e1, e2, e3, e4, e5, e6⟩ := hndl_spec h9
      refine ⟨q :: pre, x, suf, by rw [e1]; rfl, e2, e3, e4, e5, fun z hz => ?_⟩
      rcases List.mem_cons.mp hz with rfl | hz
      · exact Or.inl hc
      · exact e6 z hz
set_option maxHeartbeats 2000000 in
/-- a call whose run is there: what comes behind it -/
theorem snd_aft (G : mmG l s0 a0 D CA ρ b N L xs) {y pc : Nat} {lv : List (Nat × Value)} {t : List Value} {e z : Nat} {rc r : mmR} (haft : mmAft (Snd l s0 D CA ρ N) y pc lv t (e + mE z) rc r) (he9 : e + mE z ≤ mE y)
    {p : Program} {env : Env} {s : State} {m : MethodId} {args : Array Value} {below : List Frame} {meth : Method} {c : Code} {R : Room} {Q : State → Prop} {c0 k0 : Nat} (K : mmK s0 y p s m meth c) (hR : mF y ≤ R.frames ∧ mLo y ≤ R.locals ∧ c0 + mE y ≤ R.cells ∧ k0 + 6 * mE y ≤ R.slots)
    (kr : ∀ v, r.1 = .inl v → ∀ (pc : Nat) (ls : Array Slot) (H : Heap) (locs : List Loc) (e' : Nat), mmRet y pc v → mmH D CA ρ N s r.2 H locs → ls.size = mL y → e' ≤ mE y → W p l env R s m args below meth c H locs (c0 + e') (k0 + 6 * e') Q (F0 m pc ls (v.map (mmv ρ)).toList))
    (kx : ∀ E, r.1 = .inr E → ∀ (pc : Nat) (ls : Array Slot) (H : Heap) (locs : List Loc) (e' : Nat) (st : List Value) (q : Addr) (ce : Cell), mmH D CA ρ N s r.2 H locs → e' ≤ mE y → mH y = [] → H[q]? = some ce → ce.vm = .none → s.vm.findClass E = some ce.cls → vx_W p l env R s m args below meth c H locs (c0 + e') (k0 + 6 * e') Q (F0 m pc ls st) q)
    (kt : ∀ E, r.1 = .inr E → ∀ (pc ik is ic : Nat) (ls : Array Slot) (H : Heap) (locs : List Loc) (e' : Nat) (st : List Value), (y, pc, ik, is, ic, E) ∈ xsT → mmH D CA ρ N s r.2 H locs → ls.size = mL y → e' + 1 ≤ mE y → (st.map fun v => v.category).sum ≤ 8 → mH y = [] → W p l env R s m args below meth c H locs (c0 + e') (k0 + 6 * e') Q (F0 m pc ls st))
    {H : Heap} {ls : Array Slot} {locs : List Loc} (hH : va_S (mmA ρ N) s.heap H locs) (hl : lv_has ls (mL y) (lv.map (mmq ρ))) {st0 : List Value} {a : Array Value}
    (hrun : vx_Run p l env R s m args below meth c H locs (c0 + e) (k0 + 6 * e) (mE z) (6 * mE z) (F0 m pc ls st0) (t.map (mmv ρ)) (mmQc D CA ρ N rc a) (mmXC D CA ρ N rc) (mmA ρ N)) :
    W p l env R s m args below meth c H locs (c0 + e) (k0 + 6 * e) Q (F0 m pc ls st0) := by
  have e1 : c0 + e + mE z = c0 + (e + mE z) := Nat.add_assoc _ _ _
  have e2 : k0 + 6 * e + 6 * mE z = k0 + 6 * (e + mE z) := by omega
  refine mm_after hrun hH ?_ ?_
  · intro v H1 locs1 hv hP1 hS1
    rw [e1, e2]
    rcases haft with ⟨v', hv', P⟩ | ⟨E, hE, -⟩ | ⟨E, h, j, k, hE, -⟩
    · cases (hv.symm.trans hv')
      have hgo := P p env s m args below meth c R Q c0 k0 K hR kr kx kt he9 H1 ls locs1 ⟨hP1, hS1⟩ hl
      have est : (v.toList ++ t).map (mmv ρ) = (v.map (mmv ρ)).toList ++ t.map (mmv ρ) := by rw [List.map_append]; cases v <;> rfl
      dsimp only at hgo
      rw [est] at hgo
      exact hgo
    · rw [hv] at hE; cases hE
    · rw [hv] at hE; cases hE
  · intro E ce q H1 locs1 hE hP1 hS1 hq hcv hcl
    rw [e1, e2]
    rcases haft with ⟨v', hv', P⟩ | ⟨E', hE', hh, rfl⟩ | ⟨E', h, j, k, hE', hh, hi, hj, P⟩
    · rw [hE] at hv'; cases hv'
    · cases (hE.symm.trans hE')
      exact kx E rfl pc ls H1 locs1 (e + mE z) _ q ce ⟨hP1, hS1⟩ he9 hh hq hcv hcl
    · cases (hE.symm.trans hE')
      have K0 := K
      obtain ⟨hst9, hT, hK0, hρ, hinj, hρb, hbl, hX, hNc, hZ1, hZ2, hnc, hxt⟩ := G
      obtain ⟨hx, hb, hr, hml, hown, hlocks, hW0, hold, hex⟩ := K
      obtain ⟨pre, x, suf, f1, f2, f3, f4, f5, f6⟩ := hndl_spec hh
      have hne : mH y ≠ [] := by rw [f1]; exact fun h => by cases pre <;> cases h
      have htb : c.exceptionTable.toList = tableOf pre ++ (⟨x.1, x.2.1, x.2.2.1, x.2.2.2⟩ : ExceptionTableEntry) :: tableOf suf := by
        rw [hex hne, f1]; unfold tableOf; rw [List.map_append]; rfl
      have hts : ∀ w ∈ TBL, w.before args s = true := tb_at hT hW0
      obtain ⟨c1, c2, c3⟩ := ct_ok _ f5
      dsimp only at c1 c2 c3
      refine vx_catch (own := cn (mO y)) (name := E) hown (tableOf pre) _ (tableOf suf) htb ?_ ?_ c3 (hts _ c1) (ca_at hT hW0 c2) hq hcv hcl ?_
      · intro z9 hz9
        obtain ⟨z8, hz8, rfl⟩ := List.mem_map.mp hz9
        rcases f6 z8 hz8 with h9 | ⟨nm, h9, h8⟩
        · left
          show (decide (z8.1 ≤ pc) && decide (pc < z8.2.1)) = false
          rw [Bool.and_eq_false_iff, decide_eq_false_iff_not, decide_eq_false_iff_not]
          omega
        · obtain ⟨d1, d2, d3⟩ := ct_ok _ h9
          exact Or.inr ⟨d3, nm, hts _ d1, va_Nc.moved hW0.alike (hnc _ h8)⟩
      · show (decide (x.1 ≤ pc) && decide (pc < x.2.1)) = true
        rw [Bool.and_eq_true, decide_eq_true_eq, decide_eq_true_eq]
        exact ⟨f3, f4⟩
      · show W p l env R s m args below meth c H1 locs1 (c0 + (e + mE z)) (k0 + 6 * (e + mE z)) Q (F0 m x.2.2.1 ls [.ref q])
        rw [f2]
        have hend : ∀ ls' : Array Slot, lv_has ls' (mL y) ((j, Value.ref q) :: (lvD lv j).map (mmq ρ)) → W p l env R s m args below meth c H1 locs1 (c0 + (e + mE z)) (k0 + 6 * (e + mE z)) Q (F0 m (h + k) ls' []) := fun ls' hl' =>
          P p env s m args below meth c R Q c0 k0 K0 hR kr kx kt he9 H1 ls' locs1 ⟨hP1, hS1⟩ ⟨hl'.1, hl'.2.1, fun q9 hq9 => hl'.2.2 q9 (List.mem_cons_of_mem _ hq9)⟩
        rcases hi with ⟨hd9, rfl⟩ | ⟨i, hd9, hij, rfl⟩
        · exact lv_astore hx hb hd9 hl hj (by rw [lvD_map]) hend
        · exact lv_astore_n hx hb hd9 hij hl hj (by rw [lvD_map]) hend
theorem mmFit_spec {y z : Nat} (h : mmFit y z = true) : mF z + 1 ≤ mF y ∧ 8 + (mL z + 11) + mLo z ≤ mLo y := by
  unfold mmFit at h
  have h2 := Bool.and_eq_true _ _ ▸ h
  exact ⟨Nat.le_of_ble_eq_true h2.1, Nat.le_of_ble_eq_true h2.2⟩
/-- a run that never throws serves where a plain contract is asked -/
theorem mm_plainMet {z : Nat} {ws : List Jvm.Cond} {rm : Room} {Pc : Array Value → State → Prop} {rc : mmR} {v : Option Value} {mc ms : Nat} (hv : rc.1 = .inl v) (h : vx_Met l (mN z) ws rm Pc (mmQc D CA ρ N rc) (mmXC D CA ρ N rc) mc ms (mmA ρ N)) : Met l (mN z) ws rm Pc (mmQc D CA ρ N rc) mc ms (mmA ρ N) := by
  refine MetFree.mono h (fun _ _ h => h) (fun _ _ _ _ _ h => h) (fun a st o t _ hq => ?_)
  rcases hq with hq | ⟨q, rfl, E, ce, L, ⟨hE, -⟩, -⟩
  · exact hq
  · rw [hv] at hE; cases hE
set_option maxHeartbeats 4000000 in
theorem snd_static (G : mmG l s0 a0 D CA ρ b N L xs) {y pc : Nat} {lv : List (Nat × Value)} {st : List Value} {e : Nat} {σ : mmS} {r : mmR} {k len : Nat} (hd : decode (mC y) pc = .ok (.invokestatic k, len))
    (ha : mmArm N L xs (Snd l s0 D CA ρ N) y pc lv st e σ r (.invokestatic k) len) : Snd l s0 D CA ρ N (y, pc, lv, st, e, σ) r := by
  intro p env s m args below meth c R Q c0 k0 K hR kr kx kt he H ls locs hH hl
  obtain ⟨rfl, z, n, As, t, rc, hm, hz, hn, hw, rfl, hc, he9, hfit, hn1, hcal, haft⟩ := ha
  dsimp only at hd he hl hR kr kx kt ⊢
  obtain ⟨hP, hS⟩ := hH
  dsimp only at hP hS
  obtain ⟨hf1, hf2⟩ := mmFit_spec hfit
  obtain ⟨⟨m1, m2, m3, m4, m5, m6, m7, m8⟩, m9⟩ := ml_ok _ hm
  dsimp only at m1 m2 m3 m4 m5 m6 m7 m8 m9
  have hM := snd_met G m2 m3 (hw ▸ m1 : (lg_sl As).length ≤ mL z) hcal
  refine snd_aft G haft he9 K hR kr kx kt hS hl (a := (As.map (mmv ρ)).toArray) ?_
  have G0 := G
  obtain ⟨hst9, hT, hK0, hρ, hinj, hρb, hbl, hX, hNc, hZ1, hZ2, hnc, hxt⟩ := G
  obtain ⟨hx, hb, hr, hml, hown, hlocks, hW0, hold, hex⟩ := K
  have hts : ∀ w ∈ TBL, w.before args s = true := tb_at hT hW0
  have S : CallFix p m c (mC y) (mL y) s args TBL (cn (mO y)) := ⟨hx, hb, hml, hown, hts⟩
  have hpre : PreS s H (mmPc s0 D CA ρ N As σ) (As.map (mmv ρ)) := ⟨mmPc_blind, fun U hU hWU => ⟨rfl, State.WarmedH.trans hW0 hWU, by rw [hU]; exact mm_old hρ hold hS, by rw [hU]; exact hP⟩⟩
  have hsig : ∀ sig, parseMethodDescriptor (mN z).desc = some sig → mA z = sig.parameters.length := fun sig h => by
    rw [h] at m6; exact (Option.some.inj m6).symm
  have hlen : (As.map (mmv ρ)).length = mA z := by rw [List.length_map]; exact hn
  have hstk : (As.reverse ++ t).map (mmv ρ) = (As.map (mmv ρ)).reverse ++ t.map (mmv ρ) := by rw [List.map_append, List.map_reverse]
  have hroom : 2 * (F0 m pc ls ((As.reverse ++ t).map (mmv ρ))).monitorRoom + ((t.map (mmv ρ)).map fun v => v.category).sum ≤ 8 := lv_room (by rw [mmv_cats]; exact Nat.le_of_ble_eq_true hc)
  have hcs : c0 + e + mE z ≤ R.cells ∧ k0 + 6 * e + 6 * mE z ≤ R.slots := ⟨by omega, by omega⟩
  have hgood : ∀ w : Jvm.Cond, w ∈ TBL → ∀ w' ∈ [w], ∀ (a' : Array Value) (U : State), s.WarmedH U.vm → w'.before a' U = true := fun w hw w' hw' a' U hWU => by
    rw [List.mem_singleton.mp hw']
    exact word_at hWU (good_of_word (List.mem_filter.mp hw).2) (hts w hw)
  rcases m8 with ⟨-, hsta, hco⟩ | ⟨hz9, -⟩
  · rcases m9 with ⟨rfl, hlk⟩ | ⟨rfl, hh0, hlk⟩
    · rcases hco with ⟨hh0, hco⟩ | ⟨hh0, hco⟩
      · have ehd : mmHd z = .code (mN z) (mC z) (mL z) (mR z) := by unfold mmHd; rw [if_pos hh0]
        rw [ehd] at hM
        exact vx_runS (n := mA z) (bytes := mC z) (maxL := mL z) (ret := mR z) S hM ⟨⟨rfl, rfl, by show mF z + 1 ≤ R.frames; omega, by show 8 + (mL z + 11) + mLo z ≤ R.locals; omega, hgood _ hco, List.mem_cons_self, hts _ hco, hts _ m7, ⟨m4, m5⟩, hsig, hts _ hlk⟩, hts _ hsta⟩ hpre rfl hlen hl.1 hstk hroom hd hcs
      · have ehd : mmHd z = .codeWith (mN z) (mC z) (mL z) (mR z) (mH z) := by unfold mmHd; rw [if_neg hh0]
        rw [ehd] at hM
        exact vx_runSX (n := mA z) (bytes := mC z) (maxL := mL z) (ret := mR z) (hh := mH z) S hM ⟨⟨rfl, rfl, by show mF z + 1 ≤ R.frames; omega, by show 8 + (mL z + 11) + mLo z ≤ R.locals; omega, hgood _ hco, List.mem_cons_self⟩, hts _ hco, hts _ m7, ⟨m4, m5⟩, hsig, hts _ hlk, hts _ hsta⟩ hpre rfl hlen hl.1 hstk hroom hd hcs
    · obtain ⟨v, hv⟩ := hn1 rfl
      have hco : Cond.code (mN z) (mC z) (mL z) (mR z) ∈ TBL := by
        rcases hco with ⟨-, h9⟩ | ⟨h9, -⟩
        · exact h9
        · exact absurd hh0 h9
      have ehd : mmHd z = .code (mN z) (mC z) (mL z) (mR z) := by unfold mmHd; rw [if_pos hh0]
      rw [ehd] at hM
      have hrun : va_Run p l env R s m args below meth c H locs (c0 + e) (k0 + 6 * e) (mE z) (6 * mE z) (F0 m pc ls ((As.reverse ++ t).map (mmv ρ))) (t.map (mmv ρ)) (mmQc D CA ρ N rc (As.map (mmv ρ)).toArray) (mmA ρ N) := va_runSN (n := mA z) (bytes := mC z) (maxL := mL z) (ret := mR z) (host := "SlotBus") S (mm_plainMet hv hM) ⟨⟨⟨rfl, rfl, by show mF z + 1 ≤ R.frames; omega, by show 8 + (mL z + 11) + mLo z ≤ R.locals; omega, hgood _ hco, List.mem_cons_self⟩, hts _ hco, hts _ m7, ⟨m4, m5⟩, hsig, nm_at hT hW0 hlk⟩, hts _ hsta, trivial⟩ hpre rfl hlen hl.1 hstk hroom hd hcs
      exact fun T hT9 X9 => Or.inl (hrun T hT9 X9)
  · rw [hz] at hz9; cases hz9
set_option maxHeartbeats 4000000 in
theorem snd_virtual (G : mmG l s0 a0 D CA ρ b N L xs) {y pc : Nat} {lv : List (Nat × Value)} {st : List Value} {e : Nat} {σ : mmS} {r : mmR} {k len : Nat} (hd : decode (mC y) pc = .ok (.invokevirtual k, len))
    (ha : mmArm N L xs (Snd l s0 D CA ρ N) y pc lv st e σ r (.invokevirtual k) len) : Snd l s0 D CA ρ N (y, pc, lv, st, e, σ) r := by
  intro p env s m args below meth c R Q c0 k0 K hR kr kx kt he H ls locs hH hl
  obtain ⟨rfl, z, a, As, t, rc, ci, cs, hm, hz, hn, hw, rfl, hc, he9, hfit, hN, hs, hoz, hcal, haft⟩ := ha
  dsimp only at hd he hl hR kr kx kt ⊢
  obtain ⟨hP, hS⟩ := hH
  dsimp only at hP hS
  obtain ⟨hf1, hf2⟩ := mmFit_spec hfit
  obtain ⟨⟨m1, m2, m3, m4, m5, m6, m7, m8⟩, m9⟩ := ml_ok _ hm
  dsimp only at m1 m2 m3 m4 m5 m6 m7 m8 m9
  have hM := snd_met G m2 m3 (hw ▸ m1 : (lg_sl (.ref a :: As)).length ≤ mL z) hcal
  refine snd_aft G haft he9 K hR kr kx kt hS hl (a := (Value.ref (ρ a) :: As.map (mmv ρ)).toArray) ?_
  have G0 := G
  obtain ⟨hst9, hT, hK0, hρ, hinj, hρb, hbl, hX, hNc, hZ1, hZ2, hnc, hxt⟩ := G
  obtain ⟨hx, hb, hr, hml, hown, hlocks, hW0, hold, hex⟩ := K
  have hK : va_K D clA (tyA CA) s := va_K.moved hW0.alike hK0
  have hts : ∀ w ∈ TBL, w.before args s = true := tb_at hT hW0
  have S : CallFix p m c (mC y) (mL y) s args TBL (cn (mO y)) := ⟨hx, hb, hml, hown, hts⟩
  have hg : (mmW CA ρ N σ)[a]? = some (ρ a, .inr (ci, cs.mapIdx (slV ρ (σ.1 a) (σ.2 a)))) := by rw [mmW_get hN, mmE_o hs]
  obtain ⟨g1, g2, g3⟩ := shp_fact (Nat.lt_of_lt_of_le hN hNc) hs
  have hcell : ∃ cellB : Cell, H[ρ a]? = some cellB ∧ cellB.vm.isStatics = false ∧ s.vm.findClass (mN z).cls = some cellB.cls := by
    obtain ⟨r9, h1, cell, q1, q2, q3, q4⟩ := hP a _ hg
    obtain ⟨hS9, hfc, kC, hkC, hkind⟩ := hK.1 ci _ (clA_at ci g1)
    exact ⟨cell, q1, by rw [q3]; rfl, by rw [m3, hoz, q2]; exact hfc⟩
  have hpre : PreV s H (mN z).cls (ρ a) (mmPc s0 D CA ρ N (.ref a :: As) σ) (As.map (mmv ρ)) := ⟨mmPc_blind, hcell, fun U hU hWU => ⟨rfl, State.WarmedH.trans hW0 hWU, by rw [hU]; exact mm_old hρ hold hS, by rw [hU]; exact hP⟩⟩
  have hsig : ∀ sig, parseMethodDescriptor (mN z).desc = some sig → mA z = sig.parameters.length := fun sig h => by
    rw [h] at m6; exact (Option.some.inj m6).symm
  have hlen : (As.map (mmv ρ)).length = mA z := by rw [List.length_map]; exact hn
  have hstk : (As.reverse ++ Value.ref a :: t).map (mmv ρ) = (As.map (mmv ρ)).reverse ++ Value.ref (ρ a) :: t.map (mmv ρ) := by rw [List.map_append, List.map_reverse]; rfl
  have hroom : 2 * (F0 m pc ls ((As.reverse ++ Value.ref a :: t).map (mmv ρ))).monitorRoom + ((t.map (mmv ρ)).map fun v => v.category).sum ≤ 8 := lv_room (by rw [mmv_cats]; exact Nat.le_of_ble_eq_true hc)
  have hcs : c0 + e + mE z ≤ R.cells ∧ k0 + 6 * e + 6 * mE z ≤ R.slots := ⟨by omega, by omega⟩
  have hgood : ∀ w : Jvm.Cond, w ∈ TBL → ∀ w' ∈ [w], ∀ (a' : Array Value) (U : State), s.WarmedH U.vm → w'.before a' U = true := fun w hw w' hw' a' U hWU => by
    rw [List.mem_singleton.mp hw']
    exact word_at hWU (good_of_word (List.mem_filter.mp hw).2) (hts w hw)
  rcases m8 with ⟨hz9, -⟩ | ⟨-, hh0, hco, hins, hsel⟩
  · rw [hz] at hz9; cases hz9
  · have hlk : Cond.methodLink (cn (mO y)) k (mN z) ∈ TBL := by
      rcases m9 with ⟨-, h9⟩ | ⟨h9, -⟩
      · exact h9
      · cases h9
    have ehd : mmHd z = .code (mN z) (mC z) (mL z) (mR z) := by unfold mmHd; rw [if_pos hh0]
    rw [ehd] at hM
    exact vx_runV (n := mA z) (bytes := mC z) (maxL := mL z) (ret := mR z) S hM ⟨⟨rfl, rfl, by show mF z + 1 ≤ R.frames; omega, by show 8 + (mL z + 11) + mLo z ≤ R.locals; omega, hgood _ hco, List.mem_cons_self, hts _ hco, hts _ m7, ⟨m4, m5⟩, hsig, hts _ hlk⟩, hts _ hins, hts _ hsel⟩ hpre rfl hlen hl.1 hstk hroom hd hcs
/-- the small machine's runs are the machine's -/
theorem snd_rule (G : mmG l s0 a0 D CA ρ b N L xs) : ∀ x r, mmRule N L xs (Snd l s0 D CA ρ N) x r → Snd l s0 D CA ρ N x r := by
  rintro ⟨y, pc, lv, st, e, σ⟩ r (⟨i, len, hd, ha⟩ | ⟨lv', hs, ha⟩)
  rotate_left
  · intro p env s m args below meth c R Q c0 k0 K hR kr kx kt he H ls locs hH hl
    exact ha p env s m args below meth c R Q c0 k0 K hR kr kx kt he H ls locs hH ⟨hl.1, hl.2.1, fun q hq => by
      obtain ⟨q1, hq1, rfl⟩ := List.mem_map.mp hq
      exact hl.2.2 _ (List.mem_map.mpr ⟨q1, hs q1 hq1, rfl⟩)⟩
  by_cases h1 : ∃ k, i = .invokestatic k
  · obtain ⟨k, rfl⟩ := h1
    exact snd_static G hd ha
  · by_cases h2 : ∃ k, i = .invokevirtual k
    · obtain ⟨k, rfl⟩ := h2
      exact snd_virtual G hd ha
    · exact snd_plain G hd (fun k => ⟨fun h => h1 ⟨k, h⟩, fun h => h2 ⟨k, h⟩⟩) ha
theorem ev_sound (G : mmG l s0 a0 D CA ρ b N L xs) {x : mmX} {r : mmR} (h : Ev N L xs x r) : Snd l s0 D CA ρ N x r := h _ (snd_rule G)
end SC
