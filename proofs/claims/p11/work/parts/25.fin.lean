/-! THE CLAIM OUT OF ONE WALK OF THE LAW'S BODY. Your part is whole_start (and what it stands on); all else here is the same for every law, but numbers. -/
def R_law : String := "SlotBusLaw"
def lw_P (b : Addr) (xs : List Int32) (args : Array Value) (s : State) : Prop := args = #[.ref b] ∧ s.IntsAt b xs ∧ xs.length ≤ 3073 ∧ (Jvm.Cond.and given_1 narrow_1).before args s = true
def lw_Q (va : Int32) (_ : Array Value) (s : State) (o : Outcome) (t : State) : Prop := o = .returned (some (.int va)) ∧ Framed s o t [] 601024 7293000
def lw_Z (va : Int32) (below : List Frame) (a : Array Value) (s : State) : State → Prop := fun t => ∃ o, t.status = .running ∧ Ended t below o ∧ lw_Q va a s o t
/-- the law's own end, with 1 on the stack, nothing written that was there before, its room as the claim has it -/
theorem lw_ret {va : Int32} (hva : va = 0 ∨ va = 1) {p : Program} {l : Launch} {e : Env} {s : State} {m : MethodId} {below : List Frame} {meth : Method} {c : Code} {b : Nat} (hx : p.tables.exec = Jvm.exec) (hb : c.code = code) (hr : meth.sig.returnType = ret) (hlocks : meth.locks = false) {pc : Nat} {H : Heap} {ls : Array Slot} (hdg : decode code pc = .ok (.ireturn, 1)) : W p l e room_1 s m #[Value.ref b] below meth c H [] 601024 7293000 (lw_Z va below #[Value.ref b] s) (F0 m pc ls [.int va]) := by
  have hnb : narrow .boolean (.int va) = .int va := by rcases hva with rfl | rfl <;> rfl
  intro T hT X
  obtain ⟨fs, hret, hrun, hended, hW, hframe⟩ := X.leave (v := some (.int va)) (hlocks := hlocks) (fun h => by rw [hr] at h; cases h)
  have hmeth' : T.vm.method? m = some meth := X.method'
  refine ⟨T.setFrames fs, ?_, .returned (some (.int va)), hrun, hended, rfl, ⟨_, rfl⟩, hW, hframe⟩
  jvm_step X.here [X.here.top, hx, hb, hdg, hmeth', hr, ret, hnb]
  (try refine ⟨rfl, ?_⟩); (try refine ⟨rfl, ?_⟩)
  first | (intro acts; rw [hret _ acts rfl rfl rfl]) | rw [hret _ _ rfl rfl rfl]
  exact Steps.refl _
/-- what holds at the law's entry: the machine, the code, the tables' words (any of lw_tbl by 'hts w (by decide +kernel)'), the script of L ints xs at the cell b, what the Statement gives of the start (any of its parts by flat_of_before) -/
def lw_At (p : Program) (s : State) (m : MethodId) (meth : Method) (c : Code) (b L : Nat) (xs : Nat → Int32) : Prop :=
  p.tables.exec = Jvm.exec ∧ c.code = code ∧ meth.sig.returnType = ret ∧ c.maxLocals = 8 ∧ s.vm.findClass R_law = some m.cls ∧ (∀ w ∈ lw_tbl, w.before #[Value.ref b] s = true) ∧ va_X b L xs s s.heap ∧ b < s.heap.size ∧ meth.locks = false ∧ (Jvm.Cond.and given_1 narrow_1).before #[Value.ref b] s = true
section WS
variable {p : Program} {e : Env} {s : State} {m : MethodId} {below : List Frame} {meth : Method} {c : Code} {b L : Nat} {xs : Nat → Int32} {D : va_G} {CA : Nat → ClassId}
set_option maxHeartbeats 2000000 in
theorem lw_fin2 {va : Int32} (hva : va = 0 ∨ va = 1) (l : Launch) (hst : l.stackTraces = false) (hL : L ≤ 3073) (hx : p.tables.exec = Jvm.exec) (hb : c.code = code) (hr : meth.sig.returnType = ret) (hml : c.maxLocals = 8) (hown : s.vm.findClass "SlotBusLaw" = some m.cls) (hT : ∀ w ∈ lw_tbl, w.before #[Value.ref b] s = true) (hX : va_X b L xs s s.heap) (hbl : b < s.heap.size) (hlk : meth.locks = false) (hgv : (Jvm.Cond.and given_1 narrow_1).before #[Value.ref b] s = true) (hK : va_K D clA (tyA CA) s) {A : Nat → Prop} (hAo : ∀ q : Nat, A q → s.heap.size ≤ q) {v0 : Int32} {ρ : Nat → Nat} (h3ρ : ρ 1000 = b) {H : Heap} (hP : va_P D clA (cW CA ρ v0) H) (hD : va_D A (cW CA ρ v0)) (hS : va_S A s.heap H []) {ls : Array Slot} (hl : lv_has ls 8 [(3, .ref (ρ 65)), (2, .ref (ρ 42)), (1, .ref (ρ 0)), (0, .ref (ρ 1000))]) (hEv0 : ∃ σ2, Ev 66 L xs (132, 30, [(0, .ref 1000), (1, .ref 0), (2, .ref 42), (3, .ref 65)], [], 0, (sgI v0, sgJ)) (mmPI σ2 va)) :
    W p l e room_1 s m #[Value.ref b] below meth c H [] 66 413 (lw_Z va below #[Value.ref b] s) (F0 m 30 ls []) := by
  have h1ρ : ∀ k, k < 66 → s.heap.size ≤ ρ k := fun k hk => by
    obtain ⟨x, hx9⟩ := cw_get (CA := CA) (ρ := ρ) (v0 := v0) k hk
    exact hAo _ (hD.2 _ _ hx9)
  have h2ρ : ∀ i j, i < 66 → j < 66 → ρ i = ρ j → i = j := fun i j hi hj hij => by
    obtain ⟨x, hx9⟩ := cw_get (CA := CA) (ρ := ρ) (v0 := v0) i hi
    obtain ⟨y, hy9⟩ := cw_get (CA := CA) (ρ := ρ) (v0 := v0) j hj
    exact posC_inj i hi j hj (hD.1 _ _ _ _ hx9 hy9 hij)
  have hPm : va_P D clA (mmW CA ρ 66 (sgI v0, sgJ)) H := lw_PM hP
  have G : mmG l s #[Value.ref b] D CA ρ b 66 L xs := st_G hst hT hgv hK h1ρ h2ρ h3ρ hbl hX (by decide)
  obtain ⟨σ2, hEv⟩ := hEv0
  have hS2 : va_S (mmA ρ 66) s.heap H [] := ⟨hS.1, fun q h1 h2 => hS.2.1 q h1 (fun z => by have := hAo q z; omega), fun _ h => by cases h⟩
  have hl2 : lv_has ls 8 ([(0, Value.ref 1000), (1, .ref 0), (2, .ref 42), (3, .ref 65)].map (mmq ρ)) := by
    show lv_has ls 8 [(0, .ref (ρ 1000)), (1, .ref (ρ 0)), (2, .ref (ρ 42)), (3, .ref (ρ 65))]
    exact lv_sub hl [3, 2, 1, 0] rfl
  refine ev_sound G hEv p e s m #[Value.ref b] below meth c room_1 (lw_Z va below #[Value.ref b] s) 66 413 ⟨hx, hb, hr, hml, hown, hlk, State.WarmedH.refl s, ⟨Nat.le_refl _, fun _ _ => rfl⟩, fun h => absurd rfl h⟩ ⟨Nat.le_of_ble_eq_true rfl, Nat.le_of_ble_eq_true rfl, Nat.le_of_ble_eq_true rfl, Nat.le_of_ble_eq_true rfl⟩ ?_ ?_ ?_ (Nat.zero_le _) H ls [] ⟨hPm, hS2⟩ hl2
  · intro v hv pc ls H locs e' hret hH hsz he'
    cases hv
    refine va_forget (fun q hq => ?_) (W.widen (k := 601024) (n := 7293000) ?_ ?_ (lw_ret hva hx hb hr hlk hret.1))
    · obtain ⟨k, hk, e9⟩ := hH.2.2.2 q hq
      rw [← e9]
      exact h1ρ k hk
    · have h9 : e' ≤ 20000 := he'
      omega
    · have h9 : e' ≤ 20000 := he'
      omega
  · intro E hE; cases hE
  · intro E hE; cases hE
set_option maxHeartbeats 4000000 in
set_option maxRecDepth 100000 in
theorem lw_fin {va : Int32} (hva : va = 0 ∨ va = 1) (l : Launch) (hst : l.stackTraces = false) (hL : L ≤ 3073) (hx : p.tables.exec = Jvm.exec) (hb : c.code = code) (hr : meth.sig.returnType = ret) (hml : c.maxLocals = 8) (hown : s.vm.findClass "SlotBusLaw" = some m.cls) (hT : ∀ w ∈ lw_tbl, w.before #[Value.ref b] s = true) (hX : va_X b L xs s s.heap) (hbl : b < s.heap.size) (hlk : meth.locks = false) (hgv : (Jvm.Cond.and given_1 narrow_1).before #[Value.ref b] s = true) (hK : va_K D clA (tyA CA) s) {A : Nat → Prop} (hAo : ∀ q : Nat, A q → s.heap.size ≤ q) {v0 : Int32} {h1 b_q1 b_q2 b_tq1 b_sq1 b_dq1 b_eq1 b_oq1 b_mq1 b_iq1 b_gq1 b_rq1 b_q3 b_tq2 b_sq2 b_dq2 b_eq2 b_oq2 b_mq2 b_iq2 b_gq2 b_rq2 b_q4 b_tq3 b_sq3 b_dq3 b_eq3 b_oq3 b_mq3 b_iq3 b_gq3 b_rq3 b_q5 b_tq4 b_sq4 b_dq4 b_eq4 b_oq4 b_mq4 b_iq4 b_gq4 b_rq4 h2 m_q1 m_q2 m_q3 m_q4 m_q5 m_q6 m_q7 m_q8 m_q9 m_q10 m_q11 m_q12 m_q13 m_q14 m_q15 m_q16 m_q17 m_q18 m_q19 m_q20 m_q21 m_q22 qo : Nat} {W1 W2 : va_W} (hW1 : W1 = [(h1, .inr (6, [.ref b_q1, .long 0, .int 0, .int 0, .long (-1 : Int64)])), (b_q1, .inl (CA 3, 4, .inr (.inr (.inr (.inr (va_up (va_up (va_up (va_up (fun _ => none) (0 : Int32).toNatClampNeg (some b_q2)) (1 : Int32).toNatClampNeg (some b_q3)) (2 : Int32).toNatClampNeg (some b_q4)) (3 : Int32).toNatClampNeg (some b_q5))))))), (b_q2, .inr (3, [.int (0 : Int32), .int ((((v0.toUInt32 >>> (((8 : Int32) * (0 : Int32)).toUInt32 &&& Int32.toUInt32 31)).toInt32) &&& (255 : Int32)) - (((v0.toUInt32 >>> (((8 : Int32) * (0 : Int32)).toUInt32 &&& Int32.toUInt32 31)).toInt32) &&& (255 : Int32)) / (31 : Int32) * (31 : Int32)), .ref b_tq1, .ref b_sq1, .ref b_dq1, .ref b_gq1, .ref b_rq1, .int 0, .int 0, .int 0, .int 0, .int 0, .int 0])), (b_tq1, .inr (5, [.int 0, .int 0, .int 0, .int 0, .int 0])), (b_sq1, .inr (4, [.int 0, .int 0, .int 0, .int 0])), (b_dq1, .inr (0, [.ref b_eq1, .ref b_oq1, .ref b_mq1])), (b_eq1, .inl (CA 0, 4, .inl (fun j => if j < 4 then (1000 : Int32) else (fun _ => 0) j))), (b_oq1, .inl (CA 0, 4, .inl (fun j => if j < 4 then (1000 : Int32) else (fun _ => 0) j))), (b_mq1, .inr (2, [.ref b_iq1, .int (1 : Int32)])), (b_iq1, .inl (CA 0, 5, .inl (fun _ => 0))), (b_gq1, .inr (1, [.int 0, .int 0, .int 0, .int 0, .int 0])), (b_rq1, .inl (CA 0, 10, .inl (fun j => if j < 10 then (-1 : Int32) else (fun _ => 0) j))), (b_q3, .inr (3, [.int (1 : Int32), .int ((((v0.toUInt32 >>> (((8 : Int32) * (1 : Int32)).toUInt32 &&& Int32.toUInt32 31)).toInt32) &&& (255 : Int32)) - (((v0.toUInt32 >>> (((8 : Int32) * (1 : Int32)).toUInt32 &&& Int32.toUInt32 31)).toInt32) &&& (255 : Int32)) / (31 : Int32) * (31 : Int32)), .ref b_tq2, .ref b_sq2, .ref b_dq2, .ref b_gq2, .ref b_rq2, .int 0, .int 0, .int 0, .int 0, .int 0, .int 0])), (b_tq2, .inr (5, [.int 0, .int 0, .int 0, .int 0, .int 0])), (b_sq2, .inr (4, [.int 0, .int 0, .int 0, .int 0])), (b_dq2, .inr (0, [.ref b_eq2, .ref b_oq2, .ref b_mq2])), (b_eq2, .inl (CA 0, 4, .inl (fun j => if j < 4 then (1000 : Int32) else (fun _ => 0) j))), (b_oq2, .inl (CA 0, 4, .inl (fun j => if j < 4 then (1000 : Int32) else (fun _ => 0) j))), (b_mq2, .inr (2, [.ref b_iq2, .int (1 : Int32)])), (b_iq2, .inl (CA 0, 5, .inl (fun _ => 0))), (b_gq2, .inr (1, [.int 0, .int 0, .int 0, .int 0, .int 0])), (b_rq2, .inl (CA 0, 10, .inl (fun j => if j < 10 then (-1 : Int32) else (fun _ => 0) j))), (b_q4, .inr (3, [.int (2 : Int32), .int ((((v0.toUInt32 >>> (((8 : Int32) * (2 : Int32)).toUInt32 &&& Int32.toUInt32 31)).toInt32) &&& (255 : Int32)) - (((v0.toUInt32 >>> (((8 : Int32) * (2 : Int32)).toUInt32 &&& Int32.toUInt32 31)).toInt32) &&& (255 : Int32)) / (31 : Int32) * (31 : Int32)), .ref b_tq3, .ref b_sq3, .ref b_dq3, .ref b_gq3, .ref b_rq3, .int 0, .int 0, .int 0, .int 0, .int 0, .int 0])), (b_tq3, .inr (5, [.int 0, .int 0, .int 0, .int 0, .int 0])), (b_sq3, .inr (4, [.int 0, .int 0, .int 0, .int 0])), (b_dq3, .inr (0, [.ref b_eq3, .ref b_oq3, .ref b_mq3])), (b_eq3, .inl (CA 0, 4, .inl (fun j => if j < 4 then (1000 : Int32) else (fun _ => 0) j))), (b_oq3, .inl (CA 0, 4, .inl (fun j => if j < 4 then (1000 : Int32) else (fun _ => 0) j))), (b_mq3, .inr (2, [.ref b_iq3, .int (1 : Int32)])), (b_iq3, .inl (CA 0, 5, .inl (fun _ => 0))), (b_gq3, .inr (1, [.int 0, .int 0, .int 0, .int 0, .int 0])), (b_rq3, .inl (CA 0, 10, .inl (fun j => if j < 10 then (-1 : Int32) else (fun _ => 0) j))), (b_q5, .inr (3, [.int (3 : Int32), .int ((((v0.toUInt32 >>> (((8 : Int32) * (3 : Int32)).toUInt32 &&& Int32.toUInt32 31)).toInt32) &&& (255 : Int32)) - (((v0.toUInt32 >>> (((8 : Int32) * (3 : Int32)).toUInt32 &&& Int32.toUInt32 31)).toInt32) &&& (255 : Int32)) / (31 : Int32) * (31 : Int32)), .ref b_tq4, .ref b_sq4, .ref b_dq4, .ref b_gq4, .ref b_rq4, .int 0, .int 0, .int 0, .int 0, .int 0, .int 0])), (b_tq4, .inr (5, [.int 0, .int 0, .int 0, .int 0, .int 0])), (b_sq4, .inr (4, [.int 0, .int 0, .int 0, .int 0])), (b_dq4, .inr (0, [.ref b_eq4, .ref b_oq4, .ref b_mq4])), (b_eq4, .inl (CA 0, 4, .inl (fun j => if j < 4 then (1000 : Int32) else (fun _ => 0) j))), (b_oq4, .inl (CA 0, 4, .inl (fun j => if j < 4 then (1000 : Int32) else (fun _ => 0) j))), (b_mq4, .inr (2, [.ref b_iq4, .int (1 : Int32)])), (b_iq4, .inl (CA 0, 5, .inl (fun _ => 0))), (b_gq4, .inr (1, [.int 0, .int 0, .int 0, .int 0, .int 0])), (b_rq4, .inl (CA 0, 10, .inl (fun j => if j < 10 then (-1 : Int32) else (fun _ => 0) j)))]) (hW2 : W2 = [(m_q1, .inl (CA 0, 4, .inl (upd (upd (upd (upd (fun _ => 0) (0 : Int32).toNatClampNeg ((((v0.toUInt32 >>> (((8 : Int32) * (0 : Int32)).toUInt32 &&& Int32.toUInt32 31)).toInt32) &&& (255 : Int32)) - (((v0.toUInt32 >>> (((8 : Int32) * (0 : Int32)).toUInt32 &&& Int32.toUInt32 31)).toInt32) &&& (255 : Int32)) / (31 : Int32) * (31 : Int32))) (1 : Int32).toNatClampNeg ((((v0.toUInt32 >>> (((8 : Int32) * (1 : Int32)).toUInt32 &&& Int32.toUInt32 31)).toInt32) &&& (255 : Int32)) - (((v0.toUInt32 >>> (((8 : Int32) * (1 : Int32)).toUInt32 &&& Int32.toUInt32 31)).toInt32) &&& (255 : Int32)) / (31 : Int32) * (31 : Int32))) (2 : Int32).toNatClampNeg ((((v0.toUInt32 >>> (((8 : Int32) * (2 : Int32)).toUInt32 &&& Int32.toUInt32 31)).toInt32) &&& (255 : Int32)) - (((v0.toUInt32 >>> (((8 : Int32) * (2 : Int32)).toUInt32 &&& Int32.toUInt32 31)).toInt32) &&& (255 : Int32)) / (31 : Int32) * (31 : Int32))) (3 : Int32).toNatClampNeg ((((v0.toUInt32 >>> (((8 : Int32) * (3 : Int32)).toUInt32 &&& Int32.toUInt32 31)).toInt32) &&& (255 : Int32)) - (((v0.toUInt32 >>> (((8 : Int32) * (3 : Int32)).toUInt32 &&& Int32.toUInt32 31)).toInt32) &&& (255 : Int32)) / (31 : Int32) * (31 : Int32))))), (m_q2, .inl (CA 0, 4, .inl (fun _ => 0))), (m_q3, .inl (CA 0, 4, .inl (fun _ => 0))), (m_q4, .inl (CA 0, 4, .inl (fun _ => 0))), (m_q5, .inl (CA 0, 4, .inl (fun _ => 0))), (m_q6, .inl (CA 0, 4, .inl (fun _ => 0))), (m_q7, .inl (CA 0, 4, .inl (fun _ => 0))), (m_q8, .inl (CA 0, 4, .inl (fun _ => 0))), (m_q9, .inl (CA 0, 4, .inl (fun _ => 0))), (m_q10, .inl (CA 0, 4, .inl (fun _ => 0))), (m_q11, .inl (CA 0, 4, .inl (fun _ => 0))), (m_q12, .inl (CA 0, 4, .inl (fun _ => 0))), (m_q13, .inl (CA 0, 4, .inl (fun _ => 0))), (m_q14, .inl (CA 1, 4, .inl (fun _ => 0))), (m_q16, .inl (CA 0, 40, .inl (fun _ => 0))), (m_q17, .inl (CA 0, 4, .inl (fun _ => 0))), (m_q18, .inl (CA 0, 4, .inl (fun _ => 0))), (m_q19, .inl (CA 0, 4, .inl (fun _ => 0))), (m_q20, .inl (CA 0, 4, .inl (fun _ => 0))), (m_q21, .inl (CA 0, 4, .inl (fun _ => 0))), (m_q22, .inl (CA 0, 5, .inl (fun _ => 0))), (h2, .inr (7, [.int 0, .ref m_q1, .ref m_q2, .ref m_q3, .ref m_q4, .ref m_q5, .ref m_q6, .ref m_q7, .ref m_q8, .ref m_q9, .ref m_q10, .ref m_q11, .ref m_q12, .ref m_q13, .ref m_q14, .ref m_q15, .ref m_q16, .ref m_q17, .ref m_q18, .ref m_q19, .ref m_q20, .ref m_q21, .int 0, .long 0, .long 0, .int 0, .long 0, .int 0, .int 0, .ref m_q22])), (m_q15, .inl (CA 0, 32, .inl (fg3 (fg2 (fg1 (fg0 (fun _ => 0)))))))]) {H : Heap} (hP : va_P D clA ((W1 ++ W2) ++ [(qo, .inl (CA 2, 1, .inr (.inl (fun _ => 0))))]) H) (hD : va_D A ((W1 ++ W2) ++ [(qo, .inl (CA 2, 1, .inr (.inl (fun _ => 0))))])) (hS : va_S A s.heap H []) {ls : Array Slot} (hl : lv_has ls 8 [(3, .ref qo), (2, .ref h2), (1, .ref h1), (0, .ref b)]) (hEv0 : ∃ σ2, Ev 66 L xs (132, 30, [(0, .ref 1000), (1, .ref 0), (2, .ref 42), (3, .ref 65)], [], 0, (sgI v0, sgJ)) (mmPI σ2 va)) :
    W p l e room_1 s m #[Value.ref b] below meth c H [] 66 413 (lw_Z va below #[Value.ref b] s) (F0 m 30 ls []) := by
  obtain ⟨ρ, hρ⟩ : ∃ ρ : Nat → Nat, ρ = fun k => if k = 1000 then b else ([h1, b_q1, b_q2, b_tq1, b_sq1, b_dq1, b_eq1, b_oq1, b_mq1, b_iq1, b_gq1, b_rq1, b_q3, b_tq2, b_sq2, b_dq2, b_eq2, b_oq2, b_mq2, b_iq2, b_gq2, b_rq2, b_q4, b_tq3, b_sq3, b_dq3, b_eq3, b_oq3, b_mq3, b_iq3, b_gq3, b_rq3, b_q5, b_tq4, b_sq4, b_dq4, b_eq4, b_oq4, b_mq4, b_iq4, b_gq4, b_rq4, h2, m_q1, m_q2, m_q3, m_q4, m_q5, m_q6, m_q7, m_q8, m_q9, m_q10, m_q11, m_q12, m_q13, m_q14, m_q15, m_q16, m_q17, m_q18, m_q19, m_q20, m_q21, m_q22, qo] : List Nat).getD k 0 := ⟨_, rfl⟩
  have h3ρ : ρ 1000 = b := by rw [hρ]; rfl
  have r0 : ρ 0 = h1 := by rw [hρ]; rfl
  have r1 : ρ 1 = b_q1 := by rw [hρ]; rfl
  have r2 : ρ 2 = b_q2 := by rw [hρ]; rfl
  have r3 : ρ 3 = b_tq1 := by rw [hρ]; rfl
  have r4 : ρ 4 = b_sq1 := by rw [hρ]; rfl
  have r5 : ρ 5 = b_dq1 := by rw [hρ]; rfl
  have r6 : ρ 6 = b_eq1 := by rw [hρ]; rfl
  have r7 : ρ 7 = b_oq1 := by rw [hρ]; rfl
  have r8 : ρ 8 = b_mq1 := by rw [hρ]; rfl
  have r9 : ρ 9 = b_iq1 := by rw [hρ]; rfl
  have r10 : ρ 10 = b_gq1 := by rw [hρ]; rfl
  have r11 : ρ 11 = b_rq1 := by rw [hρ]; rfl
  have r12 : ρ 12 = b_q3 := by rw [hρ]; rfl
  have r13 : ρ 13 = b_tq2 := by rw [hρ]; rfl
  have r14 : ρ 14 = b_sq2 := by rw [hρ]; rfl
  have r15 : ρ 15 = b_dq2 := by rw [hρ]; rfl
  have r16 : ρ 16 = b_eq2 := by rw [hρ]; rfl
  have r17 : ρ 17 = b_oq2 := by rw [hρ]; rfl
  have r18 : ρ 18 = b_mq2 := by rw [hρ]; rfl
  have r19 : ρ 19 = b_iq2 := by rw [hρ]; rfl
  have r20 : ρ 20 = b_gq2 := by rw [hρ]; rfl
  have r21 : ρ 21 = b_rq2 := by rw [hρ]; rfl
  have r22 : ρ 22 = b_q4 := by rw [hρ]; rfl
  have r23 : ρ 23 = b_tq3 := by rw [hρ]; rfl
  have r24 : ρ 24 = b_sq3 := by rw [hρ]; rfl
  have r25 : ρ 25 = b_dq3 := by rw [hρ]; rfl
  have r26 : ρ 26 = b_eq3 := by rw [hρ]; rfl
  have r27 : ρ 27 = b_oq3 := by rw [hρ]; rfl
  have r28 : ρ 28 = b_mq3 := by rw [hρ]; rfl
  have r29 : ρ 29 = b_iq3 := by rw [hρ]; rfl
  have r30 : ρ 30 = b_gq3 := by rw [hρ]; rfl
  have r31 : ρ 31 = b_rq3 := by rw [hρ]; rfl
  have r32 : ρ 32 = b_q5 := by rw [hρ]; rfl
  have r33 : ρ 33 = b_tq4 := by rw [hρ]; rfl
  have r34 : ρ 34 = b_sq4 := by rw [hρ]; rfl
  have r35 : ρ 35 = b_dq4 := by rw [hρ]; rfl
  have r36 : ρ 36 = b_eq4 := by rw [hρ]; rfl
  have r37 : ρ 37 = b_oq4 := by rw [hρ]; rfl
  have r38 : ρ 38 = b_mq4 := by rw [hρ]; rfl
  have r39 : ρ 39 = b_iq4 := by rw [hρ]; rfl
  have r40 : ρ 40 = b_gq4 := by rw [hρ]; rfl
  have r41 : ρ 41 = b_rq4 := by rw [hρ]; rfl
  have r42 : ρ 42 = h2 := by rw [hρ]; rfl
  have r43 : ρ 43 = m_q1 := by rw [hρ]; rfl
  have r44 : ρ 44 = m_q2 := by rw [hρ]; rfl
  have r45 : ρ 45 = m_q3 := by rw [hρ]; rfl
  have r46 : ρ 46 = m_q4 := by rw [hρ]; rfl
  have r47 : ρ 47 = m_q5 := by rw [hρ]; rfl
  have r48 : ρ 48 = m_q6 := by rw [hρ]; rfl
  have r49 : ρ 49 = m_q7 := by rw [hρ]; rfl
  have r50 : ρ 50 = m_q8 := by rw [hρ]; rfl
  have r51 : ρ 51 = m_q9 := by rw [hρ]; rfl
  have r52 : ρ 52 = m_q10 := by rw [hρ]; rfl
  have r53 : ρ 53 = m_q11 := by rw [hρ]; rfl
  have r54 : ρ 54 = m_q12 := by rw [hρ]; rfl
  have r55 : ρ 55 = m_q13 := by rw [hρ]; rfl
  have r56 : ρ 56 = m_q14 := by rw [hρ]; rfl
  have r57 : ρ 57 = m_q15 := by rw [hρ]; rfl
  have r58 : ρ 58 = m_q16 := by rw [hρ]; rfl
  have r59 : ρ 59 = m_q17 := by rw [hρ]; rfl
  have r60 : ρ 60 = m_q18 := by rw [hρ]; rfl
  have r61 : ρ 61 = m_q19 := by rw [hρ]; rfl
  have r62 : ρ 62 = m_q20 := by rw [hρ]; rfl
  have r63 : ρ 63 = m_q21 := by rw [hρ]; rfl
  have r64 : ρ 64 = m_q22 := by rw [hρ]; rfl
  have r65 : ρ 65 = qo := by rw [hρ]; rfl
  have hWe : cW CA ρ v0 = ((W1 ++ W2) ++ [(qo, .inl (CA 2, 1, .inr (.inl (fun _ => 0))))]) := by
    rw [hW1, hW2]
    unfold cW
    rw [r0, r1, r2, r3, r4, r5, r6, r7, r8, r9, r10, r11, r12, r13, r14, r15, r16, r17, r18, r19, r20, r21, r22, r23, r24, r25, r26, r27, r28, r29, r30, r31, r32, r33, r34, r35, r36, r37, r38, r39, r40, r41, r42, r43, r44, r45, r46, r47, r48, r49, r50, r51, r52, r53, r54, r55, r56, r57, r58, r59, r60, r61, r62, r63, r64, r65]
  refine lw_fin2 hva l hst hL hx hb hr hml hown hT hX hbl hlk hgv hK hAo (v0 := v0) h3ρ (by rw [hWe]; exact hP) (by rw [hWe]; exact hD) hS ?_ hEv0
  rw [h3ρ, r0, r42, r65]
  exact hl
end WS
