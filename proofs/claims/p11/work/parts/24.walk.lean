section WK
theorem wl_1 : Cond.classLink "SlotBusLaw" 8 "SlotBus" ∈ TBL := tbm (i := 52) (by decide +kernel) (by decide +kernel)
theorem wl_2 : Cond.instantiable "SlotBus" 5 ∈ TBL := tbm (i := 53) (by decide +kernel) (by decide +kernel)
theorem wl_3 : Cond.initialized "SlotBus" ∈ TBL := tbm (i := 36) (by decide +kernel) (by decide +kernel)
theorem wl_4 : Cond.classLink "SlotBusLaw" 75 "SlotBusModel" ∈ TBL := tbm (i := 713) (by decide +kernel) (by decide +kernel)
theorem wl_5 : Cond.instantiable "SlotBusModel" 30 ∈ TBL := tbm (i := 714) (by decide +kernel) (by decide +kernel)
theorem wl_6 : Cond.initialized "SlotBusModel" ∈ TBL := tbm (i := 44) (by decide +kernel) (by decide +kernel)
theorem wl_b1 : Cond.code ⟨"SlotBus", "<init>", "(I)V"⟩ prog_1_method_1_code 3 none ∈ TBL := tbm (i := 56) (by decide +kernel) (by decide +kernel)
theorem wl_b2 : Cond.instanceMethod ⟨"SlotBus", "<init>", "(I)V"⟩ ∈ TBL := tbm (i := 55) (by decide +kernel) (by decide +kernel)
theorem wl_b3 : Cond.methodLink "SlotBusLaw" 73 ⟨"SlotBus", "<init>", "(I)V"⟩ ∈ TBL := tbm (i := 54) (by decide +kernel) (by decide +kernel)
theorem wl_m1 : Cond.code ⟨"SlotBusModel", "<init>", "(I)V"⟩ prog_10_method_1_code 3 none ∈ TBL := tbm (i := 717) (by decide +kernel) (by decide +kernel)
theorem wl_m2 : Cond.instanceMethod ⟨"SlotBusModel", "<init>", "(I)V"⟩ ∈ TBL := tbm (i := 716) (by decide +kernel) (by decide +kernel)
theorem wl_m3 : Cond.methodLink "SlotBusLaw" 77 ⟨"SlotBusModel", "<init>", "(I)V"⟩ ∈ TBL := tbm (i := 715) (by decide +kernel) (by decide +kernel)
variable {p : Program} {e : Env} {s : State} {m : MethodId} {below : List Frame} {meth : Method} {c : Code} {l : Launch} {b L : Nat} {xs : Nat → Int32} {D : va_G} {CA : Nat → ClassId}
set_option maxHeartbeats 2000000 in
theorem lw_cell (hx : p.tables.exec = Jvm.exec) (hb : c.code = code) (hml : c.maxLocals = 8) (hown : s.vm.findClass "SlotBusLaw" = some m.cls) (hT : ∀ w ∈ lw_tbl, w.before #[Value.ref b] s = true) (hst : l.stackTraces = false) (hgv : (Jvm.Cond.and given_1 narrow_1).before #[Value.ref b] s = true) (hK : va_K D clA (tyA CA) s) (hX : va_X b L xs s s.heap) (hbl : b < s.heap.size) (hL : L ≤ 3073) {H : Heap} (hold : mmOld s H) {pc : Nat} {ls : Array Slot} {rest : List Value} {cells slots : Nat} {Q : State → Prop} (hsz : ls.size = 8) (hroom : Nat.ble ((rest.map fun v => v.category).sum) 8 = true) (hd : decode code pc = .ok (.invokestatic 67, 3)) (hf : cells + 0 ≤ room_1.cells ∧ slots + 0 ≤ room_1.slots)
    (kk : ∀ H1 : Heap, H.size ≤ H1.size → (∀ q : Nat, q < H.size → H1[q]? = H[q]?) → W p l e room_1 s m #[Value.ref b] below meth c H1 [] cells slots Q (F0 m (pc + 3) ls (.int (if 0 < L then xs 0 else 0) :: rest))) : W p l e room_1 s m #[Value.ref b] below meth c H [] cells slots Q (F0 m pc ls (.int 0 :: .ref b :: rest)) := by
  have G0 : mmG l s #[Value.ref b] D CA (fun _ => b) b 0 L xs := st_G hst hT hgv hK (fun k h => absurd h (Nat.not_lt_zero _)) (fun i j h => absurd h (Nat.not_lt_zero _)) rfl hbl hX (Nat.zero_le _)
  have hts : ∀ w ∈ TBL, w.before #[Value.ref b] s = true := tb_at hT (State.WarmedH.refl s)
  obtain ⟨⟨m1, m2, m3, m4, m5, m6, m7, m8⟩, m9⟩ := mq_9_67
  have hM := snd_met G0 (z := 2) (As := [.ref 1000, .int 0]) (σ := (fun _ _ => 0, fun _ _ => 0)) m2 m3 (Nat.le_of_ble_eq_true rfl) (ev_sound G0 (ev_cell (by omega) _))
  have ehd : mmHd 2 = .code (mN 2) (mC 2) (mL 2) (mR 2) := by unfold mmHd; exact if_pos (show mH 2 = [] from rfl)
  rw [ehd] at hM
  have hco : Cond.code (mN 2) (mC 2) (mL 2) (mR 2) ∈ TBL := by
    rcases m8 with ⟨-, -, ⟨-, h⟩ | ⟨h, -⟩⟩ | ⟨h, -⟩
    · exact h
    · exact absurd rfl h
    · cases h
  have hsta : Cond.static (mN 2) ∈ TBL := by
    rcases m8 with ⟨-, h, -⟩ | ⟨h, -⟩
    · exact h
    · cases h
  have hlk : Cond.methodLink (cn 9) 67 (mN 2) ∈ TBL := by
    rcases m9 with ⟨-, h⟩ | ⟨h, -⟩
    · exact h
    · cases h
  have hr : vx_Run p l e room_1 s m #[Value.ref b] below meth c H [] cells slots (mE 2) (6 * mE 2) (F0 m pc ls (.int 0 :: .ref b :: rest)) rest (mmQc D CA (fun _ => b) 0 (mmPI (fun _ _ => 0, fun _ _ => 0) (if 0 < L then xs 0 else 0)) ([Value.ref b, .int 0] : List Value).toArray) (mmXC D CA (fun _ => b) 0 (mmPI (fun _ _ => 0, fun _ _ => 0) (if 0 < L then xs 0 else 0))) (mmA (fun _ => b) 0) :=
    vx_runS (n := 2) (bytes := mC 2) (maxL := mL 2) (ret := mR 2) (Ts := TBL) (own := "SlotBusLaw") (cc := code) (nL := 8) ⟨hx, hb, hml, hown, hts⟩ hM ⟨⟨rfl, rfl, by decide, by decide, ct_good hts hco, List.mem_cons_self, hts _ hco, hts _ m7, ⟨m4, m5⟩, fun sig h => by rw [h] at m6; exact (Option.some.inj m6).symm, hts _ hlk⟩, hts _ hsta⟩ ⟨mmPc_blind, fun U hU hWU => ⟨rfl, hWU, by rw [hU]; exact hold, fun k q hk => by cases hk⟩⟩ rfl rfl hsz rfl (lv_room (Nat.le_of_ble_eq_true hroom)) hd hf
  refine mm_after hr (H0 := H) ⟨Nat.le_refl _, fun _ _ _ => rfl, fun _ h => by cases h⟩ ?_ ?_
  · intro v H1 locs1 hv _ hS1
    cases hv
    exact va_forget (fun q hq => by obtain ⟨k, hk, -⟩ := hS1.2.2 q hq; exact absurd hk (Nat.not_lt_zero _)) (kk H1 hS1.1 (fun q hq => hS1.2.1 q hq (fun ⟨k, hk, _⟩ => absurd hk (Nat.not_lt_zero _))))
  · intro E ce q H1 locs1 hE
    cases hE
def sgI (v0 : Int32) : Nat → Nat → Int32 := fun k => match k with
  | 0 => fun j => match j with | 2 => 0 | 3 => 0 | _ => 0
  | 2 => fun j => match j with | 0 => (0 : Int32) | 1 => ((((v0.toUInt32 >>> (((8 : Int32) * (0 : Int32)).toUInt32 &&& Int32.toUInt32 31)).toInt32) &&& (255 : Int32)) - (((v0.toUInt32 >>> (((8 : Int32) * (0 : Int32)).toUInt32 &&& Int32.toUInt32 31)).toInt32) &&& (255 : Int32)) / (31 : Int32) * (31 : Int32)) | 7 => 0 | 8 => 0 | 9 => 0 | 10 => 0 | 11 => 0 | 12 => 0 | _ => 0
  | 3 => fun j => match j with | 0 => 0 | 1 => 0 | 2 => 0 | 3 => 0 | 4 => 0 | _ => 0
  | 4 => fun j => match j with | 0 => 0 | 1 => 0 | 2 => 0 | 3 => 0 | _ => 0
  | 6 => (fun j => if j < 4 then (1000 : Int32) else (fun _ => 0) j)
  | 7 => (fun j => if j < 4 then (1000 : Int32) else (fun _ => 0) j)
  | 8 => fun j => match j with | 1 => (1 : Int32) | _ => 0
  | 9 => (fun _ => 0)
  | 10 => fun j => match j with | 0 => 0 | 1 => 0 | 2 => 0 | 3 => 0 | 4 => 0 | _ => 0
  | 11 => (fun j => if j < 10 then (-1 : Int32) else (fun _ => 0) j)
  | 12 => fun j => match j with | 0 => (1 : Int32) | 1 => ((((v0.toUInt32 >>> (((8 : Int32) * (1 : Int32)).toUInt32 &&& Int32.toUInt32 31)).toInt32) &&& (255 : Int32)) - (((v0.toUInt32 >>> (((8 : Int32) * (1 : Int32)).toUInt32 &&& Int32.toUInt32 31)).toInt32) &&& (255 : Int32)) / (31 : Int32) * (31 : Int32)) | 7 => 0 | 8 => 0 | 9 => 0 | 10 => 0 | 11 => 0 | 12 => 0 | _ => 0
  | 13 => fun j => match j with | 0 => 0 | 1 => 0 | 2 => 0 | 3 => 0 | 4 => 0 | _ => 0
  | 14 => fun j => match j with | 0 => 0 | 1 => 0 | 2 => 0 | 3 => 0 | _ => 0
  | 16 => (fun j => if j < 4 then (1000 : Int32) else (fun _ => 0) j)
  | 17 => (fun j => if j < 4 then (1000 : Int32) else (fun _ => 0) j)
  | 18 => fun j => match j with | 1 => (1 : Int32) | _ => 0
  | 19 => (fun _ => 0)
  | 20 => fun j => match j with | 0 => 0 | 1 => 0 | 2 => 0 | 3 => 0 | 4 => 0 | _ => 0
  | 21 => (fun j => if j < 10 then (-1 : Int32) else (fun _ => 0) j)
  | 22 => fun j => match j with | 0 => (2 : Int32) | 1 => ((((v0.toUInt32 >>> (((8 : Int32) * (2 : Int32)).toUInt32 &&& Int32.toUInt32 31)).toInt32) &&& (255 : Int32)) - (((v0.toUInt32 >>> (((8 : Int32) * (2 : Int32)).toUInt32 &&& Int32.toUInt32 31)).toInt32) &&& (255 : Int32)) / (31 : Int32) * (31 : Int32)) | 7 => 0 | 8 => 0 | 9 => 0 | 10 => 0 | 11 => 0 | 12 => 0 | _ => 0
  | 23 => fun j => match j with | 0 => 0 | 1 => 0 | 2 => 0 | 3 => 0 | 4 => 0 | _ => 0
  | 24 => fun j => match j with | 0 => 0 | 1 => 0 | 2 => 0 | 3 => 0 | _ => 0
  | 26 => (fun j => if j < 4 then (1000 : Int32) else (fun _ => 0) j)
  | 27 => (fun j => if j < 4 then (1000 : Int32) else (fun _ => 0) j)
  | 28 => fun j => match j with | 1 => (1 : Int32) | _ => 0
  | 29 => (fun _ => 0)
  | 30 => fun j => match j with | 0 => 0 | 1 => 0 | 2 => 0 | 3 => 0 | 4 => 0 | _ => 0
  | 31 => (fun j => if j < 10 then (-1 : Int32) else (fun _ => 0) j)
  | 32 => fun j => match j with | 0 => (3 : Int32) | 1 => ((((v0.toUInt32 >>> (((8 : Int32) * (3 : Int32)).toUInt32 &&& Int32.toUInt32 31)).toInt32) &&& (255 : Int32)) - (((v0.toUInt32 >>> (((8 : Int32) * (3 : Int32)).toUInt32 &&& Int32.toUInt32 31)).toInt32) &&& (255 : Int32)) / (31 : Int32) * (31 : Int32)) | 7 => 0 | 8 => 0 | 9 => 0 | 10 => 0 | 11 => 0 | 12 => 0 | _ => 0
  | 33 => fun j => match j with | 0 => 0 | 1 => 0 | 2 => 0 | 3 => 0 | 4 => 0 | _ => 0
  | 34 => fun j => match j with | 0 => 0 | 1 => 0 | 2 => 0 | 3 => 0 | _ => 0
  | 36 => (fun j => if j < 4 then (1000 : Int32) else (fun _ => 0) j)
  | 37 => (fun j => if j < 4 then (1000 : Int32) else (fun _ => 0) j)
  | 38 => fun j => match j with | 1 => (1 : Int32) | _ => 0
  | 39 => (fun _ => 0)
  | 40 => fun j => match j with | 0 => 0 | 1 => 0 | 2 => 0 | 3 => 0 | 4 => 0 | _ => 0
  | 41 => (fun j => if j < 10 then (-1 : Int32) else (fun _ => 0) j)
  | 42 => fun j => match j with | 0 => 0 | 22 => 0 | 25 => 0 | 27 => 0 | 28 => 0 | _ => 0
  | 43 => (upd (upd (upd (upd (fun _ => 0) (0 : Int32).toNatClampNeg ((((v0.toUInt32 >>> (((8 : Int32) * (0 : Int32)).toUInt32 &&& Int32.toUInt32 31)).toInt32) &&& (255 : Int32)) - (((v0.toUInt32 >>> (((8 : Int32) * (0 : Int32)).toUInt32 &&& Int32.toUInt32 31)).toInt32) &&& (255 : Int32)) / (31 : Int32) * (31 : Int32))) (1 : Int32).toNatClampNeg ((((v0.toUInt32 >>> (((8 : Int32) * (1 : Int32)).toUInt32 &&& Int32.toUInt32 31)).toInt32) &&& (255 : Int32)) - (((v0.toUInt32 >>> (((8 : Int32) * (1 : Int32)).toUInt32 &&& Int32.toUInt32 31)).toInt32) &&& (255 : Int32)) / (31 : Int32) * (31 : Int32))) (2 : Int32).toNatClampNeg ((((v0.toUInt32 >>> (((8 : Int32) * (2 : Int32)).toUInt32 &&& Int32.toUInt32 31)).toInt32) &&& (255 : Int32)) - (((v0.toUInt32 >>> (((8 : Int32) * (2 : Int32)).toUInt32 &&& Int32.toUInt32 31)).toInt32) &&& (255 : Int32)) / (31 : Int32) * (31 : Int32))) (3 : Int32).toNatClampNeg ((((v0.toUInt32 >>> (((8 : Int32) * (3 : Int32)).toUInt32 &&& Int32.toUInt32 31)).toInt32) &&& (255 : Int32)) - (((v0.toUInt32 >>> (((8 : Int32) * (3 : Int32)).toUInt32 &&& Int32.toUInt32 31)).toInt32) &&& (255 : Int32)) / (31 : Int32) * (31 : Int32)))
  | 44 => (fun _ => 0)
  | 45 => (fun _ => 0)
  | 46 => (fun _ => 0)
  | 47 => (fun _ => 0)
  | 48 => (fun _ => 0)
  | 49 => (fun _ => 0)
  | 50 => (fun _ => 0)
  | 51 => (fun _ => 0)
  | 52 => (fun _ => 0)
  | 53 => (fun _ => 0)
  | 54 => (fun _ => 0)
  | 55 => (fun _ => 0)
  | 56 => (fun _ => 0)
  | 57 => (fg3 (fg2 (fg1 (fg0 (fun _ => 0)))))
  | 58 => (fun _ => 0)
  | 59 => (fun _ => 0)
  | 60 => (fun _ => 0)
  | 61 => (fun _ => 0)
  | 62 => (fun _ => 0)
  | 63 => (fun _ => 0)
  | 64 => (fun _ => 0)
  | _ => fun _ => 0
def sgJ : Nat → Nat → Int64 := fun k => match k with
  | 0 => fun j => match j with | 1 => 0 | 4 => (-1 : Int64) | _ => 0
  | 42 => fun j => match j with | 23 => 0 | 24 => 0 | 26 => 0 | _ => 0
  | _ => fun _ => 0
def posC : Nat → Nat := fun k => match k with
  | 0 => 0
  | 1 => 1
  | 2 => 2
  | 3 => 3
  | 4 => 4
  | 5 => 5
  | 6 => 6
  | 7 => 7
  | 8 => 8
  | 9 => 9
  | 10 => 10
  | 11 => 11
  | 12 => 12
  | 13 => 13
  | 14 => 14
  | 15 => 15
  | 16 => 16
  | 17 => 17
  | 18 => 18
  | 19 => 19
  | 20 => 20
  | 21 => 21
  | 22 => 22
  | 23 => 23
  | 24 => 24
  | 25 => 25
  | 26 => 26
  | 27 => 27
  | 28 => 28
  | 29 => 29
  | 30 => 30
  | 31 => 31
  | 32 => 32
  | 33 => 33
  | 34 => 34
  | 35 => 35
  | 36 => 36
  | 37 => 37
  | 38 => 38
  | 39 => 39
  | 40 => 40
  | 41 => 41
  | 42 => 63
  | 43 => 42
  | 44 => 43
  | 45 => 44
  | 46 => 45
  | 47 => 46
  | 48 => 47
  | 49 => 48
  | 50 => 49
  | 51 => 50
  | 52 => 51
  | 53 => 52
  | 54 => 53
  | 55 => 54
  | 56 => 55
  | 57 => 64
  | 58 => 56
  | 59 => 57
  | 60 => 58
  | 61 => 59
  | 62 => 60
  | 63 => 61
  | 64 => 62
  | 65 => 65
  | k => k
theorem posC_lt : ∀ k, k < 66 → posC k < 66 := by decide +kernel
theorem posC_inj : ∀ i, i < 66 → ∀ j, j < 66 → posC i = posC j → i = j := by decide +kernel
theorem and255 (y : Int32) : ∃ q, q < 256 ∧ (y &&& (255 : Int32)) = Int32.ofNat q := by
  refine ⟨(y.toBitVec &&& 255#32).toNat, ?_, ?_⟩
  · rw [BitVec.toNat_and]
    exact Nat.and_lt_two_pow (n := 8) _ (by decide)
  · apply Int32.toBitVec_inj.mp
    rw [Int32.toBitVec_ofNat', BitVec.ofNat_toNat, BitVec.setWidth_eq]
    rfl
theorem mod31 : ∀ q, q < 256 → 0 ≤ (Int32.ofNat q - Int32.ofNat q / 31 * 31).toInt ∧ (Int32.ofNat q - Int32.ofNat q / 31 * 31).toInt ≤ 30 := by decide +kernel
theorem sl_rng (y : Int32) : rg ((y &&& 255) - (y &&& 255) / 31 * 31) 0 30 := by
  obtain ⟨q, hq, e⟩ := and255 y
  rw [e]
  exact mod31 q hq
theorem sg_start (v0 : Int32) : RB (sgI v0, sgJ) (sgI v0, sgJ) := by
  have hdev : ∀ i, i < 32 → sgI v0 57 i = 99 := by
    show ∀ i, i < 32 → fg3 (fg2 (fg1 (fg0 (fun _ => 0)))) i = 99
    decide +kernel
  refine ⟨fun j hj => ?_, rfl, (show rg (0 : Int32) 0 1000 from ⟨by decide, by decide⟩), rfl, ⟨0, by decide, rfl, rfl⟩, Or.inl ⟨rfl, rfl⟩⟩
  rcases j4c hj with rfl | rfl | rfl | rfl
  · have hE : ∀ i, i < 4 → sgI v0 (10 * 0 + 6) i = 1000 := fun i hi => if_pos hi
    have hO : ∀ i, i < 4 → sgI v0 (10 * 0 + 7) i = 1000 := fun i hi => if_pos hi
    have hH : ∀ i, i < 10 → sgI v0 (10 * 0 + 11) i = -1 := fun i hi => if_pos hi
    unfold RI
    exact ⟨rfl, rfl, rfl, rfl, rfl, rfl, rfl, rfl, rfl, rfl, rfl, rfl, rfl, rfl, rfl, if_pos rfl, fun i hi => ⟨((congrArg cv (hE i hi)).trans (show cv 1000 = 99 from rfl)).trans (hdev _ (by omega)).symm, ((congrArg cv (hO i hi)).trans (show cv 1000 = 99 from rfl)).trans (hdev _ (by omega)).symm⟩, fun i hi => (congrArg (fun z : Int32 => z + 1) (hH i hi)).trans (show (-1 : Int32) + 1 = 0 from rfl), if_pos rfl, rfl, rfl, rfl, sl_rng _, (show rg (0 : Int32) 0 999 from ⟨by decide, by decide⟩), (show rg (0 : Int32) 0 1023 from ⟨by decide, by decide⟩), ⟨0, by decide, rfl⟩, (show rg (0 : Int32) (-4) 4 from ⟨by decide, by decide⟩), (show rg (0 : Int32) (-4) 4 from ⟨by decide, by decide⟩), (show rg (0 : Int32) (-6) 6 from ⟨by decide, by decide⟩), (show mok (0 : Int32) 0 0 0 from mok0 ⟨by decide, by decide⟩ ⟨by decide, by decide⟩), Or.inl rfl, ⟨0, by decide, rfl⟩, fun i hi => ⟨Or.inl (hE i hi), Or.inl (hO i hi)⟩, Or.inl rfl⟩
  · have hE : ∀ i, i < 4 → sgI v0 (10 * 1 + 6) i = 1000 := fun i hi => if_pos hi
    have hO : ∀ i, i < 4 → sgI v0 (10 * 1 + 7) i = 1000 := fun i hi => if_pos hi
    have hH : ∀ i, i < 10 → sgI v0 (10 * 1 + 11) i = -1 := fun i hi => if_pos hi
    unfold RI
    exact ⟨rfl, rfl, rfl, rfl, rfl, rfl, rfl, rfl, rfl, rfl, rfl, rfl, rfl, rfl, rfl, if_pos rfl, fun i hi => ⟨((congrArg cv (hE i hi)).trans (show cv 1000 = 99 from rfl)).trans (hdev _ (by omega)).symm, ((congrArg cv (hO i hi)).trans (show cv 1000 = 99 from rfl)).trans (hdev _ (by omega)).symm⟩, fun i hi => (congrArg (fun z : Int32 => z + 1) (hH i hi)).trans (show (-1 : Int32) + 1 = 0 from rfl), if_pos rfl, rfl, rfl, rfl, sl_rng _, (show rg (0 : Int32) 0 999 from ⟨by decide, by decide⟩), (show rg (0 : Int32) 0 1023 from ⟨by decide, by decide⟩), ⟨0, by decide, rfl⟩, (show rg (0 : Int32) (-4) 4 from ⟨by decide, by decide⟩), (show rg (0 : Int32) (-4) 4 from ⟨by decide, by decide⟩), (show rg (0 : Int32) (-6) 6 from ⟨by decide, by decide⟩), (show mok (0 : Int32) 0 0 0 from mok0 ⟨by decide, by decide⟩ ⟨by decide, by decide⟩), Or.inl rfl, ⟨0, by decide, rfl⟩, fun i hi => ⟨Or.inl (hE i hi), Or.inl (hO i hi)⟩, Or.inl rfl⟩
  · have hE : ∀ i, i < 4 → sgI v0 (10 * 2 + 6) i = 1000 := fun i hi => if_pos hi
    have hO : ∀ i, i < 4 → sgI v0 (10 * 2 + 7) i = 1000 := fun i hi => if_pos hi
    have hH : ∀ i, i < 10 → sgI v0 (10 * 2 + 11) i = -1 := fun i hi => if_pos hi
    unfold RI
    exact ⟨rfl, rfl, rfl, rfl, rfl, rfl, rfl, rfl, rfl, rfl, rfl, rfl, rfl, rfl, rfl, if_pos rfl, fun i hi => ⟨((congrArg cv (hE i hi)).trans (show cv 1000 = 99 from rfl)).trans (hdev _ (by omega)).symm, ((congrArg cv (hO i hi)).trans (show cv 1000 = 99 from rfl)).trans (hdev _ (by omega)).symm⟩, fun i hi => (congrArg (fun z : Int32 => z + 1) (hH i hi)).trans (show (-1 : Int32) + 1 = 0 from rfl), if_pos rfl, rfl, rfl, rfl, sl_rng _, (show rg (0 : Int32) 0 999 from ⟨by decide, by decide⟩), (show rg (0 : Int32) 0 1023 from ⟨by decide, by decide⟩), ⟨0, by decide, rfl⟩, (show rg (0 : Int32) (-4) 4 from ⟨by decide, by decide⟩), (show rg (0 : Int32) (-4) 4 from ⟨by decide, by decide⟩), (show rg (0 : Int32) (-6) 6 from ⟨by decide, by decide⟩), (show mok (0 : Int32) 0 0 0 from mok0 ⟨by decide, by decide⟩ ⟨by decide, by decide⟩), Or.inl rfl, ⟨0, by decide, rfl⟩, fun i hi => ⟨Or.inl (hE i hi), Or.inl (hO i hi)⟩, Or.inl rfl⟩
  · have hE : ∀ i, i < 4 → sgI v0 (10 * 3 + 6) i = 1000 := fun i hi => if_pos hi
    have hO : ∀ i, i < 4 → sgI v0 (10 * 3 + 7) i = 1000 := fun i hi => if_pos hi
    have hH : ∀ i, i < 10 → sgI v0 (10 * 3 + 11) i = -1 := fun i hi => if_pos hi
    unfold RI
    exact ⟨rfl, rfl, rfl, rfl, rfl, rfl, rfl, rfl, rfl, rfl, rfl, rfl, rfl, rfl, rfl, if_pos rfl, fun i hi => ⟨((congrArg cv (hE i hi)).trans (show cv 1000 = 99 from rfl)).trans (hdev _ (by omega)).symm, ((congrArg cv (hO i hi)).trans (show cv 1000 = 99 from rfl)).trans (hdev _ (by omega)).symm⟩, fun i hi => (congrArg (fun z : Int32 => z + 1) (hH i hi)).trans (show (-1 : Int32) + 1 = 0 from rfl), if_pos rfl, rfl, rfl, rfl, sl_rng _, (show rg (0 : Int32) 0 999 from ⟨by decide, by decide⟩), (show rg (0 : Int32) 0 1023 from ⟨by decide, by decide⟩), ⟨0, by decide, rfl⟩, (show rg (0 : Int32) (-4) 4 from ⟨by decide, by decide⟩), (show rg (0 : Int32) (-4) 4 from ⟨by decide, by decide⟩), (show rg (0 : Int32) (-6) 6 from ⟨by decide, by decide⟩), (show mok (0 : Int32) 0 0 0 from mok0 ⟨by decide, by decide⟩ ⟨by decide, by decide⟩), Or.inl rfl, ⟨0, by decide, rfl⟩, fun i hi => ⟨Or.inl (hE i hi), Or.inl (hO i hi)⟩, Or.inl rfl⟩

end WK
