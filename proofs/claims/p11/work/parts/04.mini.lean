/-! the small machine: states, rules, what a run gives -/
section MM
abbrev mmS : Type := (Nat → Nat → Int32) × (Nat → Nat → Int64)
/-- a frame: method, pc, locals, stack, exceptions made so far, the cells -/
abbrev mmX : Type := Nat × Nat × List (Nat × Value) × List Value × Nat × mmS
abbrev mmR : Type := (Option Value ⊕ String) × mmS
def mmI (σ : mmS) (k j : Nat) (v : Int32) : mmS := (va_up σ.1 k (upd (σ.1 k) j v), σ.2)
def mmJ (σ : mmS) (k j : Nat) (v : Int64) : mmS := (σ.1, va_up σ.2 k (vp_updL (σ.2 k) j v))
def mmv (ρ : Nat → Nat) (v : Value) : Value := match v with
  | .ref a => .ref (ρ a)
  | .int a => .int a
  | .long a => .long a
  | .float a => .float a
  | .double a => .double a
  | .null => .null
  | .retAddr a => .retAddr a
def slV (ρ : Nat → Nat) (iv : Nat → Int32) (jv : Nat → Int64) (j c : Nat) : Value := match c with
  | 0 => .int (iv j)
  | 1 => .long (jv j)
  | 2 => .int (iv j)
  | k + 3 => .ref (ρ k)
def mmE (CA : Nat → ClassId) (ρ : Nat → Nat) (k : Nat) (iv : Nat → Int32) (jv : Nat → Int64) : va_E := match shp k with
  | .inl (ci, cs) => .inr (ci, cs.mapIdx (slV ρ iv jv))
  | .inr (0, n) => .inl (CA 0, n, .inl iv)
  | .inr (1, n) => .inl (CA 1, n, .inl iv)
  | .inr (2, n) => .inl (CA 2, n, .inr (.inl jv))
  | .inr (_, n) => .inl (CA 3, n, .inr (.inr (.inr (.inr (fun j => some (ρ (10 * j + 2)))))))
def mmW (CA : Nat → ClassId) (ρ : Nat → Nat) (N : Nat) (σ : mmS) : va_W := (List.range N).map (fun k => (ρ k, mmE CA ρ k (σ.1 k) (σ.2 k)))
def lvG : List (Nat × Value) → Nat → Option Value
  | [], _ => none
  | q :: t, i => if q.1 = i then some q.2 else lvG t i
def lvD (lv : List (Nat × Value)) (i : Nat) : List (Nat × Value) := lv.filter (fun q => !(q.1 == i) && !(q.1 + 1 == i && q.2.category == 2))
def lvD2 (lv : List (Nat × Value)) (i : Nat) : List (Nat × Value) := lv.filter (fun q => !(q.1 == i) && (!(q.1 == i + 1) && !(q.1 + 1 == i && q.2.category == 2)))
def cmP (c : ClassFile.Cond) (x y : Int32) : Prop := match c with
  | .eq => x = y
  | .ne => ¬ x = y
  | .lt => x < y
  | .ge => y ≤ x
  | .gt => y < x
  | .le => x ≤ y
/-- which handler takes E, thrown by a call at pc: the rows ahead don't cover it or name another kind -/
def hndl (y pc : Nat) (E : String) : List (Nat × Nat × Nat × Nat) → Option Nat
  | [] => none
  | q :: t => if q.1 ≤ pc ∧ pc < q.2.1 then (if (mO y, q.2.2.2, E) ∈ ctT then some q.2.2.1 else if ∃ w ∈ ctT, w.1 = mO y ∧ w.2.1 = q.2.2.2 ∧ (E, w.2.2) ∈ ncT then hndl y pc E t else none) else hndl y pc E t
/-- a callee's frames and locals fit -/
def mmFit (y z : Nat) : Bool := Nat.ble (mF z + 1) (mF y) && Nat.ble (8 + (mL z + 11) + mLo z) (mLo y)
/-- behind a call: it returned; or it threw, and nobody here takes it; or a handler does (whose first step lays the thing away) -/
def mmAft (P : mmX → mmR → Prop) (y pc : Nat) (lv : List (Nat × Value)) (t : List Value) (e : Nat) (rc r : mmR) : Prop :=
  (∃ v, rc.1 = .inl v ∧ P (y, pc + 3, lv, v.toList ++ t, e, rc.2) r) ∨
  (∃ E, rc.1 = .inr E ∧ mH y = [] ∧ r = (.inr E, rc.2)) ∨
  (∃ E h j k, rc.1 = .inr E ∧ hndl y pc E (mH y) = some h ∧ (decode (mC y) h = .ok (.astore j, 2) ∧ k = 2 ∨ ∃ i : Fin 4, decode (mC y) h = .ok (.astore_n i, 1) ∧ (i : Nat) = j ∧ k = 1) ∧ j < mL y ∧ P (y, h + k, lvD lv j, [], e, rc.2) r)
def mmArm (N L : Nat) (xs : Nat → Int32) (P : mmX → mmR → Prop) (y pc : Nat) (lv : List (Nat × Value)) (st : List Value) (e : Nat) (σ : mmS) (r : mmR) (i : Instr) (len : Nat) : Prop := match i with
  | .iconst n => len = 1 ∧ ∃ v, Int32.ofInt n = v ∧ P (y, pc + 1, lv, .int v :: st, e, σ) r
  | .bipush n => len = 2 ∧ ∃ v, (Int8.ofInt n).toInt32 = v ∧ P (y, pc + 2, lv, .int v :: st, e, σ) r
  | .sipush n => len = 3 ∧ ∃ v, (Int16.ofInt n).toInt32 = v ∧ P (y, pc + 3, lv, .int v :: st, e, σ) r
  | .lconst n => len = 1 ∧ ∃ v, Int64.ofNat (n : Nat) = v ∧ P (y, pc + 1, lv, .long v :: st, e, σ) r
  | .ldc k => len = 2 ∧ ∃ v, (mO y, k, v) ∈ kiT ∧ P (y, pc + 2, lv, .int v :: st, e, σ) r
  | .ldc2_w k => len = 3 ∧ ∃ v, (mO y, k, v) ∈ klT ∧ P (y, pc + 3, lv, .long v :: st, e, σ) r
  | .iload_n k => len = 1 ∧ ∃ v, lvG lv k = some (.int v) ∧ P (y, pc + 1, lv, .int v :: st, e, σ) r
  | .iload k => len = 2 ∧ ∃ v, lvG lv k = some (.int v) ∧ P (y, pc + 2, lv, .int v :: st, e, σ) r
  | .istore_n k => len = 1 ∧ ∃ v t, st = .int v :: t ∧ (k : Nat) < mL y ∧ P (y, pc + 1, ((k : Nat), .int v) :: lvD lv k, t, e, σ) r
  | .istore k => len = 2 ∧ ∃ v t, st = .int v :: t ∧ k < mL y ∧ P (y, pc + 2, (k, .int v) :: lvD lv k, t, e, σ) r
  | .lload_n k => len = 1 ∧ ∃ v, lvG lv k = some (.long v) ∧ P (y, pc + 1, lv, .long v :: st, e, σ) r
  | .lload k => len = 2 ∧ ∃ v, lvG lv k = some (.long v) ∧ P (y, pc + 2, lv, .long v :: st, e, σ) r
  | .lstore_n k => len = 1 ∧ ∃ v t, st = .long v :: t ∧ ((k : Nat) + 1 : Nat) < mL y ∧ P (y, pc + 1, ((k : Nat), .long v) :: lvD2 lv k, t, e, σ) r
  | .lstore k => len = 2 ∧ ∃ v t, st = .long v :: t ∧ k + 1 < mL y ∧ P (y, pc + 2, (k, .long v) :: lvD2 lv k, t, e, σ) r
  | .aload_n k => len = 1 ∧ ∃ v, lvG lv k = some (.ref v) ∧ P (y, pc + 1, lv, .ref v :: st, e, σ) r
  | .aload k => len = 2 ∧ ∃ v, lvG lv k = some (.ref v) ∧ P (y, pc + 2, lv, .ref v :: st, e, σ) r
  | .astore_n k => len = 1 ∧ ∃ v t, st = .ref v :: t ∧ (k : Nat) < mL y ∧ P (y, pc + 1, ((k : Nat), .ref v) :: lvD lv k, t, e, σ) r
  | .astore k => len = 2 ∧ ∃ v t, st = .ref v :: t ∧ k < mL y ∧ P (y, pc + 2, (k, .ref v) :: lvD lv k, t, e, σ) r
  | .iinc k n => len = 3 ∧ ∃ x v, lvG lv k = some (.int x) ∧ x + Int32.ofInt n = v ∧ k < mL y ∧ P (y, pc + 3, (k, .int v) :: lvD lv k, st, e, σ) r
  | .iadd => len = 1 ∧ ∃ a b t, st = .int b :: .int a :: t ∧ P (y, pc + 1, lv, .int (a + b) :: t, e, σ) r
  | .isub => len = 1 ∧ ∃ a b t, st = .int b :: .int a :: t ∧ P (y, pc + 1, lv, .int (a - b) :: t, e, σ) r
  | .imul => len = 1 ∧ ∃ a b t, st = .int b :: .int a :: t ∧ P (y, pc + 1, lv, .int (a * b) :: t, e, σ) r
  | .iand => len = 1 ∧ ∃ a b t, st = .int b :: .int a :: t ∧ P (y, pc + 1, lv, .int (a &&& b) :: t, e, σ) r
  | .ior => len = 1 ∧ ∃ a b t, st = .int b :: .int a :: t ∧ P (y, pc + 1, lv, .int (a ||| b) :: t, e, σ) r
  | .ixor => len = 1 ∧ ∃ a b t, st = .int b :: .int a :: t ∧ P (y, pc + 1, lv, .int (a ^^^ b) :: t, e, σ) r
  | .ishl => len = 1 ∧ ∃ a b t, st = .int b :: .int a :: t ∧ P (y, pc + 1, lv, .int (a <<< (b &&& 31)) :: t, e, σ) r
  | .ishr => len = 1 ∧ ∃ a b t, st = .int b :: .int a :: t ∧ P (y, pc + 1, lv, .int (a >>> (b &&& 31)) :: t, e, σ) r
  | .ladd => len = 1 ∧ ∃ a b t, st = .long b :: .long a :: t ∧ P (y, pc + 1, lv, .long (a + b) :: t, e, σ) r
  | .lsub => len = 1 ∧ ∃ a b t, st = .long b :: .long a :: t ∧ P (y, pc + 1, lv, .long (a - b) :: t, e, σ) r
  | .lmul => len = 1 ∧ ∃ a b t, st = .long b :: .long a :: t ∧ P (y, pc + 1, lv, .long (a * b) :: t, e, σ) r
  | .land => len = 1 ∧ ∃ a b t, st = .long b :: .long a :: t ∧ P (y, pc + 1, lv, .long (a &&& b) :: t, e, σ) r
  | .lor => len = 1 ∧ ∃ a b t, st = .long b :: .long a :: t ∧ P (y, pc + 1, lv, .long (a ||| b) :: t, e, σ) r
  | .lxor => len = 1 ∧ ∃ a b t, st = .long b :: .long a :: t ∧ P (y, pc + 1, lv, .long (a ^^^ b) :: t, e, σ) r
  | .idiv => len = 1 ∧ ∃ a b t, st = .int b :: .int a :: t ∧ (¬ b = 0) ∧ P (y, pc + 1, lv, .int (a / b) :: t, e, σ) r
  | .irem => len = 1 ∧ ∃ a b t, st = .int b :: .int a :: t ∧ (¬ b = 0) ∧ P (y, pc + 1, lv, .int (a - a / b * b) :: t, e, σ) r
  | .ineg => len = 1 ∧ ∃ a t, st = .int a :: t ∧ P (y, pc + 1, lv, .int (-a) :: t, e, σ) r
  | .iushr => len = 1 ∧ ∃ a b t, st = .int b :: .int a :: t ∧ P (y, pc + 1, lv, .int ((a.toUInt32 >>> (b.toUInt32 &&& Int32.toUInt32 31)).toInt32) :: t, e, σ) r
  | .lushr => len = 1 ∧ ∃ (a : Int64) (b : Int32) (t : List Value), st = .int b :: .long a :: t ∧ P (y, pc + 1, lv, .long ((a.toUInt64 >>> (b.toInt64.toUInt64 &&& Int64.toUInt64 63)).toInt64) :: t, e, σ) r
  | .lshl => len = 1 ∧ ∃ (a : Int64) (b : Int32) (t : List Value), st = .int b :: .long a :: t ∧ P (y, pc + 1, lv, .long (a <<< (b.toInt64 &&& 63)) :: t, e, σ) r
  | .lshr => len = 1 ∧ ∃ (a : Int64) (b : Int32) (t : List Value), st = .int b :: .long a :: t ∧ P (y, pc + 1, lv, .long (a >>> (b.toInt64 &&& 63)) :: t, e, σ) r
  | .i2l => len = 1 ∧ ∃ a t, st = .int a :: t ∧ P (y, pc + 1, lv, .long a.toInt64 :: t, e, σ) r
  | .l2i => len = 1 ∧ ∃ a t, st = .long a :: t ∧ P (y, pc + 1, lv, .int a.toInt32 :: t, e, σ) r
  | .lcmp => len = 1 ∧ ∃ a b t, st = .long b :: .long a :: t ∧ P (y, pc + 1, lv, .int (lg_cmp a b) :: t, e, σ) r
  | .dup => len = 1 ∧ ∃ a t, st = a :: t ∧ a.category = 1 ∧ P (y, pc + 1, lv, a :: a :: t, e, σ) r
  | .pop => len = 1 ∧ ∃ a t, st = a :: t ∧ a.category = 1 ∧ P (y, pc + 1, lv, t, e, σ) r
  | .dup2 => len = 1 ∧ ∃ a b t, st = a :: b :: t ∧ a.category = 1 ∧ b.category = 1 ∧ P (y, pc + 1, lv, a :: b :: a :: b :: t, e, σ) r
  | .goto off => len = 3 ∧ ∃ tgt : Nat, (pc : Int) + off = (tgt : Int) ∧ P (y, tgt, lv, st, e, σ) r
  | .ifCond c off => len = 3 ∧ ∃ x t, ∃ tgt : Nat, st = .int x :: t ∧ (pc : Int) + off = (tgt : Int) ∧ (cmP c x 0 → P (y, tgt, lv, t, e, σ) r) ∧ (¬ cmP c x 0 → P (y, pc + 3, lv, t, e, σ) r)
  | .if_icmp c off => len = 3 ∧ ∃ a b t, ∃ tgt : Nat, st = .int b :: .int a :: t ∧ (pc : Int) + off = (tgt : Int) ∧ (cmP c a b → P (y, tgt, lv, t, e, σ) r) ∧ (¬ cmP c a b → P (y, pc + 3, lv, t, e, σ) r)
  | .tableswitch dflt lo hi offs => ∃ x t, ∃ tgt : Nat, st = .int x :: t ∧ ((x.toInt < lo ∨ hi < x.toInt) ∧ (pc : Int) + dflt = (tgt : Int) ∨ ∃ off, ¬ x.toInt < lo ∧ ¬ hi < x.toInt ∧ offs[(x.toInt - lo).toNat]? = some off ∧ (pc : Int) + off = (tgt : Int)) ∧ P (y, tgt, lv, t, e, σ) r
  | .getfield k => len = 3 ∧ ∃ a t ci j n cs v, st = .ref a :: t ∧ (mO y, k, ci, j, n) ∈ flT ∧ a < N ∧ shp a = .inl (ci, cs) ∧ (cs[j]?).map (slV id (σ.1 a) (σ.2 a) j) = some v ∧ P (y, pc + 3, lv, v :: t, e, σ) r
  | .putfield k => len = 3 ∧ ∃ a t ci j n cs, (mO y, k, ci, j, n) ∈ flT ∧ a < N ∧ shp a = .inl (ci, cs) ∧ (Tf ci j).2.2.2 = false ∧
      ((∃ v, st = .int v :: .ref a :: t ∧ (cs[j]? = some 0 ∨ cs[j]? = some 2 ∧ (v = 0 ∨ v = 1)) ∧ P (y, pc + 3, lv, t, e, mmI σ a j v) r) ∨ (∃ v, st = .long v :: .ref a :: t ∧ cs[j]? = some 1 ∧ P (y, pc + 3, lv, t, e, mmJ σ a j v) r))
  | .iaload => len = 1 ∧ ∃ j a t, st = .int j :: .ref a :: t ∧ ((∃ n, a < N ∧ shp a = .inr (0, n) ∧ vp_in j n ∧ P (y, pc + 1, lv, .int (σ.1 a j.toNatClampNeg) :: t, e, σ) r) ∨ (a = 1000 ∧ vp_in j L ∧ P (y, pc + 1, lv, .int (xs j.toNatClampNeg) :: t, e, σ) r))
  | .baload => len = 1 ∧ ∃ j a t n, st = .int j :: .ref a :: t ∧ a < N ∧ shp a = .inr (1, n) ∧ vp_in j n ∧ P (y, pc + 1, lv, .int (σ.1 a j.toNatClampNeg) :: t, e, σ) r
  | .laload => len = 1 ∧ ∃ j a t n, st = .int j :: .ref a :: t ∧ a < N ∧ shp a = .inr (2, n) ∧ vp_in j n ∧ P (y, pc + 1, lv, .long (σ.2 a j.toNatClampNeg) :: t, e, σ) r
  | .aaload => len = 1 ∧ ∃ j a t n, st = .int j :: .ref a :: t ∧ a < N ∧ shp a = .inr (3, n) ∧ vp_in j n ∧ P (y, pc + 1, lv, .ref (10 * j.toNatClampNeg + 2) :: t, e, σ) r
  | .iastore => len = 1 ∧ ∃ v j a t n, st = .int v :: .int j :: .ref a :: t ∧ a < N ∧ shp a = .inr (0, n) ∧ vp_in j n ∧ P (y, pc + 1, lv, t, e, mmI σ a j.toNatClampNeg v) r
  | .bastore => len = 1 ∧ ∃ v j a t n, st = .int v :: .int j :: .ref a :: t ∧ a < N ∧ shp a = .inr (1, n) ∧ vp_in j n ∧ P (y, pc + 1, lv, t, e, mmI σ a j.toNatClampNeg (vp_nar .boolean v)) r
  | .lastore => len = 1 ∧ ∃ v j a t n, st = .long v :: .int j :: .ref a :: t ∧ a < N ∧ shp a = .inr (2, n) ∧ vp_in j n ∧ P (y, pc + 1, lv, t, e, mmJ σ a j.toNatClampNeg v) r
  | .arraylength => len = 1 ∧ ∃ a t, st = .ref a :: t ∧ ((∃ k n, a < N ∧ shp a = .inr (k, n) ∧ k < 4 ∧ P (y, pc + 1, lv, .int (Int32.ofNat n) :: t, e, σ) r) ∨ (a = 1000 ∧ P (y, pc + 1, lv, .int (Int32.ofNat L) :: t, e, σ) r))
  | .invokestatic k => len = 3 ∧ ∃ z n As t rc, (mO y, k, z, n) ∈ mlT ∧ mS z = true ∧ As.length = mA z ∧ (lg_sl As).length = mW z ∧ st = As.reverse ++ t ∧ Nat.ble ((t.map fun v => v.category).sum) 8 = true ∧ e + mE z ≤ mE y ∧ mmFit y z = true ∧ (n = 1 → ∃ v, rc.1 = .inl v) ∧ P (z, 0, lv_args 0 As, [], 0, σ) rc ∧ mmAft P y pc lv t (e + mE z) rc r
  | .invokevirtual k => len = 3 ∧ ∃ z a As t rc ci cs, (mO y, k, z, 0) ∈ mlT ∧ mS z = false ∧ As.length = mA z ∧ (lg_sl (.ref a :: As)).length = mW z ∧ st = As.reverse ++ .ref a :: t ∧ Nat.ble ((t.map fun v => v.category).sum) 8 = true ∧ e + mE z ≤ mE y ∧ mmFit y z = true ∧ a < N ∧ shp a = .inl (ci, cs) ∧ mO z = ci ∧ P (z, 0, lv_args 0 (.ref a :: As), [], 0, σ) rc ∧ mmAft P y pc lv t (e + mE z) rc r
  | .new k => len = 3 ∧ ∃ E i j, (y, pc, k, i, j, E) ∈ xsT ∧ e + 1 ≤ mE y ∧ Nat.ble ((st.map fun v => v.category).sum) 8 = true ∧ mH y = [] ∧ r = (.inr E, σ)
  | .ireturn => len = 1 ∧ ∃ v, st = [.int v] ∧ (mR y = some .int ∨ mR y = some .boolean ∧ (v = 0 ∨ v = 1)) ∧ r = (.inl (some (.int v)), σ)
  | .lreturn => len = 1 ∧ ∃ v, st = [.long v] ∧ mR y = some .long ∧ r = (.inl (some (.long v)), σ)
  | .return_ => len = 1 ∧ st = [] ∧ mR y = none ∧ r = (.inl none, σ)
  | _ => False
def mmRule (N L : Nat) (xs : Nat → Int32) (P : mmX → mmR → Prop) (x : mmX) (r : mmR) : Prop := (∃ i len, decode (mC x.1) x.2.1 = .ok (i, len) ∧ mmArm N L xs P x.1 x.2.1 x.2.2.1 x.2.2.2.1 x.2.2.2.2.1 x.2.2.2.2.2 r i len) ∨ ∃ lv', (∀ q ∈ lv', q ∈ x.2.2.1) ∧ P (x.1, x.2.1, lv', x.2.2.2) r
/-- x runs to r -/
def Ev (N L : Nat) (xs : Nat → Int32) (x : mmX) (r : mmR) : Prop := ∀ P : mmX → mmR → Prop, (∀ x r, mmRule N L xs P x r → P x r) → P x r
end MM
section EV
variable {N L : Nat} {xs : Nat → Int32} {y pc : Nat} {lv lv' : List (Nat × Value)} {st t : List Value} {e : Nat} {σ : mmS} {r : mmR}
theorem ev_iconst {n : Int} {v : Int32} (hd : decode (mC y) pc = .ok (.iconst n, 1)) (hv : Int32.ofInt n = v) (k : Ev N L xs (y, pc + 1, lv, .int v :: st, e, σ) r) : Ev N L xs (y, pc, lv, st, e, σ) r := fun P h => h _ _ (Or.inl ⟨_, _, hd, ⟨rfl, v, hv, (k P h)⟩⟩)
theorem ev_bipush {n : Int} {v : Int32} (hd : decode (mC y) pc = .ok (.bipush n, 2)) (hv : (Int8.ofInt n).toInt32 = v) (k : Ev N L xs (y, pc + 2, lv, .int v :: st, e, σ) r) : Ev N L xs (y, pc, lv, st, e, σ) r := fun P h => h _ _ (Or.inl ⟨_, _, hd, ⟨rfl, v, hv, (k P h)⟩⟩)
theorem ev_sipush {n : Int} {v : Int32} (hd : decode (mC y) pc = .ok (.sipush n, 3)) (hv : (Int16.ofInt n).toInt32 = v) (k : Ev N L xs (y, pc + 3, lv, .int v :: st, e, σ) r) : Ev N L xs (y, pc, lv, st, e, σ) r := fun P h => h _ _ (Or.inl ⟨_, _, hd, ⟨rfl, v, hv, (k P h)⟩⟩)
theorem ev_lconst {n : Fin 2} {v : Int64} (hd : decode (mC y) pc = .ok (.lconst n, 1)) (hv : Int64.ofNat (n : Nat) = v) (k : Ev N L xs (y, pc + 1, lv, .long v :: st, e, σ) r) : Ev N L xs (y, pc, lv, st, e, σ) r := fun P h => h _ _ (Or.inl ⟨_, _, hd, ⟨rfl, v, hv, (k P h)⟩⟩)
theorem ev_ldc {n : Nat} {v : Int32} (hd : decode (mC y) pc = .ok (.ldc n, 2)) (hv : (mO y, n, v) ∈ kiT) (k : Ev N L xs (y, pc + 2, lv, .int v :: st, e, σ) r) : Ev N L xs (y, pc, lv, st, e, σ) r := fun P h => h _ _ (Or.inl ⟨_, _, hd, ⟨rfl, v, hv, (k P h)⟩⟩)
theorem ev_ldc2 {n : Nat} {v : Int64} (hd : decode (mC y) pc = .ok (.ldc2_w n, 3)) (hv : (mO y, n, v) ∈ klT) (k : Ev N L xs (y, pc + 3, lv, .long v :: st, e, σ) r) : Ev N L xs (y, pc, lv, st, e, σ) r := fun P h => h _ _ (Or.inl ⟨_, _, hd, ⟨rfl, v, hv, (k P h)⟩⟩)
theorem ev_iload_n {n : Fin 4} {v : Int32} (hd : decode (mC y) pc = .ok (.iload_n n, 1)) (hv : lvG lv n = some (.int v)) (k : Ev N L xs (y, pc + 1, lv, .int v :: st, e, σ) r) : Ev N L xs (y, pc, lv, st, e, σ) r := fun P h => h _ _ (Or.inl ⟨_, _, hd, ⟨rfl, v, hv, (k P h)⟩⟩)
theorem ev_iload {n : Nat} {v : Int32} (hd : decode (mC y) pc = .ok (.iload n, 2)) (hv : lvG lv n = some (.int v)) (k : Ev N L xs (y, pc + 2, lv, .int v :: st, e, σ) r) : Ev N L xs (y, pc, lv, st, e, σ) r := fun P h => h _ _ (Or.inl ⟨_, _, hd, ⟨rfl, v, hv, (k P h)⟩⟩)
theorem ev_istore_n {n : Fin 4} {v : Int32} (hd : decode (mC y) pc = .ok (.istore_n n, 1)) (hn : (n : Nat) < mL y) (hl : lv' = ((n : Nat), .int v) :: lvD lv n) (k : Ev N L xs (y, pc + 1, lv', t, e, σ) r) : Ev N L xs (y, pc, lv, .int v :: t, e, σ) r := fun P h => h _ _ (Or.inl ⟨_, _, hd, ⟨rfl, v, t, rfl, hn, hl ▸ (k P h)⟩⟩)
theorem ev_istore {n : Nat} {v : Int32} (hd : decode (mC y) pc = .ok (.istore n, 2)) (hn : n < mL y) (hl : lv' = (n, .int v) :: lvD lv n) (k : Ev N L xs (y, pc + 2, lv', t, e, σ) r) : Ev N L xs (y, pc, lv, .int v :: t, e, σ) r := fun P h => h _ _ (Or.inl ⟨_, _, hd, ⟨rfl, v, t, rfl, hn, hl ▸ (k P h)⟩⟩)
theorem ev_lload_n {n : Fin 4} {v : Int64} (hd : decode (mC y) pc = .ok (.lload_n n, 1)) (hv : lvG lv n = some (.long v)) (k : Ev N L xs (y, pc + 1, lv, .long v :: st, e, σ) r) : Ev N L xs (y, pc, lv, st, e, σ) r := fun P h => h _ _ (Or.inl ⟨_, _, hd, ⟨rfl, v, hv, (k P h)⟩⟩)
theorem ev_lload {n : Nat} {v : Int64} (hd : decode (mC y) pc = .ok (.lload n, 2)) (hv : lvG lv n = some (.long v)) (k : Ev N L xs (y, pc + 2, lv, .long v :: st, e, σ) r) : Ev N L xs (y, pc, lv, st, e, σ) r := fun P h => h _ _ (Or.inl ⟨_, _, hd, ⟨rfl, v, hv, (k P h)⟩⟩)
theorem ev_lstore_n {n : Fin 4} {v : Int64} (hd : decode (mC y) pc = .ok (.lstore_n n, 1)) (hn : (n : Nat) + 1 < mL y) (hl : lv' = ((n : Nat), .long v) :: lvD2 lv n) (k : Ev N L xs (y, pc + 1, lv', t, e, σ) r) : Ev N L xs (y, pc, lv, .long v :: t, e, σ) r := fun P h => h _ _ (Or.inl ⟨_, _, hd, ⟨rfl, v, t, rfl, hn, hl ▸ (k P h)⟩⟩)
theorem ev_lstore {n : Nat} {v : Int64} (hd : decode (mC y) pc = .ok (.lstore n, 2)) (hn : n + 1 < mL y) (hl : lv' = (n, .long v) :: lvD2 lv n) (k : Ev N L xs (y, pc + 2, lv', t, e, σ) r) : Ev N L xs (y, pc, lv, .long v :: t, e, σ) r := fun P h => h _ _ (Or.inl ⟨_, _, hd, ⟨rfl, v, t, rfl, hn, hl ▸ (k P h)⟩⟩)
theorem ev_aload_n {n : Fin 4} {v : Nat} (hd : decode (mC y) pc = .ok (.aload_n n, 1)) (hv : lvG lv n = some (.ref v)) (k : Ev N L xs (y, pc + 1, lv, .ref v :: st, e, σ) r) : Ev N L xs (y, pc, lv, st, e, σ) r := fun P h => h _ _ (Or.inl ⟨_, _, hd, ⟨rfl, v, hv, (k P h)⟩⟩)
theorem ev_aload {n : Nat} {v : Nat} (hd : decode (mC y) pc = .ok (.aload n, 2)) (hv : lvG lv n = some (.ref v)) (k : Ev N L xs (y, pc + 2, lv, .ref v :: st, e, σ) r) : Ev N L xs (y, pc, lv, st, e, σ) r := fun P h => h _ _ (Or.inl ⟨_, _, hd, ⟨rfl, v, hv, (k P h)⟩⟩)
theorem ev_astore_n {n : Fin 4} {v : Nat} (hd : decode (mC y) pc = .ok (.astore_n n, 1)) (hn : (n : Nat) < mL y) (hl : lv' = ((n : Nat), .ref v) :: lvD lv n) (k : Ev N L xs (y, pc + 1, lv', t, e, σ) r) : Ev N L xs (y, pc, lv, .ref v :: t, e, σ) r := fun P h => h _ _ (Or.inl ⟨_, _, hd, ⟨rfl, v, t, rfl, hn, hl ▸ (k P h)⟩⟩)
theorem ev_astore {n : Nat} {v : Nat} (hd : decode (mC y) pc = .ok (.astore n, 2)) (hn : n < mL y) (hl : lv' = (n, .ref v) :: lvD lv n) (k : Ev N L xs (y, pc + 2, lv', t, e, σ) r) : Ev N L xs (y, pc, lv, .ref v :: t, e, σ) r := fun P h => h _ _ (Or.inl ⟨_, _, hd, ⟨rfl, v, t, rfl, hn, hl ▸ (k P h)⟩⟩)
theorem ev_iinc {n : Nat} {d : Int} {x v : Int32} (hd : decode (mC y) pc = .ok (.iinc n d, 3)) (hx : lvG lv n = some (.int x)) (hv : x + Int32.ofInt d = v) (hn : n < mL y) (hl : lv' = (n, .int v) :: lvD lv n) (k : Ev N L xs (y, pc + 3, lv', st, e, σ) r) : Ev N L xs (y, pc, lv, st, e, σ) r := fun P h => h _ _ (Or.inl ⟨_, _, hd, ⟨rfl, x, v, hx, hv, hn, hl ▸ (k P h)⟩⟩)
theorem ev_iadd {a b v : Int32} (hd : decode (mC y) pc = .ok (.iadd, 1)) (hv : v = a + b) (k : Ev N L xs (y, pc + 1, lv, .int v :: t, e, σ) r) : Ev N L xs (y, pc, lv, .int b :: .int a :: t, e, σ) r := fun P h => h _ _ (Or.inl ⟨_, _, hd, ⟨rfl, a, b, t, rfl, hv ▸ (k P h)⟩⟩)
theorem ev_isub {a b v : Int32} (hd : decode (mC y) pc = .ok (.isub, 1)) (hv : v = a - b) (k : Ev N L xs (y, pc + 1, lv, .int v :: t, e, σ) r) : Ev N L xs (y, pc, lv, .int b :: .int a :: t, e, σ) r := fun P h => h _ _ (Or.inl ⟨_, _, hd, ⟨rfl, a, b, t, rfl, hv ▸ (k P h)⟩⟩)
theorem ev_imul {a b v : Int32} (hd : decode (mC y) pc = .ok (.imul, 1)) (hv : v = a * b) (k : Ev N L xs (y, pc + 1, lv, .int v :: t, e, σ) r) : Ev N L xs (y, pc, lv, .int b :: .int a :: t, e, σ) r := fun P h => h _ _ (Or.inl ⟨_, _, hd, ⟨rfl, a, b, t, rfl, hv ▸ (k P h)⟩⟩)
theorem ev_iand {a b v : Int32} (hd : decode (mC y) pc = .ok (.iand, 1)) (hv : v = a &&& b) (k : Ev N L xs (y, pc + 1, lv, .int v :: t, e, σ) r) : Ev N L xs (y, pc, lv, .int b :: .int a :: t, e, σ) r := fun P h => h _ _ (Or.inl ⟨_, _, hd, ⟨rfl, a, b, t, rfl, hv ▸ (k P h)⟩⟩)
theorem ev_ior {a b v : Int32} (hd : decode (mC y) pc = .ok (.ior, 1)) (hv : v = a ||| b) (k : Ev N L xs (y, pc + 1, lv, .int v :: t, e, σ) r) : Ev N L xs (y, pc, lv, .int b :: .int a :: t, e, σ) r := fun P h => h _ _ (Or.inl ⟨_, _, hd, ⟨rfl, a, b, t, rfl, hv ▸ (k P h)⟩⟩)
theorem ev_ixor {a b v : Int32} (hd : decode (mC y) pc = .ok (.ixor, 1)) (hv : v = a ^^^ b) (k : Ev N L xs (y, pc + 1, lv, .int v :: t, e, σ) r) : Ev N L xs (y, pc, lv, .int b :: .int a :: t, e, σ) r := fun P h => h _ _ (Or.inl ⟨_, _, hd, ⟨rfl, a, b, t, rfl, hv ▸ (k P h)⟩⟩)
theorem ev_ishl {a b v : Int32} (hd : decode (mC y) pc = .ok (.ishl, 1)) (hv : v = a <<< (b &&& 31)) (k : Ev N L xs (y, pc + 1, lv, .int v :: t, e, σ) r) : Ev N L xs (y, pc, lv, .int b :: .int a :: t, e, σ) r := fun P h => h _ _ (Or.inl ⟨_, _, hd, ⟨rfl, a, b, t, rfl, hv ▸ (k P h)⟩⟩)
theorem ev_ishr {a b v : Int32} (hd : decode (mC y) pc = .ok (.ishr, 1)) (hv : v = a >>> (b &&& 31)) (k : Ev N L xs (y, pc + 1, lv, .int v :: t, e, σ) r) : Ev N L xs (y, pc, lv, .int b :: .int a :: t, e, σ) r := fun P h => h _ _ (Or.inl ⟨_, _, hd, ⟨rfl, a, b, t, rfl, hv ▸ (k P h)⟩⟩)
theorem ev_ladd {a b v : Int64} (hd : decode (mC y) pc = .ok (.ladd, 1)) (hv : v = a + b) (k : Ev N L xs (y, pc + 1, lv, .long v :: t, e, σ) r) : Ev N L xs (y, pc, lv, .long b :: .long a :: t, e, σ) r := fun P h => h _ _ (Or.inl ⟨_, _, hd, ⟨rfl, a, b, t, rfl, hv ▸ (k P h)⟩⟩)
theorem ev_lsub {a b v : Int64} (hd : decode (mC y) pc = .ok (.lsub, 1)) (hv : v = a - b) (k : Ev N L xs (y, pc + 1, lv, .long v :: t, e, σ) r) : Ev N L xs (y, pc, lv, .long b :: .long a :: t, e, σ) r := fun P h => h _ _ (Or.inl ⟨_, _, hd, ⟨rfl, a, b, t, rfl, hv ▸ (k P h)⟩⟩)
theorem ev_lmul {a b v : Int64} (hd : decode (mC y) pc = .ok (.lmul, 1)) (hv : v = a * b) (k : Ev N L xs (y, pc + 1, lv, .long v :: t, e, σ) r) : Ev N L xs (y, pc, lv, .long b :: .long a :: t, e, σ) r := fun P h => h _ _ (Or.inl ⟨_, _, hd, ⟨rfl, a, b, t, rfl, hv ▸ (k P h)⟩⟩)
theorem ev_land {a b v : Int64} (hd : decode (mC y) pc = .ok (.land, 1)) (hv : v = a &&& b) (k : Ev N L xs (y, pc + 1, lv, .long v :: t, e, σ) r) : Ev N L xs (y, pc, lv, .long b :: .long a :: t, e, σ) r := fun P h => h _ _ (Or.inl ⟨_, _, hd, ⟨rfl, a, b, t, rfl, hv ▸ (k P h)⟩⟩)
theorem ev_lor {a b v : Int64} (hd : decode (mC y) pc = .ok (.lor, 1)) (hv : v = a ||| b) (k : Ev N L xs (y, pc + 1, lv, .long v :: t, e, σ) r) : Ev N L xs (y, pc, lv, .long b :: .long a :: t, e, σ) r := fun P h => h _ _ (Or.inl ⟨_, _, hd, ⟨rfl, a, b, t, rfl, hv ▸ (k P h)⟩⟩)
theorem ev_lxor {a b v : Int64} (hd : decode (mC y) pc = .ok (.lxor, 1)) (hv : v = a ^^^ b) (k : Ev N L xs (y, pc + 1, lv, .long v :: t, e, σ) r) : Ev N L xs (y, pc, lv, .long b :: .long a :: t, e, σ) r := fun P h => h _ _ (Or.inl ⟨_, _, hd, ⟨rfl, a, b, t, rfl, hv ▸ (k P h)⟩⟩)
theorem ev_idiv {a b v : Int32} (hd : decode (mC y) pc = .ok (.idiv, 1)) (hb : ¬ b = 0) (hv : v = a / b) (k : Ev N L xs (y, pc + 1, lv, .int v :: t, e, σ) r) : Ev N L xs (y, pc, lv, .int b :: .int a :: t, e, σ) r := fun P h => h _ _ (Or.inl ⟨_, _, hd, ⟨rfl, a, b, t, rfl, hb, hv ▸ (k P h)⟩⟩)
theorem ev_irem {a b v : Int32} (hd : decode (mC y) pc = .ok (.irem, 1)) (hb : ¬ b = 0) (hv : v = a - a / b * b) (k : Ev N L xs (y, pc + 1, lv, .int v :: t, e, σ) r) : Ev N L xs (y, pc, lv, .int b :: .int a :: t, e, σ) r := fun P h => h _ _ (Or.inl ⟨_, _, hd, ⟨rfl, a, b, t, rfl, hb, hv ▸ (k P h)⟩⟩)
theorem ev_ineg {a v : Int32} (hd : decode (mC y) pc = .ok (.ineg, 1)) (hv : v = -a) (k : Ev N L xs (y, pc + 1, lv, .int v :: t, e, σ) r) : Ev N L xs (y, pc, lv, .int a :: t, e, σ) r := fun P h => h _ _ (Or.inl ⟨_, _, hd, ⟨rfl, a, t, rfl, hv ▸ (k P h)⟩⟩)
theorem ev_iushr {a b v : Int32} (hd : decode (mC y) pc = .ok (.iushr, 1)) (hv : v = (a.toUInt32 >>> (b.toUInt32 &&& Int32.toUInt32 31)).toInt32) (k : Ev N L xs (y, pc + 1, lv, .int v :: t, e, σ) r) : Ev N L xs (y, pc, lv, .int b :: .int a :: t, e, σ) r := fun P h => h _ _ (Or.inl ⟨_, _, hd, ⟨rfl, a, b, t, rfl, hv ▸ (k P h)⟩⟩)
theorem ev_lushr {a v : Int64} {b : Int32} (hd : decode (mC y) pc = .ok (.lushr, 1)) (hv : v = (a.toUInt64 >>> (b.toInt64.toUInt64 &&& Int64.toUInt64 63)).toInt64) (k : Ev N L xs (y, pc + 1, lv, .long v :: t, e, σ) r) : Ev N L xs (y, pc, lv, .int b :: .long a :: t, e, σ) r := fun P h => h _ _ (Or.inl ⟨_, _, hd, ⟨rfl, a, b, t, rfl, hv ▸ (k P h)⟩⟩)
theorem ev_lshl {a v : Int64} {b : Int32} (hd : decode (mC y) pc = .ok (.lshl, 1)) (hv : v = a <<< (b.toInt64 &&& 63)) (k : Ev N L xs (y, pc + 1, lv, .long v :: t, e, σ) r) : Ev N L xs (y, pc, lv, .int b :: .long a :: t, e, σ) r := fun P h => h _ _ (Or.inl ⟨_, _, hd, ⟨rfl, a, b, t, rfl, hv ▸ (k P h)⟩⟩)
theorem ev_lshr {a v : Int64} {b : Int32} (hd : decode (mC y) pc = .ok (.lshr, 1)) (hv : v = a >>> (b.toInt64 &&& 63)) (k : Ev N L xs (y, pc + 1, lv, .long v :: t, e, σ) r) : Ev N L xs (y, pc, lv, .int b :: .long a :: t, e, σ) r := fun P h => h _ _ (Or.inl ⟨_, _, hd, ⟨rfl, a, b, t, rfl, hv ▸ (k P h)⟩⟩)
theorem ev_i2l {a : Int32} {v : Int64} (hd : decode (mC y) pc = .ok (.i2l, 1)) (hv : v = a.toInt64) (k : Ev N L xs (y, pc + 1, lv, .long v :: t, e, σ) r) : Ev N L xs (y, pc, lv, .int a :: t, e, σ) r := fun P h => h _ _ (Or.inl ⟨_, _, hd, ⟨rfl, a, t, rfl, hv ▸ (k P h)⟩⟩)
theorem ev_l2i {a : Int64} {v : Int32} (hd : decode (mC y) pc = .ok (.l2i, 1)) (hv : v = a.toInt32) (k : Ev N L xs (y, pc + 1, lv, .int v :: t, e, σ) r) : Ev N L xs (y, pc, lv, .long a :: t, e, σ) r := fun P h => h _ _ (Or.inl ⟨_, _, hd, ⟨rfl, a, t, rfl, hv ▸ (k P h)⟩⟩)
theorem ev_lcmp {a b : Int64} (hd : decode (mC y) pc = .ok (.lcmp, 1))  (k : Ev N L xs (y, pc + 1, lv, .int (lg_cmp a b) :: t, e, σ) r) : Ev N L xs (y, pc, lv, .long b :: .long a :: t, e, σ) r := fun P h => h _ _ (Or.inl ⟨_, _, hd, ⟨rfl, a, b, t, rfl, (k P h)⟩⟩)
theorem ev_dup {a : Value} (hd : decode (mC y) pc = .ok (.dup, 1)) (ha : a.category = 1) (k : Ev N L xs (y, pc + 1, lv, a :: a :: t, e, σ) r) : Ev N L xs (y, pc, lv, a :: t, e, σ) r := fun P h => h _ _ (Or.inl ⟨_, _, hd, ⟨rfl, a, t, rfl, ha, (k P h)⟩⟩)
theorem ev_pop {a : Value} (hd : decode (mC y) pc = .ok (.pop, 1)) (ha : a.category = 1) (k : Ev N L xs (y, pc + 1, lv, t, e, σ) r) : Ev N L xs (y, pc, lv, a :: t, e, σ) r := fun P h => h _ _ (Or.inl ⟨_, _, hd, ⟨rfl, a, t, rfl, ha, (k P h)⟩⟩)
theorem ev_dup2 {a b : Value} (hd : decode (mC y) pc = .ok (.dup2, 1)) (ha : a.category = 1) (hb : b.category = 1) (k : Ev N L xs (y, pc + 1, lv, a :: b :: a :: b :: t, e, σ) r) : Ev N L xs (y, pc, lv, a :: b :: t, e, σ) r := fun P h => h _ _ (Or.inl ⟨_, _, hd, ⟨rfl, a, b, t, rfl, ha, hb, (k P h)⟩⟩)
theorem ev_goto {off : Int} {tgt : Nat} (hd : decode (mC y) pc = .ok (.goto off, 3)) (ht : (pc : Int) + off = (tgt : Int)) (k : Ev N L xs (y, tgt, lv, st, e, σ) r) : Ev N L xs (y, pc, lv, st, e, σ) r := fun P h => h _ _ (Or.inl ⟨_, _, hd, ⟨rfl, tgt, ht, (k P h)⟩⟩)
theorem ev_if {c : ClassFile.Cond} {off : Int} {x : Int32} {tgt : Nat} (hd : decode (mC y) pc = .ok (.ifCond c off, 3)) (ht : (pc : Int) + off = (tgt : Int)) (kt : cmP c x 0 → Ev N L xs (y, tgt, lv, t, e, σ) r) (kf : ¬ cmP c x 0 → Ev N L xs (y, pc + 3, lv, t, e, σ) r) : Ev N L xs (y, pc, lv, .int x :: t, e, σ) r := fun P h => h _ _ (Or.inl ⟨_, _, hd, ⟨rfl, x, t, tgt, rfl, ht, (fun z => kt z P h), (fun z => kf z P h)⟩⟩)
theorem ev_icmp {c : ClassFile.Cond} {off : Int} {a b : Int32} {tgt : Nat} (hd : decode (mC y) pc = .ok (.if_icmp c off, 3)) (ht : (pc : Int) + off = (tgt : Int)) (kt : cmP c a b → Ev N L xs (y, tgt, lv, t, e, σ) r) (kf : ¬ cmP c a b → Ev N L xs (y, pc + 3, lv, t, e, σ) r) : Ev N L xs (y, pc, lv, .int b :: .int a :: t, e, σ) r := fun P h => h _ _ (Or.inl ⟨_, _, hd, ⟨rfl, a, b, t, tgt, rfl, ht, (fun z => kt z P h), (fun z => kf z P h)⟩⟩)
theorem ev_if_eq {α : Type} {X Y : α} (f : α → mmR) {a : Int32} {off : Int} {tgt : Nat} (hd : decode (mC y) pc = .ok (.ifCond .eq off, 3)) (ht : (pc : Int) + off = (tgt : Int)) (kt : a = 0 → Ev N L xs (y, tgt, lv, t, e, σ) (f X)) (kf : ¬ a = 0 → Ev N L xs (y, pc + 3, lv, t, e, σ) (f Y)) : Ev N L xs (y, pc, lv, .int a :: t, e, σ) (f (if a = 0 then X else Y)) := by
  by_cases h : a = 0
  · rw [if_pos h]; exact ev_if hd ht (fun _ => kt h) (fun h9 => absurd h h9)
  · rw [if_neg h]; exact ev_if hd ht (fun h9 => absurd h9 h) (fun _ => kf h)
theorem ev_icmp_eq {α : Type} {X Y : α} (f : α → mmR) {a b : Int32} {off : Int} {tgt : Nat} (hd : decode (mC y) pc = .ok (.if_icmp .eq off, 3)) (ht : (pc : Int) + off = (tgt : Int)) (kt : a = b → Ev N L xs (y, tgt, lv, t, e, σ) (f X)) (kf : ¬ a = b → Ev N L xs (y, pc + 3, lv, t, e, σ) (f Y)) : Ev N L xs (y, pc, lv, .int b :: .int a :: t, e, σ) (f (if a = b then X else Y)) := by
  by_cases h : a = b
  · rw [if_pos h]; exact ev_icmp hd ht (fun _ => kt h) (fun h9 => absurd h h9)
  · rw [if_neg h]; exact ev_icmp hd ht (fun h9 => absurd h9 h) (fun _ => kf h)
theorem ev_if_ne {α : Type} {X Y : α} (f : α → mmR) {a : Int32} {off : Int} {tgt : Nat} (hd : decode (mC y) pc = .ok (.ifCond .ne off, 3)) (ht : (pc : Int) + off = (tgt : Int)) (kt : ¬ a = 0 → Ev N L xs (y, tgt, lv, t, e, σ) (f X)) (kf : a = 0 → Ev N L xs (y, pc + 3, lv, t, e, σ) (f Y)) : Ev N L xs (y, pc, lv, .int a :: t, e, σ) (f (if a = 0 then Y else X)) := by
  by_cases h : a = 0
  · rw [if_pos h]; exact ev_if hd ht (fun h9 => absurd h h9) (fun _ => kf h)
  · rw [if_neg h]; exact ev_if hd ht (fun _ => kt h) (fun h9 => absurd h h9)
theorem ev_icmp_ne {α : Type} {X Y : α} (f : α → mmR) {a b : Int32} {off : Int} {tgt : Nat} (hd : decode (mC y) pc = .ok (.if_icmp .ne off, 3)) (ht : (pc : Int) + off = (tgt : Int)) (kt : ¬ a = b → Ev N L xs (y, tgt, lv, t, e, σ) (f X)) (kf : a = b → Ev N L xs (y, pc + 3, lv, t, e, σ) (f Y)) : Ev N L xs (y, pc, lv, .int b :: .int a :: t, e, σ) (f (if a = b then Y else X)) := by
  by_cases h : a = b
  · rw [if_pos h]; exact ev_icmp hd ht (fun h9 => absurd h h9) (fun _ => kf h)
  · rw [if_neg h]; exact ev_icmp hd ht (fun _ => kt h) (fun h9 => absurd h h9)
theorem ev_if_lt {α : Type} {X Y : α} (f : α → mmR) {a : Int32} {off : Int} {tgt : Nat} (hd : decode (mC y) pc = .ok (.ifCond .lt off, 3)) (ht : (pc : Int) + off = (tgt : Int)) (kt : a < 0 → Ev N L xs (y, tgt, lv, t, e, σ) (f X)) (kf : ¬ a < 0 → Ev N L xs (y, pc + 3, lv, t, e, σ) (f Y)) : Ev N L xs (y, pc, lv, .int a :: t, e, σ) (f (if a < 0 then X else Y)) := by
  by_cases h : a < 0
  · rw [if_pos h]; exact ev_if hd ht (fun _ => kt h) (fun h9 => absurd h h9)
  · rw [if_neg h]; exact ev_if hd ht (fun h9 => absurd h9 h) (fun _ => kf h)
theorem ev_icmp_lt {α : Type} {X Y : α} (f : α → mmR) {a b : Int32} {off : Int} {tgt : Nat} (hd : decode (mC y) pc = .ok (.if_icmp .lt off, 3)) (ht : (pc : Int) + off = (tgt : Int)) (kt : a < b → Ev N L xs (y, tgt, lv, t, e, σ) (f X)) (kf : ¬ a < b → Ev N L xs (y, pc + 3, lv, t, e, σ) (f Y)) : Ev N L xs (y, pc, lv, .int b :: .int a :: t, e, σ) (f (if a < b then X else Y)) := by
  by_cases h : a < b
  · rw [if_pos h]; exact ev_icmp hd ht (fun _ => kt h) (fun h9 => absurd h h9)
  · rw [if_neg h]; exact ev_icmp hd ht (fun h9 => absurd h9 h) (fun _ => kf h)
theorem ev_if_ge {α : Type} {X Y : α} (f : α → mmR) {a : Int32} {off : Int} {tgt : Nat} (hd : decode (mC y) pc = .ok (.ifCond .ge off, 3)) (ht : (pc : Int) + off = (tgt : Int)) (kt : 0 ≤ a → Ev N L xs (y, tgt, lv, t, e, σ) (f X)) (kf : ¬ 0 ≤ a → Ev N L xs (y, pc + 3, lv, t, e, σ) (f Y)) : Ev N L xs (y, pc, lv, .int a :: t, e, σ) (f (if 0 ≤ a then X else Y)) := by
  by_cases h : 0 ≤ a
  · rw [if_pos h]; exact ev_if hd ht (fun _ => kt h) (fun h9 => absurd h h9)
  · rw [if_neg h]; exact ev_if hd ht (fun h9 => absurd h9 h) (fun _ => kf h)
theorem ev_icmp_ge {α : Type} {X Y : α} (f : α → mmR) {a b : Int32} {off : Int} {tgt : Nat} (hd : decode (mC y) pc = .ok (.if_icmp .ge off, 3)) (ht : (pc : Int) + off = (tgt : Int)) (kt : b ≤ a → Ev N L xs (y, tgt, lv, t, e, σ) (f X)) (kf : ¬ b ≤ a → Ev N L xs (y, pc + 3, lv, t, e, σ) (f Y)) : Ev N L xs (y, pc, lv, .int b :: .int a :: t, e, σ) (f (if b ≤ a then X else Y)) := by
  by_cases h : b ≤ a
  · rw [if_pos h]; exact ev_icmp hd ht (fun _ => kt h) (fun h9 => absurd h h9)
  · rw [if_neg h]; exact ev_icmp hd ht (fun h9 => absurd h9 h) (fun _ => kf h)
theorem ev_if_gt {α : Type} {X Y : α} (f : α → mmR) {a : Int32} {off : Int} {tgt : Nat} (hd : decode (mC y) pc = .ok (.ifCond .gt off, 3)) (ht : (pc : Int) + off = (tgt : Int)) (kt : 0 < a → Ev N L xs (y, tgt, lv, t, e, σ) (f X)) (kf : ¬ 0 < a → Ev N L xs (y, pc + 3, lv, t, e, σ) (f Y)) : Ev N L xs (y, pc, lv, .int a :: t, e, σ) (f (if 0 < a then X else Y)) := by
  by_cases h : 0 < a
  · rw [if_pos h]; exact ev_if hd ht (fun _ => kt h) (fun h9 => absurd h h9)
  · rw [if_neg h]; exact ev_if hd ht (fun h9 => absurd h9 h) (fun _ => kf h)
theorem ev_icmp_gt {α : Type} {X Y : α} (f : α → mmR) {a b : Int32} {off : Int} {tgt : Nat} (hd : decode (mC y) pc = .ok (.if_icmp .gt off, 3)) (ht : (pc : Int) + off = (tgt : Int)) (kt : b < a → Ev N L xs (y, tgt, lv, t, e, σ) (f X)) (kf : ¬ b < a → Ev N L xs (y, pc + 3, lv, t, e, σ) (f Y)) : Ev N L xs (y, pc, lv, .int b :: .int a :: t, e, σ) (f (if b < a then X else Y)) := by
  by_cases h : b < a
  · rw [if_pos h]; exact ev_icmp hd ht (fun _ => kt h) (fun h9 => absurd h h9)
  · rw [if_neg h]; exact ev_icmp hd ht (fun h9 => absurd h9 h) (fun _ => kf h)
theorem ev_if_le {α : Type} {X Y : α} (f : α → mmR) {a : Int32} {off : Int} {tgt : Nat} (hd : decode (mC y) pc = .ok (.ifCond .le off, 3)) (ht : (pc : Int) + off = (tgt : Int)) (kt : a ≤ 0 → Ev N L xs (y, tgt, lv, t, e, σ) (f X)) (kf : ¬ a ≤ 0 → Ev N L xs (y, pc + 3, lv, t, e, σ) (f Y)) : Ev N L xs (y, pc, lv, .int a :: t, e, σ) (f (if a ≤ 0 then X else Y)) := by
  by_cases h : a ≤ 0
  · rw [if_pos h]; exact ev_if hd ht (fun _ => kt h) (fun h9 => absurd h h9)
  · rw [if_neg h]; exact ev_if hd ht (fun h9 => absurd h9 h) (fun _ => kf h)
theorem ev_icmp_le {α : Type} {X Y : α} (f : α → mmR) {a b : Int32} {off : Int} {tgt : Nat} (hd : decode (mC y) pc = .ok (.if_icmp .le off, 3)) (ht : (pc : Int) + off = (tgt : Int)) (kt : a ≤ b → Ev N L xs (y, tgt, lv, t, e, σ) (f X)) (kf : ¬ a ≤ b → Ev N L xs (y, pc + 3, lv, t, e, σ) (f Y)) : Ev N L xs (y, pc, lv, .int b :: .int a :: t, e, σ) (f (if a ≤ b then X else Y)) := by
  by_cases h : a ≤ b
  · rw [if_pos h]; exact ev_icmp hd ht (fun _ => kt h) (fun h9 => absurd h h9)
  · rw [if_neg h]; exact ev_icmp hd ht (fun h9 => absurd h9 h) (fun _ => kf h)
theorem ev_ifT {c : ClassFile.Cond} {off : Int} {x : Int32} {tgt : Nat} (hd : decode (mC y) pc = .ok (.ifCond c off, 3)) (ht : (pc : Int) + off = (tgt : Int)) (hc : cmP c x 0) (k : Ev N L xs (y, tgt, lv, t, e, σ) r) : Ev N L xs (y, pc, lv, .int x :: t, e, σ) r := ev_if hd ht (fun _ => k) (fun h => absurd hc h)
theorem ev_ifF {c : ClassFile.Cond} {off : Int} {x : Int32} {tgt : Nat} (hd : decode (mC y) pc = .ok (.ifCond c off, 3)) (ht : (pc : Int) + off = (tgt : Int)) (hc : ¬ cmP c x 0) (k : Ev N L xs (y, pc + 3, lv, t, e, σ) r) : Ev N L xs (y, pc, lv, .int x :: t, e, σ) r := ev_if hd ht (fun h => absurd h hc) (fun _ => k)
theorem ev_icmpT {c : ClassFile.Cond} {off : Int} {a b : Int32} {tgt : Nat} (hd : decode (mC y) pc = .ok (.if_icmp c off, 3)) (ht : (pc : Int) + off = (tgt : Int)) (hc : cmP c a b) (k : Ev N L xs (y, tgt, lv, t, e, σ) r) : Ev N L xs (y, pc, lv, .int b :: .int a :: t, e, σ) r := ev_icmp hd ht (fun _ => k) (fun h => absurd hc h)
theorem ev_icmpF {c : ClassFile.Cond} {off : Int} {a b : Int32} {tgt : Nat} (hd : decode (mC y) pc = .ok (.if_icmp c off, 3)) (ht : (pc : Int) + off = (tgt : Int)) (hc : ¬ cmP c a b) (k : Ev N L xs (y, pc + 3, lv, t, e, σ) r) : Ev N L xs (y, pc, lv, .int b :: .int a :: t, e, σ) r := ev_icmp hd ht (fun h => absurd h hc) (fun _ => k)
theorem ev_getf {k a ci j n : Nat} {cs : List Nat} {v : Value} (hd : decode (mC y) pc = .ok (.getfield k, 3)) (hf : (mO y, k, ci, j, n) ∈ flT) (ha : a < N) (hs : shp a = .inl (ci, cs)) (hv : (cs[j]?).map (slV id (σ.1 a) (σ.2 a) j) = some v) (kk : Ev N L xs (y, pc + 3, lv, v :: t, e, σ) r) : Ev N L xs (y, pc, lv, .ref a :: t, e, σ) r := fun P h => h _ _ (Or.inl ⟨_, _, hd, ⟨rfl, a, t, ci, j, n, cs, v, rfl, hf, ha, hs, hv, (kk P h)⟩⟩)
theorem ev_putf {k a ci j n : Nat} {cs : List Nat} {v : Int32} (hd : decode (mC y) pc = .ok (.putfield k, 3)) (hf : (mO y, k, ci, j, n) ∈ flT) (ha : a < N) (hs : shp a = .inl (ci, cs)) (hn : (Tf ci j).2.2.2 = false) (hv : cs[j]? = some 0 ∨ cs[j]? = some 2 ∧ (v = 0 ∨ v = 1)) (kk : Ev N L xs (y, pc + 3, lv, t, e, mmI σ a j v) r) : Ev N L xs (y, pc, lv, .int v :: .ref a :: t, e, σ) r := fun P h => h _ _ (Or.inl ⟨_, _, hd, ⟨rfl, a, t, ci, j, n, cs, hf, ha, hs, hn, Or.inl ⟨v, rfl, hv, (kk P h)⟩⟩⟩)
theorem ev_putl {k a ci j n : Nat} {cs : List Nat} {v : Int64} (hd : decode (mC y) pc = .ok (.putfield k, 3)) (hf : (mO y, k, ci, j, n) ∈ flT) (ha : a < N) (hs : shp a = .inl (ci, cs)) (hn : (Tf ci j).2.2.2 = false) (hv : cs[j]? = some 1) (kk : Ev N L xs (y, pc + 3, lv, t, e, mmJ σ a j v) r) : Ev N L xs (y, pc, lv, .long v :: .ref a :: t, e, σ) r := fun P h => h _ _ (Or.inl ⟨_, _, hd, ⟨rfl, a, t, ci, j, n, cs, hf, ha, hs, hn, Or.inr ⟨v, rfl, hv, (kk P h)⟩⟩⟩)
theorem ev_iald {a n i : Nat} {j : Int32} (hd : decode (mC y) pc = .ok (.iaload, 1)) (ha : a < N) (hs : shp a = .inr (0, n)) (hj : vp_in j n) (hi : i = j.toNatClampNeg) (k : Ev N L xs (y, pc + 1, lv, .int (σ.1 a i) :: t, e, σ) r) : Ev N L xs (y, pc, lv, .int j :: .ref a :: t, e, σ) r := fun P h => h _ _ (Or.inl ⟨_, _, hd, ⟨rfl, j, a, t, rfl, Or.inl ⟨n, ha, hs, hj, hi ▸ (k P h)⟩⟩⟩)
theorem ev_sald {j : Int32} {i : Nat} (hd : decode (mC y) pc = .ok (.iaload, 1)) (hj : vp_in j L) (hi : i = j.toNatClampNeg) (k : Ev N L xs (y, pc + 1, lv, .int (xs i) :: t, e, σ) r) : Ev N L xs (y, pc, lv, .int j :: .ref 1000 :: t, e, σ) r := fun P h => h _ _ (Or.inl ⟨_, _, hd, ⟨rfl, j, 1000, t, rfl, Or.inr ⟨rfl, hj, hi ▸ (k P h)⟩⟩⟩)
theorem ev_baload {a n i : Nat} {j : Int32} (hd : decode (mC y) pc = .ok (.baload, 1)) (ha : a < N) (hs : shp a = .inr (1, n)) (hj : vp_in j n) (hi : i = j.toNatClampNeg) (k : Ev N L xs (y, pc + 1, lv, .int (σ.1 a i) :: t, e, σ) r) : Ev N L xs (y, pc, lv, .int j :: .ref a :: t, e, σ) r := fun P h => h _ _ (Or.inl ⟨_, _, hd, ⟨rfl, j, a, t, n, rfl, ha, hs, hj, hi ▸ (k P h)⟩⟩)
theorem ev_laload {a n i : Nat} {j : Int32} (hd : decode (mC y) pc = .ok (.laload, 1)) (ha : a < N) (hs : shp a = .inr (2, n)) (hj : vp_in j n) (hi : i = j.toNatClampNeg) (k : Ev N L xs (y, pc + 1, lv, .long (σ.2 a i) :: t, e, σ) r) : Ev N L xs (y, pc, lv, .int j :: .ref a :: t, e, σ) r := fun P h => h _ _ (Or.inl ⟨_, _, hd, ⟨rfl, j, a, t, n, rfl, ha, hs, hj, hi ▸ (k P h)⟩⟩)
theorem ev_aaload {a n i : Nat} {j : Int32} (hd : decode (mC y) pc = .ok (.aaload, 1)) (ha : a < N) (hs : shp a = .inr (3, n)) (hj : vp_in j n) (hi : i = j.toNatClampNeg) (k : Ev N L xs (y, pc + 1, lv, .ref (10 * i + 2) :: t, e, σ) r) : Ev N L xs (y, pc, lv, .int j :: .ref a :: t, e, σ) r := fun P h => h _ _ (Or.inl ⟨_, _, hd, ⟨rfl, j, a, t, n, rfl, ha, hs, hj, hi ▸ (k P h)⟩⟩)
theorem ev_iastore {a n i : Nat} {j : Int32} {v : Int32} (hd : decode (mC y) pc = .ok (.iastore, 1)) (ha : a < N) (hs : shp a = .inr (0, n)) (hj : vp_in j n) (hi : i = j.toNatClampNeg) (k : Ev N L xs (y, pc + 1, lv, t, e, mmI σ a i v) r) : Ev N L xs (y, pc, lv, .int v :: .int j :: .ref a :: t, e, σ) r := fun P h => h _ _ (Or.inl ⟨_, _, hd, ⟨rfl, v, j, a, t, n, rfl, ha, hs, hj, hi ▸ (k P h)⟩⟩)
theorem ev_lastore {a n i : Nat} {j : Int32} {v : Int64} (hd : decode (mC y) pc = .ok (.lastore, 1)) (ha : a < N) (hs : shp a = .inr (2, n)) (hj : vp_in j n) (hi : i = j.toNatClampNeg) (k : Ev N L xs (y, pc + 1, lv, t, e, mmJ σ a i v) r) : Ev N L xs (y, pc, lv, .long v :: .int j :: .ref a :: t, e, σ) r := fun P h => h _ _ (Or.inl ⟨_, _, hd, ⟨rfl, v, j, a, t, n, rfl, ha, hs, hj, hi ▸ (k P h)⟩⟩)
theorem ev_bastore {a n i : Nat} {j : Int32} {v u : Int32} (hd : decode (mC y) pc = .ok (.bastore, 1)) (ha : a < N) (hs : shp a = .inr (1, n)) (hj : vp_in j n) (hi : i = j.toNatClampNeg) (hu : u = vp_nar .boolean v) (k : Ev N L xs (y, pc + 1, lv, t, e, mmI σ a i u) r) : Ev N L xs (y, pc, lv, .int v :: .int j :: .ref a :: t, e, σ) r := fun P h => h _ _ (Or.inl ⟨_, _, hd, ⟨rfl, v, j, a, t, n, rfl, ha, hs, hj, hi ▸ hu ▸ (k P h)⟩⟩)
theorem ev_alen {a k n : Nat} (hd : decode (mC y) pc = .ok (.arraylength, 1)) (ha : a < N) (hs : shp a = .inr (k, n)) (hk : k < 4) (kk : Ev N L xs (y, pc + 1, lv, .int (Int32.ofNat n) :: t, e, σ) r) : Ev N L xs (y, pc, lv, .ref a :: t, e, σ) r := fun P h => h _ _ (Or.inl ⟨_, _, hd, ⟨rfl, a, t, rfl, Or.inl ⟨k, n, ha, hs, hk, (kk P h)⟩⟩⟩)
theorem ev_slen  (hd : decode (mC y) pc = .ok (.arraylength, 1))  (k : Ev N L xs (y, pc + 1, lv, .int (Int32.ofNat L) :: t, e, σ) r) : Ev N L xs (y, pc, lv, .ref 1000 :: t, e, σ) r := fun P h => h _ _ (Or.inl ⟨_, _, hd, ⟨rfl, 1000, t, rfl, Or.inr ⟨rfl, (k P h)⟩⟩⟩)
theorem ev_tabIn {dflt lo hi off : Int} {offs : Array Int} {len tgt : Nat} {x : Int32} (hd : decode (mC y) pc = .ok (.tableswitch dflt lo hi offs, len)) (h1 : ¬ x.toInt < lo) (h2 : ¬ hi < x.toInt) (ho : offs[(x.toInt - lo).toNat]? = some off) (ht : (pc : Int) + off = (tgt : Int)) (k : Ev N L xs (y, tgt, lv, t, e, σ) r) : Ev N L xs (y, pc, lv, .int x :: t, e, σ) r := fun P h => h _ _ (Or.inl ⟨_, _, hd, x, t, tgt, rfl, Or.inr ⟨off, h1, h2, ho, ht⟩, k P h⟩)
theorem ev_tabOut {dflt lo hi : Int} {offs : Array Int} {len tgt : Nat} {x : Int32} (hd : decode (mC y) pc = .ok (.tableswitch dflt lo hi offs, len)) (hx : x.toInt < lo ∨ hi < x.toInt) (ht : (pc : Int) + dflt = (tgt : Int)) (k : Ev N L xs (y, tgt, lv, t, e, σ) r) : Ev N L xs (y, pc, lv, .int x :: t, e, σ) r := fun P h => h _ _ (Or.inl ⟨_, _, hd, x, t, tgt, rfl, Or.inl ⟨hx, ht⟩, k P h⟩)
/-- a static call that returns -/
theorem ev_calls {k z n : Nat} {As : List Value} {v : Option Value} {σ1 : mmS} (hd : decode (mC y) pc = .ok (.invokestatic k, 3)) (hm : (mO y, k, z, n) ∈ mlT) (hz : mS z = true) (hn : As.length = mA z) (hw : (lg_sl As).length = mW z) (hst : st = As.reverse ++ t) (hc : Nat.ble ((t.map fun v => v.category).sum) 8 = true) (he : e + mE z ≤ mE y) (hfit : mmFit y z = true) (c : Ev N L xs (z, 0, lv_args 0 As, [], 0, σ) (.inl v, σ1)) (kk : Ev N L xs (y, pc + 3, lv, v.toList ++ t, e + mE z, σ1) r) : Ev N L xs (y, pc, lv, st, e, σ) r := fun P h => h _ _ (Or.inl ⟨_, _, hd, rfl, z, n, As, t, (.inl v, σ1), hm, hz, hn, hw, hst, hc, he, hfit, fun _ => ⟨v, rfl⟩, c P h, Or.inl ⟨v, rfl, kk P h⟩⟩)
theorem ev_csI {k z n e' : Nat} {As : List Value} {σ1 : mmS} {v : Int32} (hd : decode (mC y) pc = .ok (.invokestatic k, 3)) (hm : (mO y, k, z, n) ∈ mlT) (hz : mS z = true) (hn : As.length = mA z) (hw : (lg_sl As).length = mW z) (hst : st = As.reverse ++ t) (hc : Nat.ble ((t.map fun v => v.category).sum) 8 = true) (he : e + mE z ≤ mE y) (hfit : mmFit y z = true) (he' : e' = e + mE z) (c : Ev N L xs (z, 0, lv_args 0 As, [], 0, σ) (.inl (some (.int v)), σ1)) (kk : Ev N L xs (y, pc + 3, lv, .int v :: t, e', σ1) r) : Ev N L xs (y, pc, lv, st, e, σ) r := ev_calls hd hm hz hn hw hst hc he hfit c (he' ▸ kk)
theorem ev_csJ {k z n e' : Nat} {As : List Value} {σ1 : mmS} {v : Int64} (hd : decode (mC y) pc = .ok (.invokestatic k, 3)) (hm : (mO y, k, z, n) ∈ mlT) (hz : mS z = true) (hn : As.length = mA z) (hw : (lg_sl As).length = mW z) (hst : st = As.reverse ++ t) (hc : Nat.ble ((t.map fun v => v.category).sum) 8 = true) (he : e + mE z ≤ mE y) (hfit : mmFit y z = true) (he' : e' = e + mE z) (c : Ev N L xs (z, 0, lv_args 0 As, [], 0, σ) (.inl (some (.long v)), σ1)) (kk : Ev N L xs (y, pc + 3, lv, .long v :: t, e', σ1) r) : Ev N L xs (y, pc, lv, st, e, σ) r := ev_calls hd hm hz hn hw hst hc he hfit c (he' ▸ kk)
theorem ev_csV {k z n e' : Nat} {As : List Value} {σ1 : mmS}  (hd : decode (mC y) pc = .ok (.invokestatic k, 3)) (hm : (mO y, k, z, n) ∈ mlT) (hz : mS z = true) (hn : As.length = mA z) (hw : (lg_sl As).length = mW z) (hst : st = As.reverse ++ t) (hc : Nat.ble ((t.map fun v => v.category).sum) 8 = true) (he : e + mE z ≤ mE y) (hfit : mmFit y z = true) (he' : e' = e + mE z) (c : Ev N L xs (z, 0, lv_args 0 As, [], 0, σ) (.inl none, σ1)) (kk : Ev N L xs (y, pc + 3, lv, t, e', σ1) r) : Ev N L xs (y, pc, lv, st, e, σ) r := ev_calls hd hm hz hn hw hst hc he hfit c (he' ▸ kk)
/-- a static call that throws, past this method -/
theorem ev_callsX {k z : Nat} {As : List Value} {E : String} {σ1 : mmS} (hd : decode (mC y) pc = .ok (.invokestatic k, 3)) (hm : (mO y, k, z, 0) ∈ mlT) (hz : mS z = true) (hn : As.length = mA z) (hw : (lg_sl As).length = mW z) (hst : st = As.reverse ++ t) (hc : Nat.ble ((t.map fun v => v.category).sum) 8 = true) (he : e + mE z ≤ mE y) (hfit : mmFit y z = true) (hh : mH y = []) (c : Ev N L xs (z, 0, lv_args 0 As, [], 0, σ) (.inr E, σ1)) : Ev N L xs (y, pc, lv, st, e, σ) (.inr E, σ1) := fun P h => h _ _ (Or.inl ⟨_, _, hd, rfl, z, 0, As, t, (.inr E, σ1), hm, hz, hn, hw, hst, hc, he, hfit, fun h => absurd h (by decide), c P h, Or.inr (Or.inl ⟨E, rfl, hh, rfl⟩)⟩)
theorem ev_callv {k z a ci : Nat} {cs : List Nat} {As : List Value} {v : Option Value} {σ1 : mmS} (hd : decode (mC y) pc = .ok (.invokevirtual k, 3)) (hm : (mO y, k, z, 0) ∈ mlT) (hz : mS z = false) (hn : As.length = mA z) (hw : (lg_sl (.ref a :: As)).length = mW z) (hst : st = As.reverse ++ .ref a :: t) (hc : Nat.ble ((t.map fun v => v.category).sum) 8 = true) (he : e + mE z ≤ mE y) (hfit : mmFit y z = true) (ha : a < N) (hs : shp a = .inl (ci, cs)) (ho : mO z = ci) (c : Ev N L xs (z, 0, lv_args 0 (.ref a :: As), [], 0, σ) (.inl v, σ1)) (kk : Ev N L xs (y, pc + 3, lv, v.toList ++ t, e + mE z, σ1) r) : Ev N L xs (y, pc, lv, st, e, σ) r := fun P h => h _ _ (Or.inl ⟨_, _, hd, rfl, z, a, As, t, (.inl v, σ1), ci, cs, hm, hz, hn, hw, hst, hc, he, hfit, ha, hs, ho, c P h, Or.inl ⟨v, rfl, kk P h⟩⟩)
theorem ev_callvX {k z a ci : Nat} {cs : List Nat} {As : List Value} {E : String} {σ1 : mmS} (hd : decode (mC y) pc = .ok (.invokevirtual k, 3)) (hm : (mO y, k, z, 0) ∈ mlT) (hz : mS z = false) (hn : As.length = mA z) (hw : (lg_sl (.ref a :: As)).length = mW z) (hst : st = As.reverse ++ .ref a :: t) (hc : Nat.ble ((t.map fun v => v.category).sum) 8 = true) (he : e + mE z ≤ mE y) (hfit : mmFit y z = true) (ha : a < N) (hs : shp a = .inl (ci, cs)) (ho : mO z = ci) (hh : mH y = []) (c : Ev N L xs (z, 0, lv_args 0 (.ref a :: As), [], 0, σ) (.inr E, σ1)) : Ev N L xs (y, pc, lv, st, e, σ) (.inr E, σ1) := fun P h => h _ _ (Or.inl ⟨_, _, hd, rfl, z, a, As, t, (.inr E, σ1), ci, cs, hm, hz, hn, hw, hst, hc, he, hfit, ha, hs, ho, c P h, Or.inr (Or.inl ⟨E, rfl, hh, rfl⟩)⟩)
theorem ev_cvI {k z a ci e' : Nat} {cs : List Nat} {As : List Value} {σ1 : mmS} {v : Int32} (hd : decode (mC y) pc = .ok (.invokevirtual k, 3)) (hm : (mO y, k, z, 0) ∈ mlT) (hz : mS z = false) (hn : As.length = mA z) (hw : (lg_sl (.ref a :: As)).length = mW z) (hst : st = As.reverse ++ .ref a :: t) (hc : Nat.ble ((t.map fun v => v.category).sum) 8 = true) (he : e + mE z ≤ mE y) (hfit : mmFit y z = true) (ha : a < N) (hs : shp a = .inl (ci, cs)) (ho : mO z = ci) (he' : e' = e + mE z) (c : Ev N L xs (z, 0, lv_args 0 (.ref a :: As), [], 0, σ) (.inl (some (.int v)), σ1)) (kk : Ev N L xs (y, pc + 3, lv, .int v :: t, e', σ1) r) : Ev N L xs (y, pc, lv, st, e, σ) r := ev_callv hd hm hz hn hw hst hc he hfit ha hs ho c (he' ▸ kk)
theorem ev_cvJ {k z a ci e' : Nat} {cs : List Nat} {As : List Value} {σ1 : mmS} {v : Int64} (hd : decode (mC y) pc = .ok (.invokevirtual k, 3)) (hm : (mO y, k, z, 0) ∈ mlT) (hz : mS z = false) (hn : As.length = mA z) (hw : (lg_sl (.ref a :: As)).length = mW z) (hst : st = As.reverse ++ .ref a :: t) (hc : Nat.ble ((t.map fun v => v.category).sum) 8 = true) (he : e + mE z ≤ mE y) (hfit : mmFit y z = true) (ha : a < N) (hs : shp a = .inl (ci, cs)) (ho : mO z = ci) (he' : e' = e + mE z) (c : Ev N L xs (z, 0, lv_args 0 (.ref a :: As), [], 0, σ) (.inl (some (.long v)), σ1)) (kk : Ev N L xs (y, pc + 3, lv, .long v :: t, e', σ1) r) : Ev N L xs (y, pc, lv, st, e, σ) r := ev_callv hd hm hz hn hw hst hc he hfit ha hs ho c (he' ▸ kk)
theorem ev_cvV {k z a ci e' : Nat} {cs : List Nat} {As : List Value} {σ1 : mmS}  (hd : decode (mC y) pc = .ok (.invokevirtual k, 3)) (hm : (mO y, k, z, 0) ∈ mlT) (hz : mS z = false) (hn : As.length = mA z) (hw : (lg_sl (.ref a :: As)).length = mW z) (hst : st = As.reverse ++ .ref a :: t) (hc : Nat.ble ((t.map fun v => v.category).sum) 8 = true) (he : e + mE z ≤ mE y) (hfit : mmFit y z = true) (ha : a < N) (hs : shp a = .inl (ci, cs)) (ho : mO z = ci) (he' : e' = e + mE z) (c : Ev N L xs (z, 0, lv_args 0 (.ref a :: As), [], 0, σ) (.inl none, σ1)) (kk : Ev N L xs (y, pc + 3, lv, t, e', σ1) r) : Ev N L xs (y, pc, lv, st, e, σ) r := ev_callv hd hm hz hn hw hst hc he hfit ha hs ho c (he' ▸ kk)
/-- a virtual call that throws, caught here -/
theorem ev_callvC {k z a ci hp j w : Nat} {cs : List Nat} {As : List Value} {E : String} {σ1 : mmS} (hd : decode (mC y) pc = .ok (.invokevirtual k, 3)) (hm : (mO y, k, z, 0) ∈ mlT) (hz : mS z = false) (hn : As.length = mA z) (hw : (lg_sl (.ref a :: As)).length = mW z) (hst : st = As.reverse ++ .ref a :: t) (hc : Nat.ble ((t.map fun v => v.category).sum) 8 = true) (he : e + mE z ≤ mE y) (hfit : mmFit y z = true) (ha : a < N) (hs : shp a = .inl (ci, cs)) (ho : mO z = ci) (c : Ev N L xs (z, 0, lv_args 0 (.ref a :: As), [], 0, σ) (.inr E, σ1)) (hh : hndl y pc E (mH y) = some hp) (hi : decode (mC y) hp = .ok (.astore j, 2) ∧ w = 2 ∨ ∃ i : Fin 4, decode (mC y) hp = .ok (.astore_n i, 1) ∧ (i : Nat) = j ∧ w = 1) (hj : j < mL y) (hl : lv' = lvD lv j) (kk : Ev N L xs (y, hp + w, lv', [], e + mE z, σ1) r) : Ev N L xs (y, pc, lv, st, e, σ) r := fun P h => h _ _ (Or.inl ⟨_, _, hd, rfl, z, a, As, t, (.inr E, σ1), ci, cs, hm, hz, hn, hw, hst, hc, he, hfit, ha, hs, ho, c P h, Or.inr (Or.inr ⟨E, hp, j, w, rfl, hh, hi, hj, hl ▸ kk P h⟩)⟩)
theorem ev_throw {k i j : Nat} {E : String} (hd : decode (mC y) pc = .ok (.new k, 3)) (hx : (y, pc, k, i, j, E) ∈ xsT) (he : e + 1 ≤ mE y) (hc : Nat.ble ((st.map fun v => v.category).sum) 8 = true) (hh : mH y = []) : Ev N L xs (y, pc, lv, st, e, σ) (.inr E, σ) := fun P h => h _ _ (Or.inl ⟨_, _, hd, rfl, E, i, j, hx, he, hc, hh, rfl⟩)
theorem ev_iret {v : Int32} (hd : decode (mC y) pc = .ok (.ireturn, 1)) (hr : mR y = some .int) : Ev N L xs (y, pc, lv, [.int v], e, σ) (.inl (some (.int v)), σ) := fun P h => h _ _ (Or.inl ⟨_, _, hd, rfl, v, rfl, Or.inl hr, rfl⟩)
theorem ev_zret {v : Int32} (hd : decode (mC y) pc = .ok (.ireturn, 1)) (hr : mR y = some .boolean) (hv : v = 0 ∨ v = 1) : Ev N L xs (y, pc, lv, [.int v], e, σ) (.inl (some (.int v)), σ) := fun P h => h _ _ (Or.inl ⟨_, _, hd, rfl, v, rfl, Or.inr ⟨hr, hv⟩, rfl⟩)
theorem ev_lret {v : Int64} (hd : decode (mC y) pc = .ok (.lreturn, 1)) (hr : mR y = some .long) : Ev N L xs (y, pc, lv, [.long v], e, σ) (.inl (some (.long v)), σ) := fun P h => h _ _ (Or.inl ⟨_, _, hd, rfl, v, rfl, hr, rfl⟩)
theorem ev_vret (hd : decode (mC y) pc = .ok (.return_, 1)) (hr : mR y = none) : Ev N L xs (y, pc, lv, [], e, σ) (.inl none, σ) := fun P h => h _ _ (Or.inl ⟨_, _, hd, rfl, rfl, hr, rfl⟩)
/-- fewer locals, in any order -/
theorem ev_sub (hs : ∀ q ∈ lv', q ∈ lv) (k : Ev N L xs (y, pc, lv', st, e, σ) r) : Ev N L xs (y, pc, lv, st, e, σ) r := fun P h => h _ _ (Or.inr ⟨lv', hs, k P h⟩)
end EV
