section CO
theorem cb_20 : (Int8.ofInt (20)).toInt32 = (20 : Int32) := by decide +kernel
theorem cb_40 : (Int8.ofInt (40)).toInt32 = (40 : Int32) := by decide +kernel
theorem cb_59 : (Int8.ofInt (59)).toInt32 = (59 : Int32) := by decide +kernel
theorem cb_60 : (Int8.ofInt (60)).toInt32 = (60 : Int32) := by decide +kernel
theorem cb_70 : (Int8.ofInt (70)).toInt32 = (70 : Int32) := by decide +kernel
theorem cb_80 : (Int8.ofInt (80)).toInt32 = (80 : Int32) := by decide +kernel
theorem cb_90 : (Int8.ofInt (90)).toInt32 = (90 : Int32) := by decide +kernel
theorem cb_m3 : (Int8.ofInt (-3)).toInt32 = (-3 : Int32) := by decide +kernel
theorem cs_160 : (Int16.ofInt (160)).toInt32 = (160 : Int32) := by decide +kernel
theorem cs_m1000 : (Int16.ofInt (-1000)).toInt32 = (-1000 : Int32) := by decide +kernel
end CO
section RD
theorem rdS {σ : mmS} {a i : Nat} {v : Int32} : (mmI σ a i v).1 a i = v := by
  show (if a = a then upd (σ.1 a) i v else σ.1 a) i = v
  rw [if_pos rfl]
  exact pk_us
theorem rdI {σ : mmS} {a i j : Nat} {v : Int32} (h : j ≠ i) : (mmI σ a i v).1 a j = σ.1 a j := by
  show (if a = a then upd (σ.1 a) i v else σ.1 a) j = σ.1 a j
  rw [if_pos rfl]
  exact pk_un h
theorem rdK {σ : mmS} {a k i j : Nat} {v : Int32} (h : k ≠ a) : (mmI σ a i v).1 k j = σ.1 k j := by
  show (if k = a then upd (σ.1 a) i v else σ.1 k) j = σ.1 k j
  rw [if_neg h]
theorem rdn {j a b : Nat} (h : a ≠ b) : 10 * j + a ≠ 10 * j + b := by omega
theorem rdO {x v : Int32} (h : x = v) : some (Value.int x) = some (Value.int v) := by rw [h]
variable {N L : Nat} {xs : Nat → Int32} {y pc : Nat} {lv : List (Nat × Value)} {t : List Value} {e : Nat} {σ : mmS} {r : mmR}
theorem ev_iald2 {a n i : Nat} {j v : Int32} (hd : decode (mC y) pc = .ok (.iaload, 1)) (ha : a < N) (hs : shp a = .inr (0, n)) (hj : vp_in j n) (hi : i = j.toNatClampNeg) (hv : σ.1 a i = v) (k : Ev N L xs (y, pc + 1, lv, .int v :: t, e, σ) r) : Ev N L xs (y, pc, lv, .int j :: .ref a :: t, e, σ) r := ev_iald hd ha hs hj hi (by rw [hv]; exact k)
theorem ev_baload2 {a n i : Nat} {j v : Int32} (hd : decode (mC y) pc = .ok (.baload, 1)) (ha : a < N) (hs : shp a = .inr (1, n)) (hj : vp_in j n) (hi : i = j.toNatClampNeg) (hv : σ.1 a i = v) (k : Ev N L xs (y, pc + 1, lv, .int v :: t, e, σ) r) : Ev N L xs (y, pc, lv, .int j :: .ref a :: t, e, σ) r := ev_baload hd ha hs hj hi (by rw [hv]; exact k)
end RD
