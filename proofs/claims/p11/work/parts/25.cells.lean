section WC
def cW (CA : Nat → ClassId) (ρ : Nat → Nat) (v0 : Int32) : va_W := (([((ρ 0), .inr (6, [.ref (ρ 1), .long 0, .int 0, .int 0, .long (-1 : Int64)])), ((ρ 1), .inl (CA 3, 4, .inr (.inr (.inr (.inr (va_up (va_up (va_up (va_up (fun _ => none) (0 : Int32).toNatClampNeg (some (ρ 2))) (1 : Int32).toNatClampNeg (some (ρ 12))) (2 : Int32).toNatClampNeg (some (ρ 22))) (3 : Int32).toNatClampNeg (some (ρ 32)))))))), ((ρ 2), .inr (3, [.int (0 : Int32), .int ((((v0.toUInt32 >>> (((8 : Int32) * (0 : Int32)).toUInt32 &&& Int32.toUInt32 31)).toInt32) &&& (255 : Int32)) - (((v0.toUInt32 >>> (((8 : Int32) * (0 : Int32)).toUInt32 &&& Int32.toUInt32 31)).toInt32) &&& (255 : Int32)) / (31 : Int32) * (31 : Int32)), .ref (ρ 3), .ref (ρ 4), .ref (ρ 5), .ref (ρ 10), .ref (ρ 11), .int 0, .int 0, .int 0, .int 0, .int 0, .int 0])), ((ρ 3), .inr (5, [.int 0, .int 0, .int 0, .int 0, .int 0])), ((ρ 4), .inr (4, [.int 0, .int 0, .int 0, .int 0])), ((ρ 5), .inr (0, [.ref (ρ 6), .ref (ρ 7), .ref (ρ 8)])), ((ρ 6), .inl (CA 0, 4, .inl (fun j => if j < 4 then (1000 : Int32) else (fun _ => 0) j))), ((ρ 7), .inl (CA 0, 4, .inl (fun j => if j < 4 then (1000 : Int32) else (fun _ => 0) j))), ((ρ 8), .inr (2, [.ref (ρ 9), .int (1 : Int32)])), ((ρ 9), .inl (CA 0, 5, .inl (fun _ => 0))), ((ρ 10), .inr (1, [.int 0, .int 0, .int 0, .int 0, .int 0])), ((ρ 11), .inl (CA 0, 10, .inl (fun j => if j < 10 then (-1 : Int32) else (fun _ => 0) j))), ((ρ 12), .inr (3, [.int (1 : Int32), .int ((((v0.toUInt32 >>> (((8 : Int32) * (1 : Int32)).toUInt32 &&& Int32.toUInt32 31)).toInt32) &&& (255 : Int32)) - (((v0.toUInt32 >>> (((8 : Int32) * (1 : Int32)).toUInt32 &&& Int32.toUInt32 31)).toInt32) &&& (255 : Int32)) / (31 : Int32) * (31 : Int32)), .ref (ρ 13), .ref (ρ 14), .ref (ρ 15), .ref (ρ 20), .ref (ρ 21), .int 0, .int 0, .int 0, .int 0, .int 0, .int 0])), ((ρ 13), .inr (5, [.int 0, .int 0, .int 0, .int 0, .int 0])), ((ρ 14), .inr (4, [.int 0, .int 0, .int 0, .int 0])), ((ρ 15), .inr (0, [.ref (ρ 16), .ref (ρ 17), .ref (ρ 18)])), ((ρ 16), .inl (CA 0, 4, .inl (fun j => if j < 4 then (1000 : Int32) else (fun _ => 0) j))), ((ρ 17), .inl (CA 0, 4, .inl (fun j => if j < 4 then (1000 : Int32) else (fun _ => 0) j))), ((ρ 18), .inr (2, [.ref (ρ 19), .int (1 : Int32)])), ((ρ 19), .inl (CA 0, 5, .inl (fun _ => 0))), ((ρ 20), .inr (1, [.int 0, .int 0, .int 0, .int 0, .int 0])), ((ρ 21), .inl (CA 0, 10, .inl (fun j => if j < 10 then (-1 : Int32) else (fun _ => 0) j))), ((ρ 22), .inr (3, [.int (2 : Int32), .int ((((v0.toUInt32 >>> (((8 : Int32) * (2 : Int32)).toUInt32 &&& Int32.toUInt32 31)).toInt32) &&& (255 : Int32)) - (((v0.toUInt32 >>> (((8 : Int32) * (2 : Int32)).toUInt32 &&& Int32.toUInt32 31)).toInt32) &&& (255 : Int32)) / (31 : Int32) * (31 : Int32)), .ref (ρ 23), .ref (ρ 24), .ref (ρ 25), .ref (ρ 30), .ref (ρ 31), .int 0, .int 0, .int 0, .int 0, .int 0, .int 0])), ((ρ 23), .inr (5, [.int 0, .int 0, .int 0, .int 0, .int 0])), ((ρ 24), .inr (4, [.int 0, .int 0, .int 0, .int 0])), ((ρ 25), .inr (0, [.ref (ρ 26), .ref (ρ 27), .ref (ρ 28)])), ((ρ 26), .inl (CA 0, 4, .inl (fun j => if j < 4 then (1000 : Int32) else (fun _ => 0) j))), ((ρ 27), .inl (CA 0, 4, .inl (fun j => if j < 4 then (1000 : Int32) else (fun _ => 0) j))), ((ρ 28), .inr (2, [.ref (ρ 29), .int (1 : Int32)])), ((ρ 29), .inl (CA 0, 5, .inl (fun _ => 0))), ((ρ 30), .inr (1, [.int 0, .int 0, .int 0, .int 0, .int 0])), ((ρ 31), .inl (CA 0, 10, .inl (fun j => if j < 10 then (-1 : Int32) else (fun _ => 0) j))), ((ρ 32), .inr (3, [.int (3 : Int32), .int ((((v0.toUInt32 >>> (((8 : Int32) * (3 : Int32)).toUInt32 &&& Int32.toUInt32 31)).toInt32) &&& (255 : Int32)) - (((v0.toUInt32 >>> (((8 : Int32) * (3 : Int32)).toUInt32 &&& Int32.toUInt32 31)).toInt32) &&& (255 : Int32)) / (31 : Int32) * (31 : Int32)), .ref (ρ 33), .ref (ρ 34), .ref (ρ 35), .ref (ρ 40), .ref (ρ 41), .int 0, .int 0, .int 0, .int 0, .int 0, .int 0])), ((ρ 33), .inr (5, [.int 0, .int 0, .int 0, .int 0, .int 0])), ((ρ 34), .inr (4, [.int 0, .int 0, .int 0, .int 0])), ((ρ 35), .inr (0, [.ref (ρ 36), .ref (ρ 37), .ref (ρ 38)])), ((ρ 36), .inl (CA 0, 4, .inl (fun j => if j < 4 then (1000 : Int32) else (fun _ => 0) j))), ((ρ 37), .inl (CA 0, 4, .inl (fun j => if j < 4 then (1000 : Int32) else (fun _ => 0) j))), ((ρ 38), .inr (2, [.ref (ρ 39), .int (1 : Int32)])), ((ρ 39), .inl (CA 0, 5, .inl (fun _ => 0))), ((ρ 40), .inr (1, [.int 0, .int 0, .int 0, .int 0, .int 0])), ((ρ 41), .inl (CA 0, 10, .inl (fun j => if j < 10 then (-1 : Int32) else (fun _ => 0) j)))] ++ [((ρ 43), .inl (CA 0, 4, .inl (upd (upd (upd (upd (fun _ => 0) (0 : Int32).toNatClampNeg ((((v0.toUInt32 >>> (((8 : Int32) * (0 : Int32)).toUInt32 &&& Int32.toUInt32 31)).toInt32) &&& (255 : Int32)) - (((v0.toUInt32 >>> (((8 : Int32) * (0 : Int32)).toUInt32 &&& Int32.toUInt32 31)).toInt32) &&& (255 : Int32)) / (31 : Int32) * (31 : Int32))) (1 : Int32).toNatClampNeg ((((v0.toUInt32 >>> (((8 : Int32) * (1 : Int32)).toUInt32 &&& Int32.toUInt32 31)).toInt32) &&& (255 : Int32)) - (((v0.toUInt32 >>> (((8 : Int32) * (1 : Int32)).toUInt32 &&& Int32.toUInt32 31)).toInt32) &&& (255 : Int32)) / (31 : Int32) * (31 : Int32))) (2 : Int32).toNatClampNeg ((((v0.toUInt32 >>> (((8 : Int32) * (2 : Int32)).toUInt32 &&& Int32.toUInt32 31)).toInt32) &&& (255 : Int32)) - (((v0.toUInt32 >>> (((8 : Int32) * (2 : Int32)).toUInt32 &&& Int32.toUInt32 31)).toInt32) &&& (255 : Int32)) / (31 : Int32) * (31 : Int32))) (3 : Int32).toNatClampNeg ((((v0.toUInt32 >>> (((8 : Int32) * (3 : Int32)).toUInt32 &&& Int32.toUInt32 31)).toInt32) &&& (255 : Int32)) - (((v0.toUInt32 >>> (((8 : Int32) * (3 : Int32)).toUInt32 &&& Int32.toUInt32 31)).toInt32) &&& (255 : Int32)) / (31 : Int32) * (31 : Int32))))), ((ρ 44), .inl (CA 0, 4, .inl (fun _ => 0))), ((ρ 45), .inl (CA 0, 4, .inl (fun _ => 0))), ((ρ 46), .inl (CA 0, 4, .inl (fun _ => 0))), ((ρ 47), .inl (CA 0, 4, .inl (fun _ => 0))), ((ρ 48), .inl (CA 0, 4, .inl (fun _ => 0))), ((ρ 49), .inl (CA 0, 4, .inl (fun _ => 0))), ((ρ 50), .inl (CA 0, 4, .inl (fun _ => 0))), ((ρ 51), .inl (CA 0, 4, .inl (fun _ => 0))), ((ρ 52), .inl (CA 0, 4, .inl (fun _ => 0))), ((ρ 53), .inl (CA 0, 4, .inl (fun _ => 0))), ((ρ 54), .inl (CA 0, 4, .inl (fun _ => 0))), ((ρ 55), .inl (CA 0, 4, .inl (fun _ => 0))), ((ρ 56), .inl (CA 1, 4, .inl (fun _ => 0))), ((ρ 58), .inl (CA 0, 40, .inl (fun _ => 0))), ((ρ 59), .inl (CA 0, 4, .inl (fun _ => 0))), ((ρ 60), .inl (CA 0, 4, .inl (fun _ => 0))), ((ρ 61), .inl (CA 0, 4, .inl (fun _ => 0))), ((ρ 62), .inl (CA 0, 4, .inl (fun _ => 0))), ((ρ 63), .inl (CA 0, 4, .inl (fun _ => 0))), ((ρ 64), .inl (CA 0, 5, .inl (fun _ => 0))), ((ρ 42), .inr (7, [.int 0, .ref (ρ 43), .ref (ρ 44), .ref (ρ 45), .ref (ρ 46), .ref (ρ 47), .ref (ρ 48), .ref (ρ 49), .ref (ρ 50), .ref (ρ 51), .ref (ρ 52), .ref (ρ 53), .ref (ρ 54), .ref (ρ 55), .ref (ρ 56), .ref (ρ 57), .ref (ρ 58), .ref (ρ 59), .ref (ρ 60), .ref (ρ 61), .ref (ρ 62), .ref (ρ 63), .int 0, .long 0, .long 0, .int 0, .long 0, .int 0, .int 0, .ref (ρ 64)])), ((ρ 57), .inl (CA 0, 32, .inl (fg3 (fg2 (fg1 (fg0 (fun _ => 0)))))))]) ++ [(ρ 65, .inl (CA 2, 1, .inr (.inl (fun _ => 0))))])
variable {D : va_G} {CA : Nat → ClassId} {ρ : Nat → Nat} {v0 : Int32} {H : Heap}
theorem cw_0 : (cW CA ρ v0)[(0 : Nat)]? = some (ρ 0, .inr (6, [.ref (ρ 1), .long 0, .int 0, .int 0, .long (-1 : Int64)])) := rfl
theorem lc_0 : mmE CA ρ 0 (sgI v0 0) (sgJ 0) = .inr (6, [.ref (ρ 1), .long 0, .int 0, .int 0, .long (-1 : Int64)]) := rfl
theorem la_0 (hP : va_P D clA (cW CA ρ v0) H) : va_at D clA (ρ 0, mmE CA ρ 0 (sgI v0 0) (sgJ 0)) H := by
  rw [lc_0]
  exact hP 0 _ cw_0
theorem cw_1 : (cW CA ρ v0)[(1 : Nat)]? = some (ρ 1, .inl (CA 3, 4, .inr (.inr (.inr (.inr (va_up (va_up (va_up (va_up (fun _ => none) (0 : Int32).toNatClampNeg (some (ρ 2))) (1 : Int32).toNatClampNeg (some (ρ 12))) (2 : Int32).toNatClampNeg (some (ρ 22))) (3 : Int32).toNatClampNeg (some (ρ 32)))))))) := rfl
theorem lc_1 : vp_cell (CA 3) (4, .inr (.inr (.inr (.inr (va_up (va_up (va_up (va_up (fun _ => none) (0 : Int32).toNatClampNeg (some (ρ 2))) (1 : Int32).toNatClampNeg (some (ρ 12))) (2 : Int32).toNatClampNeg (some (ρ 22))) (3 : Int32).toNatClampNeg (some (ρ 32))))))) = vp_cell (CA 3) (4, .inr (.inr (.inr (.inr (fun j => some (ρ (10 * j + 2))))))) := rfl
theorem la_1 (hP : va_P D clA (cW CA ρ v0) H) : va_at D clA (ρ 1, mmE CA ρ 1 (sgI v0 1) (sgJ 1)) H := by
  have h : H[ρ 1]? = some (vp_cell (CA 3) (4, .inr (.inr (.inr (.inr (va_up (va_up (va_up (va_up (fun _ => none) (0 : Int32).toNatClampNeg (some (ρ 2))) (1 : Int32).toNatClampNeg (some (ρ 12))) (2 : Int32).toNatClampNeg (some (ρ 22))) (3 : Int32).toNatClampNeg (some (ρ 32)))))))) := hP 1 _ cw_1
  exact h.trans (congrArg some lc_1)
theorem cw_2 : (cW CA ρ v0)[(2 : Nat)]? = some (ρ 2, .inr (3, [.int (0 : Int32), .int ((((v0.toUInt32 >>> (((8 : Int32) * (0 : Int32)).toUInt32 &&& Int32.toUInt32 31)).toInt32) &&& (255 : Int32)) - (((v0.toUInt32 >>> (((8 : Int32) * (0 : Int32)).toUInt32 &&& Int32.toUInt32 31)).toInt32) &&& (255 : Int32)) / (31 : Int32) * (31 : Int32)), .ref (ρ 3), .ref (ρ 4), .ref (ρ 5), .ref (ρ 10), .ref (ρ 11), .int 0, .int 0, .int 0, .int 0, .int 0, .int 0])) := rfl
theorem lc_2 : mmE CA ρ 2 (sgI v0 2) (sgJ 2) = .inr (3, [.int (0 : Int32), .int ((((v0.toUInt32 >>> (((8 : Int32) * (0 : Int32)).toUInt32 &&& Int32.toUInt32 31)).toInt32) &&& (255 : Int32)) - (((v0.toUInt32 >>> (((8 : Int32) * (0 : Int32)).toUInt32 &&& Int32.toUInt32 31)).toInt32) &&& (255 : Int32)) / (31 : Int32) * (31 : Int32)), .ref (ρ 3), .ref (ρ 4), .ref (ρ 5), .ref (ρ 10), .ref (ρ 11), .int 0, .int 0, .int 0, .int 0, .int 0, .int 0]) := rfl
theorem la_2 (hP : va_P D clA (cW CA ρ v0) H) : va_at D clA (ρ 2, mmE CA ρ 2 (sgI v0 2) (sgJ 2)) H := by
  rw [lc_2]
  exact hP 2 _ cw_2
theorem cw_3 : (cW CA ρ v0)[(3 : Nat)]? = some (ρ 3, .inr (5, [.int 0, .int 0, .int 0, .int 0, .int 0])) := rfl
theorem lc_3 : mmE CA ρ 3 (sgI v0 3) (sgJ 3) = .inr (5, [.int 0, .int 0, .int 0, .int 0, .int 0]) := rfl
theorem la_3 (hP : va_P D clA (cW CA ρ v0) H) : va_at D clA (ρ 3, mmE CA ρ 3 (sgI v0 3) (sgJ 3)) H := by
  rw [lc_3]
  exact hP 3 _ cw_3
theorem cw_4 : (cW CA ρ v0)[(4 : Nat)]? = some (ρ 4, .inr (4, [.int 0, .int 0, .int 0, .int 0])) := rfl
theorem lc_4 : mmE CA ρ 4 (sgI v0 4) (sgJ 4) = .inr (4, [.int 0, .int 0, .int 0, .int 0]) := rfl
theorem la_4 (hP : va_P D clA (cW CA ρ v0) H) : va_at D clA (ρ 4, mmE CA ρ 4 (sgI v0 4) (sgJ 4)) H := by
  rw [lc_4]
  exact hP 4 _ cw_4
theorem cw_5 : (cW CA ρ v0)[(5 : Nat)]? = some (ρ 5, .inr (0, [.ref (ρ 6), .ref (ρ 7), .ref (ρ 8)])) := rfl
theorem lc_5 : mmE CA ρ 5 (sgI v0 5) (sgJ 5) = .inr (0, [.ref (ρ 6), .ref (ρ 7), .ref (ρ 8)]) := rfl
theorem la_5 (hP : va_P D clA (cW CA ρ v0) H) : va_at D clA (ρ 5, mmE CA ρ 5 (sgI v0 5) (sgJ 5)) H := by
  rw [lc_5]
  exact hP 5 _ cw_5
theorem cw_6 : (cW CA ρ v0)[(6 : Nat)]? = some (ρ 6, .inl (CA 0, 4, .inl (fun j => if j < 4 then (1000 : Int32) else (fun _ => 0) j))) := rfl
theorem lc_6 : mmE CA ρ 6 (sgI v0 6) (sgJ 6) = .inl (CA 0, 4, .inl (fun j => if j < 4 then (1000 : Int32) else (fun _ => 0) j)) := rfl
theorem la_6 (hP : va_P D clA (cW CA ρ v0) H) : va_at D clA (ρ 6, mmE CA ρ 6 (sgI v0 6) (sgJ 6)) H := by
  rw [lc_6]
  exact hP 6 _ cw_6
theorem cw_7 : (cW CA ρ v0)[(7 : Nat)]? = some (ρ 7, .inl (CA 0, 4, .inl (fun j => if j < 4 then (1000 : Int32) else (fun _ => 0) j))) := rfl
theorem lc_7 : mmE CA ρ 7 (sgI v0 7) (sgJ 7) = .inl (CA 0, 4, .inl (fun j => if j < 4 then (1000 : Int32) else (fun _ => 0) j)) := rfl
theorem la_7 (hP : va_P D clA (cW CA ρ v0) H) : va_at D clA (ρ 7, mmE CA ρ 7 (sgI v0 7) (sgJ 7)) H := by
  rw [lc_7]
  exact hP 7 _ cw_7
theorem cw_8 : (cW CA ρ v0)[(8 : Nat)]? = some (ρ 8, .inr (2, [.ref (ρ 9), .int (1 : Int32)])) := rfl
theorem lc_8 : mmE CA ρ 8 (sgI v0 8) (sgJ 8) = .inr (2, [.ref (ρ 9), .int (1 : Int32)]) := rfl
theorem la_8 (hP : va_P D clA (cW CA ρ v0) H) : va_at D clA (ρ 8, mmE CA ρ 8 (sgI v0 8) (sgJ 8)) H := by
  rw [lc_8]
  exact hP 8 _ cw_8
theorem cw_9 : (cW CA ρ v0)[(9 : Nat)]? = some (ρ 9, .inl (CA 0, 5, .inl (fun _ => 0))) := rfl
theorem lc_9 : mmE CA ρ 9 (sgI v0 9) (sgJ 9) = .inl (CA 0, 5, .inl (fun _ => 0)) := rfl
theorem la_9 (hP : va_P D clA (cW CA ρ v0) H) : va_at D clA (ρ 9, mmE CA ρ 9 (sgI v0 9) (sgJ 9)) H := by
  rw [lc_9]
  exact hP 9 _ cw_9
theorem cw_10 : (cW CA ρ v0)[(10 : Nat)]? = some (ρ 10, .inr (1, [.int 0, .int 0, .int 0, .int 0, .int 0])) := rfl
theorem lc_10 : mmE CA ρ 10 (sgI v0 10) (sgJ 10) = .inr (1, [.int 0, .int 0, .int 0, .int 0, .int 0]) := rfl
theorem la_10 (hP : va_P D clA (cW CA ρ v0) H) : va_at D clA (ρ 10, mmE CA ρ 10 (sgI v0 10) (sgJ 10)) H := by
  rw [lc_10]
  exact hP 10 _ cw_10
theorem cw_11 : (cW CA ρ v0)[(11 : Nat)]? = some (ρ 11, .inl (CA 0, 10, .inl (fun j => if j < 10 then (-1 : Int32) else (fun _ => 0) j))) := rfl
theorem lc_11 : mmE CA ρ 11 (sgI v0 11) (sgJ 11) = .inl (CA 0, 10, .inl (fun j => if j < 10 then (-1 : Int32) else (fun _ => 0) j)) := rfl
theorem la_11 (hP : va_P D clA (cW CA ρ v0) H) : va_at D clA (ρ 11, mmE CA ρ 11 (sgI v0 11) (sgJ 11)) H := by
  rw [lc_11]
  exact hP 11 _ cw_11
theorem cw_12 : (cW CA ρ v0)[(12 : Nat)]? = some (ρ 12, .inr (3, [.int (1 : Int32), .int ((((v0.toUInt32 >>> (((8 : Int32) * (1 : Int32)).toUInt32 &&& Int32.toUInt32 31)).toInt32) &&& (255 : Int32)) - (((v0.toUInt32 >>> (((8 : Int32) * (1 : Int32)).toUInt32 &&& Int32.toUInt32 31)).toInt32) &&& (255 : Int32)) / (31 : Int32) * (31 : Int32)), .ref (ρ 13), .ref (ρ 14), .ref (ρ 15), .ref (ρ 20), .ref (ρ 21), .int 0, .int 0, .int 0, .int 0, .int 0, .int 0])) := rfl
theorem lc_12 : mmE CA ρ 12 (sgI v0 12) (sgJ 12) = .inr (3, [.int (1 : Int32), .int ((((v0.toUInt32 >>> (((8 : Int32) * (1 : Int32)).toUInt32 &&& Int32.toUInt32 31)).toInt32) &&& (255 : Int32)) - (((v0.toUInt32 >>> (((8 : Int32) * (1 : Int32)).toUInt32 &&& Int32.toUInt32 31)).toInt32) &&& (255 : Int32)) / (31 : Int32) * (31 : Int32)), .ref (ρ 13), .ref (ρ 14), .ref (ρ 15), .ref (ρ 20), .ref (ρ 21), .int 0, .int 0, .int 0, .int 0, .int 0, .int 0]) := rfl
theorem la_12 (hP : va_P D clA (cW CA ρ v0) H) : va_at D clA (ρ 12, mmE CA ρ 12 (sgI v0 12) (sgJ 12)) H := by
  rw [lc_12]
  exact hP 12 _ cw_12
theorem cw_13 : (cW CA ρ v0)[(13 : Nat)]? = some (ρ 13, .inr (5, [.int 0, .int 0, .int 0, .int 0, .int 0])) := rfl
theorem lc_13 : mmE CA ρ 13 (sgI v0 13) (sgJ 13) = .inr (5, [.int 0, .int 0, .int 0, .int 0, .int 0]) := rfl
theorem la_13 (hP : va_P D clA (cW CA ρ v0) H) : va_at D clA (ρ 13, mmE CA ρ 13 (sgI v0 13) (sgJ 13)) H := by
  rw [lc_13]
  exact hP 13 _ cw_13
theorem cw_14 : (cW CA ρ v0)[(14 : Nat)]? = some (ρ 14, .inr (4, [.int 0, .int 0, .int 0, .int 0])) := rfl
theorem lc_14 : mmE CA ρ 14 (sgI v0 14) (sgJ 14) = .inr (4, [.int 0, .int 0, .int 0, .int 0]) := rfl
theorem la_14 (hP : va_P D clA (cW CA ρ v0) H) : va_at D clA (ρ 14, mmE CA ρ 14 (sgI v0 14) (sgJ 14)) H := by
  rw [lc_14]
  exact hP 14 _ cw_14
theorem cw_15 : (cW CA ρ v0)[(15 : Nat)]? = some (ρ 15, .inr (0, [.ref (ρ 16), .ref (ρ 17), .ref (ρ 18)])) := rfl
theorem lc_15 : mmE CA ρ 15 (sgI v0 15) (sgJ 15) = .inr (0, [.ref (ρ 16), .ref (ρ 17), .ref (ρ 18)]) := rfl
theorem la_15 (hP : va_P D clA (cW CA ρ v0) H) : va_at D clA (ρ 15, mmE CA ρ 15 (sgI v0 15) (sgJ 15)) H := by
  rw [lc_15]
  exact hP 15 _ cw_15
theorem cw_16 : (cW CA ρ v0)[(16 : Nat)]? = some (ρ 16, .inl (CA 0, 4, .inl (fun j => if j < 4 then (1000 : Int32) else (fun _ => 0) j))) := rfl
theorem lc_16 : mmE CA ρ 16 (sgI v0 16) (sgJ 16) = .inl (CA 0, 4, .inl (fun j => if j < 4 then (1000 : Int32) else (fun _ => 0) j)) := rfl
theorem la_16 (hP : va_P D clA (cW CA ρ v0) H) : va_at D clA (ρ 16, mmE CA ρ 16 (sgI v0 16) (sgJ 16)) H := by
  rw [lc_16]
  exact hP 16 _ cw_16
theorem cw_17 : (cW CA ρ v0)[(17 : Nat)]? = some (ρ 17, .inl (CA 0, 4, .inl (fun j => if j < 4 then (1000 : Int32) else (fun _ => 0) j))) := rfl
theorem lc_17 : mmE CA ρ 17 (sgI v0 17) (sgJ 17) = .inl (CA 0, 4, .inl (fun j => if j < 4 then (1000 : Int32) else (fun _ => 0) j)) := rfl
theorem la_17 (hP : va_P D clA (cW CA ρ v0) H) : va_at D clA (ρ 17, mmE CA ρ 17 (sgI v0 17) (sgJ 17)) H := by
  rw [lc_17]
  exact hP 17 _ cw_17
theorem cw_18 : (cW CA ρ v0)[(18 : Nat)]? = some (ρ 18, .inr (2, [.ref (ρ 19), .int (1 : Int32)])) := rfl
theorem lc_18 : mmE CA ρ 18 (sgI v0 18) (sgJ 18) = .inr (2, [.ref (ρ 19), .int (1 : Int32)]) := rfl
theorem la_18 (hP : va_P D clA (cW CA ρ v0) H) : va_at D clA (ρ 18, mmE CA ρ 18 (sgI v0 18) (sgJ 18)) H := by
  rw [lc_18]
  exact hP 18 _ cw_18
theorem cw_19 : (cW CA ρ v0)[(19 : Nat)]? = some (ρ 19, .inl (CA 0, 5, .inl (fun _ => 0))) := rfl
theorem lc_19 : mmE CA ρ 19 (sgI v0 19) (sgJ 19) = .inl (CA 0, 5, .inl (fun _ => 0)) := rfl
theorem la_19 (hP : va_P D clA (cW CA ρ v0) H) : va_at D clA (ρ 19, mmE CA ρ 19 (sgI v0 19) (sgJ 19)) H := by
  rw [lc_19]
  exact hP 19 _ cw_19
theorem cw_20 : (cW CA ρ v0)[(20 : Nat)]? = some (ρ 20, .inr (1, [.int 0, .int 0, .int 0, .int 0, .int 0])) := rfl
theorem lc_20 : mmE CA ρ 20 (sgI v0 20) (sgJ 20) = .inr (1, [.int 0, .int 0, .int 0, .int 0, .int 0]) := rfl
theorem la_20 (hP : va_P D clA (cW CA ρ v0) H) : va_at D clA (ρ 20, mmE CA ρ 20 (sgI v0 20) (sgJ 20)) H := by
  rw [lc_20]
  exact hP 20 _ cw_20
theorem cw_21 : (cW CA ρ v0)[(21 : Nat)]? = some (ρ 21, .inl (CA 0, 10, .inl (fun j => if j < 10 then (-1 : Int32) else (fun _ => 0) j))) := rfl
theorem lc_21 : mmE CA ρ 21 (sgI v0 21) (sgJ 21) = .inl (CA 0, 10, .inl (fun j => if j < 10 then (-1 : Int32) else (fun _ => 0) j)) := rfl
theorem la_21 (hP : va_P D clA (cW CA ρ v0) H) : va_at D clA (ρ 21, mmE CA ρ 21 (sgI v0 21) (sgJ 21)) H := by
  rw [lc_21]
  exact hP 21 _ cw_21
theorem cw_22 : (cW CA ρ v0)[(22 : Nat)]? = some (ρ 22, .inr (3, [.int (2 : Int32), .int ((((v0.toUInt32 >>> (((8 : Int32) * (2 : Int32)).toUInt32 &&& Int32.toUInt32 31)).toInt32) &&& (255 : Int32)) - (((v0.toUInt32 >>> (((8 : Int32) * (2 : Int32)).toUInt32 &&& Int32.toUInt32 31)).toInt32) &&& (255 : Int32)) / (31 : Int32) * (31 : Int32)), .ref (ρ 23), .ref (ρ 24), .ref (ρ 25), .ref (ρ 30), .ref (ρ 31), .int 0, .int 0, .int 0, .int 0, .int 0, .int 0])) := rfl
theorem lc_22 : mmE CA ρ 22 (sgI v0 22) (sgJ 22) = .inr (3, [.int (2 : Int32), .int ((((v0.toUInt32 >>> (((8 : Int32) * (2 : Int32)).toUInt32 &&& Int32.toUInt32 31)).toInt32) &&& (255 : Int32)) - (((v0.toUInt32 >>> (((8 : Int32) * (2 : Int32)).toUInt32 &&& Int32.toUInt32 31)).toInt32) &&& (255 : Int32)) / (31 : Int32) * (31 : Int32)), .ref (ρ 23), .ref (ρ 24), .ref (ρ 25), .ref (ρ 30), .ref (ρ 31), .int 0, .int 0, .int 0, .int 0, .int 0, .int 0]) := rfl
theorem la_22 (hP : va_P D clA (cW CA ρ v0) H) : va_at D clA (ρ 22, mmE CA ρ 22 (sgI v0 22) (sgJ 22)) H := by
  rw [lc_22]
  exact hP 22 _ cw_22
theorem cw_23 : (cW CA ρ v0)[(23 : Nat)]? = some (ρ 23, .inr (5, [.int 0, .int 0, .int 0, .int 0, .int 0])) := rfl
theorem lc_23 : mmE CA ρ 23 (sgI v0 23) (sgJ 23) = .inr (5, [.int 0, .int 0, .int 0, .int 0, .int 0]) := rfl
theorem la_23 (hP : va_P D clA (cW CA ρ v0) H) : va_at D clA (ρ 23, mmE CA ρ 23 (sgI v0 23) (sgJ 23)) H := by
  rw [lc_23]
  exact hP 23 _ cw_23
theorem cw_24 : (cW CA ρ v0)[(24 : Nat)]? = some (ρ 24, .inr (4, [.int 0, .int 0, .int 0, .int 0])) := rfl
theorem lc_24 : mmE CA ρ 24 (sgI v0 24) (sgJ 24) = .inr (4, [.int 0, .int 0, .int 0, .int 0]) := rfl
theorem la_24 (hP : va_P D clA (cW CA ρ v0) H) : va_at D clA (ρ 24, mmE CA ρ 24 (sgI v0 24) (sgJ 24)) H := by
  rw [lc_24]
  exact hP 24 _ cw_24
theorem cw_25 : (cW CA ρ v0)[(25 : Nat)]? = some (ρ 25, .inr (0, [.ref (ρ 26), .ref (ρ 27), .ref (ρ 28)])) := rfl
theorem lc_25 : mmE CA ρ 25 (sgI v0 25) (sgJ 25) = .inr (0, [.ref (ρ 26), .ref (ρ 27), .ref (ρ 28)]) := rfl
theorem la_25 (hP : va_P D clA (cW CA ρ v0) H) : va_at D clA (ρ 25, mmE CA ρ 25 (sgI v0 25) (sgJ 25)) H := by
  rw [lc_25]
  exact hP 25 _ cw_25
theorem cw_26 : (cW CA ρ v0)[(26 : Nat)]? = some (ρ 26, .inl (CA 0, 4, .inl (fun j => if j < 4 then (1000 : Int32) else (fun _ => 0) j))) := rfl
theorem lc_26 : mmE CA ρ 26 (sgI v0 26) (sgJ 26) = .inl (CA 0, 4, .inl (fun j => if j < 4 then (1000 : Int32) else (fun _ => 0) j)) := rfl
theorem la_26 (hP : va_P D clA (cW CA ρ v0) H) : va_at D clA (ρ 26, mmE CA ρ 26 (sgI v0 26) (sgJ 26)) H := by
  rw [lc_26]
  exact hP 26 _ cw_26
theorem cw_27 : (cW CA ρ v0)[(27 : Nat)]? = some (ρ 27, .inl (CA 0, 4, .inl (fun j => if j < 4 then (1000 : Int32) else (fun _ => 0) j))) := rfl
theorem lc_27 : mmE CA ρ 27 (sgI v0 27) (sgJ 27) = .inl (CA 0, 4, .inl (fun j => if j < 4 then (1000 : Int32) else (fun _ => 0) j)) := rfl
theorem la_27 (hP : va_P D clA (cW CA ρ v0) H) : va_at D clA (ρ 27, mmE CA ρ 27 (sgI v0 27) (sgJ 27)) H := by
  rw [lc_27]
  exact hP 27 _ cw_27
theorem cw_28 : (cW CA ρ v0)[(28 : Nat)]? = some (ρ 28, .inr (2, [.ref (ρ 29), .int (1 : Int32)])) := rfl
theorem lc_28 : mmE CA ρ 28 (sgI v0 28) (sgJ 28) = .inr (2, [.ref (ρ 29), .int (1 : Int32)]) := rfl
theorem la_28 (hP : va_P D clA (cW CA ρ v0) H) : va_at D clA (ρ 28, mmE CA ρ 28 (sgI v0 28) (sgJ 28)) H := by
  rw [lc_28]
  exact hP 28 _ cw_28
theorem cw_29 : (cW CA ρ v0)[(29 : Nat)]? = some (ρ 29, .inl (CA 0, 5, .inl (fun _ => 0))) := rfl
theorem lc_29 : mmE CA ρ 29 (sgI v0 29) (sgJ 29) = .inl (CA 0, 5, .inl (fun _ => 0)) := rfl
theorem la_29 (hP : va_P D clA (cW CA ρ v0) H) : va_at D clA (ρ 29, mmE CA ρ 29 (sgI v0 29) (sgJ 29)) H := by
  rw [lc_29]
  exact hP 29 _ cw_29
theorem cw_30 : (cW CA ρ v0)[(30 : Nat)]? = some (ρ 30, .inr (1, [.int 0, .int 0, .int 0, .int 0, .int 0])) := rfl
theorem lc_30 : mmE CA ρ 30 (sgI v0 30) (sgJ 30) = .inr (1, [.int 0, .int 0, .int 0, .int 0, .int 0]) := rfl
theorem la_30 (hP : va_P D clA (cW CA ρ v0) H) : va_at D clA (ρ 30, mmE CA ρ 30 (sgI v0 30) (sgJ 30)) H := by
  rw [lc_30]
  exact hP 30 _ cw_30
theorem cw_31 : (cW CA ρ v0)[(31 : Nat)]? = some (ρ 31, .inl (CA 0, 10, .inl (fun j => if j < 10 then (-1 : Int32) else (fun _ => 0) j))) := rfl
theorem lc_31 : mmE CA ρ 31 (sgI v0 31) (sgJ 31) = .inl (CA 0, 10, .inl (fun j => if j < 10 then (-1 : Int32) else (fun _ => 0) j)) := rfl
theorem la_31 (hP : va_P D clA (cW CA ρ v0) H) : va_at D clA (ρ 31, mmE CA ρ 31 (sgI v0 31) (sgJ 31)) H := by
  rw [lc_31]
  exact hP 31 _ cw_31
theorem cw_32 : (cW CA ρ v0)[(32 : Nat)]? = some (ρ 32, .inr (3, [.int (3 : Int32), .int ((((v0.toUInt32 >>> (((8 : Int32) * (3 : Int32)).toUInt32 &&& Int32.toUInt32 31)).toInt32) &&& (255 : Int32)) - (((v0.toUInt32 >>> (((8 : Int32) * (3 : Int32)).toUInt32 &&& Int32.toUInt32 31)).toInt32) &&& (255 : Int32)) / (31 : Int32) * (31 : Int32)), .ref (ρ 33), .ref (ρ 34), .ref (ρ 35), .ref (ρ 40), .ref (ρ 41), .int 0, .int 0, .int 0, .int 0, .int 0, .int 0])) := rfl
theorem lc_32 : mmE CA ρ 32 (sgI v0 32) (sgJ 32) = .inr (3, [.int (3 : Int32), .int ((((v0.toUInt32 >>> (((8 : Int32) * (3 : Int32)).toUInt32 &&& Int32.toUInt32 31)).toInt32) &&& (255 : Int32)) - (((v0.toUInt32 >>> (((8 : Int32) * (3 : Int32)).toUInt32 &&& Int32.toUInt32 31)).toInt32) &&& (255 : Int32)) / (31 : Int32) * (31 : Int32)), .ref (ρ 33), .ref (ρ 34), .ref (ρ 35), .ref (ρ 40), .ref (ρ 41), .int 0, .int 0, .int 0, .int 0, .int 0, .int 0]) := rfl
theorem la_32 (hP : va_P D clA (cW CA ρ v0) H) : va_at D clA (ρ 32, mmE CA ρ 32 (sgI v0 32) (sgJ 32)) H := by
  rw [lc_32]
  exact hP 32 _ cw_32
theorem cw_33 : (cW CA ρ v0)[(33 : Nat)]? = some (ρ 33, .inr (5, [.int 0, .int 0, .int 0, .int 0, .int 0])) := rfl
theorem lc_33 : mmE CA ρ 33 (sgI v0 33) (sgJ 33) = .inr (5, [.int 0, .int 0, .int 0, .int 0, .int 0]) := rfl
theorem la_33 (hP : va_P D clA (cW CA ρ v0) H) : va_at D clA (ρ 33, mmE CA ρ 33 (sgI v0 33) (sgJ 33)) H := by
  rw [lc_33]
  exact hP 33 _ cw_33
theorem cw_34 : (cW CA ρ v0)[(34 : Nat)]? = some (ρ 34, .inr (4, [.int 0, .int 0, .int 0, .int 0])) := rfl
theorem lc_34 : mmE CA ρ 34 (sgI v0 34) (sgJ 34) = .inr (4, [.int 0, .int 0, .int 0, .int 0]) := rfl
theorem la_34 (hP : va_P D clA (cW CA ρ v0) H) : va_at D clA (ρ 34, mmE CA ρ 34 (sgI v0 34) (sgJ 34)) H := by
  rw [lc_34]
  exact hP 34 _ cw_34
theorem cw_35 : (cW CA ρ v0)[(35 : Nat)]? = some (ρ 35, .inr (0, [.ref (ρ 36), .ref (ρ 37), .ref (ρ 38)])) := rfl
theorem lc_35 : mmE CA ρ 35 (sgI v0 35) (sgJ 35) = .inr (0, [.ref (ρ 36), .ref (ρ 37), .ref (ρ 38)]) := rfl
theorem la_35 (hP : va_P D clA (cW CA ρ v0) H) : va_at D clA (ρ 35, mmE CA ρ 35 (sgI v0 35) (sgJ 35)) H := by
  rw [lc_35]
  exact hP 35 _ cw_35
theorem cw_36 : (cW CA ρ v0)[(36 : Nat)]? = some (ρ 36, .inl (CA 0, 4, .inl (fun j => if j < 4 then (1000 : Int32) else (fun _ => 0) j))) := rfl
theorem lc_36 : mmE CA ρ 36 (sgI v0 36) (sgJ 36) = .inl (CA 0, 4, .inl (fun j => if j < 4 then (1000 : Int32) else (fun _ => 0) j)) := rfl
theorem la_36 (hP : va_P D clA (cW CA ρ v0) H) : va_at D clA (ρ 36, mmE CA ρ 36 (sgI v0 36) (sgJ 36)) H := by
  rw [lc_36]
  exact hP 36 _ cw_36
theorem cw_37 : (cW CA ρ v0)[(37 : Nat)]? = some (ρ 37, .inl (CA 0, 4, .inl (fun j => if j < 4 then (1000 : Int32) else (fun _ => 0) j))) := rfl
theorem lc_37 : mmE CA ρ 37 (sgI v0 37) (sgJ 37) = .inl (CA 0, 4, .inl (fun j => if j < 4 then (1000 : Int32) else (fun _ => 0) j)) := rfl
theorem la_37 (hP : va_P D clA (cW CA ρ v0) H) : va_at D clA (ρ 37, mmE CA ρ 37 (sgI v0 37) (sgJ 37)) H := by
  rw [lc_37]
  exact hP 37 _ cw_37
theorem cw_38 : (cW CA ρ v0)[(38 : Nat)]? = some (ρ 38, .inr (2, [.ref (ρ 39), .int (1 : Int32)])) := rfl
theorem lc_38 : mmE CA ρ 38 (sgI v0 38) (sgJ 38) = .inr (2, [.ref (ρ 39), .int (1 : Int32)]) := rfl
theorem la_38 (hP : va_P D clA (cW CA ρ v0) H) : va_at D clA (ρ 38, mmE CA ρ 38 (sgI v0 38) (sgJ 38)) H := by
  rw [lc_38]
  exact hP 38 _ cw_38
theorem cw_39 : (cW CA ρ v0)[(39 : Nat)]? = some (ρ 39, .inl (CA 0, 5, .inl (fun _ => 0))) := rfl
theorem lc_39 : mmE CA ρ 39 (sgI v0 39) (sgJ 39) = .inl (CA 0, 5, .inl (fun _ => 0)) := rfl
theorem la_39 (hP : va_P D clA (cW CA ρ v0) H) : va_at D clA (ρ 39, mmE CA ρ 39 (sgI v0 39) (sgJ 39)) H := by
  rw [lc_39]
  exact hP 39 _ cw_39
theorem cw_40 : (cW CA ρ v0)[(40 : Nat)]? = some (ρ 40, .inr (1, [.int 0, .int 0, .int 0, .int 0, .int 0])) := rfl
theorem lc_40 : mmE CA ρ 40 (sgI v0 40) (sgJ 40) = .inr (1, [.int 0, .int 0, .int 0, .int 0, .int 0]) := rfl
theorem la_40 (hP : va_P D clA (cW CA ρ v0) H) : va_at D clA (ρ 40, mmE CA ρ 40 (sgI v0 40) (sgJ 40)) H := by
  rw [lc_40]
  exact hP 40 _ cw_40
theorem cw_41 : (cW CA ρ v0)[(41 : Nat)]? = some (ρ 41, .inl (CA 0, 10, .inl (fun j => if j < 10 then (-1 : Int32) else (fun _ => 0) j))) := rfl
theorem lc_41 : mmE CA ρ 41 (sgI v0 41) (sgJ 41) = .inl (CA 0, 10, .inl (fun j => if j < 10 then (-1 : Int32) else (fun _ => 0) j)) := rfl
theorem la_41 (hP : va_P D clA (cW CA ρ v0) H) : va_at D clA (ρ 41, mmE CA ρ 41 (sgI v0 41) (sgJ 41)) H := by
  rw [lc_41]
  exact hP 41 _ cw_41
theorem cw_42 : (cW CA ρ v0)[(63 : Nat)]? = some (ρ 42, .inr (7, [.int 0, .ref (ρ 43), .ref (ρ 44), .ref (ρ 45), .ref (ρ 46), .ref (ρ 47), .ref (ρ 48), .ref (ρ 49), .ref (ρ 50), .ref (ρ 51), .ref (ρ 52), .ref (ρ 53), .ref (ρ 54), .ref (ρ 55), .ref (ρ 56), .ref (ρ 57), .ref (ρ 58), .ref (ρ 59), .ref (ρ 60), .ref (ρ 61), .ref (ρ 62), .ref (ρ 63), .int 0, .long 0, .long 0, .int 0, .long 0, .int 0, .int 0, .ref (ρ 64)])) := rfl
theorem lc_42 : mmE CA ρ 42 (sgI v0 42) (sgJ 42) = .inr (7, [.int 0, .ref (ρ 43), .ref (ρ 44), .ref (ρ 45), .ref (ρ 46), .ref (ρ 47), .ref (ρ 48), .ref (ρ 49), .ref (ρ 50), .ref (ρ 51), .ref (ρ 52), .ref (ρ 53), .ref (ρ 54), .ref (ρ 55), .ref (ρ 56), .ref (ρ 57), .ref (ρ 58), .ref (ρ 59), .ref (ρ 60), .ref (ρ 61), .ref (ρ 62), .ref (ρ 63), .int 0, .long 0, .long 0, .int 0, .long 0, .int 0, .int 0, .ref (ρ 64)]) := by
  have h : mmE CA ρ 42 (sgI v0 42) (sgJ 42) = .inr (7, List.mapIdx (slV ρ (sgI v0 42) (sgJ 42)) [0, 46, 47, 48, 49, 50, 51, 52, 53, 54, 55, 56, 57, 58, 59, 60, 61, 62, 63, 64, 65, 66, 0, 1, 1, 2, 1, 0, 0, 67]) := rfl
  rw [h]
  simp only [List.mapIdx_cons, List.mapIdx_nil]
  rfl
theorem la_42 (hP : va_P D clA (cW CA ρ v0) H) : va_at D clA (ρ 42, mmE CA ρ 42 (sgI v0 42) (sgJ 42)) H := by
  rw [lc_42]
  exact hP 63 _ cw_42
theorem cw_43 : (cW CA ρ v0)[(42 : Nat)]? = some (ρ 43, .inl (CA 0, 4, .inl (upd (upd (upd (upd (fun _ => 0) (0 : Int32).toNatClampNeg ((((v0.toUInt32 >>> (((8 : Int32) * (0 : Int32)).toUInt32 &&& Int32.toUInt32 31)).toInt32) &&& (255 : Int32)) - (((v0.toUInt32 >>> (((8 : Int32) * (0 : Int32)).toUInt32 &&& Int32.toUInt32 31)).toInt32) &&& (255 : Int32)) / (31 : Int32) * (31 : Int32))) (1 : Int32).toNatClampNeg ((((v0.toUInt32 >>> (((8 : Int32) * (1 : Int32)).toUInt32 &&& Int32.toUInt32 31)).toInt32) &&& (255 : Int32)) - (((v0.toUInt32 >>> (((8 : Int32) * (1 : Int32)).toUInt32 &&& Int32.toUInt32 31)).toInt32) &&& (255 : Int32)) / (31 : Int32) * (31 : Int32))) (2 : Int32).toNatClampNeg ((((v0.toUInt32 >>> (((8 : Int32) * (2 : Int32)).toUInt32 &&& Int32.toUInt32 31)).toInt32) &&& (255 : Int32)) - (((v0.toUInt32 >>> (((8 : Int32) * (2 : Int32)).toUInt32 &&& Int32.toUInt32 31)).toInt32) &&& (255 : Int32)) / (31 : Int32) * (31 : Int32))) (3 : Int32).toNatClampNeg ((((v0.toUInt32 >>> (((8 : Int32) * (3 : Int32)).toUInt32 &&& Int32.toUInt32 31)).toInt32) &&& (255 : Int32)) - (((v0.toUInt32 >>> (((8 : Int32) * (3 : Int32)).toUInt32 &&& Int32.toUInt32 31)).toInt32) &&& (255 : Int32)) / (31 : Int32) * (31 : Int32))))) := rfl
theorem lc_43 : mmE CA ρ 43 (sgI v0 43) (sgJ 43) = .inl (CA 0, 4, .inl (upd (upd (upd (upd (fun _ => 0) (0 : Int32).toNatClampNeg ((((v0.toUInt32 >>> (((8 : Int32) * (0 : Int32)).toUInt32 &&& Int32.toUInt32 31)).toInt32) &&& (255 : Int32)) - (((v0.toUInt32 >>> (((8 : Int32) * (0 : Int32)).toUInt32 &&& Int32.toUInt32 31)).toInt32) &&& (255 : Int32)) / (31 : Int32) * (31 : Int32))) (1 : Int32).toNatClampNeg ((((v0.toUInt32 >>> (((8 : Int32) * (1 : Int32)).toUInt32 &&& Int32.toUInt32 31)).toInt32) &&& (255 : Int32)) - (((v0.toUInt32 >>> (((8 : Int32) * (1 : Int32)).toUInt32 &&& Int32.toUInt32 31)).toInt32) &&& (255 : Int32)) / (31 : Int32) * (31 : Int32))) (2 : Int32).toNatClampNeg ((((v0.toUInt32 >>> (((8 : Int32) * (2 : Int32)).toUInt32 &&& Int32.toUInt32 31)).toInt32) &&& (255 : Int32)) - (((v0.toUInt32 >>> (((8 : Int32) * (2 : Int32)).toUInt32 &&& Int32.toUInt32 31)).toInt32) &&& (255 : Int32)) / (31 : Int32) * (31 : Int32))) (3 : Int32).toNatClampNeg ((((v0.toUInt32 >>> (((8 : Int32) * (3 : Int32)).toUInt32 &&& Int32.toUInt32 31)).toInt32) &&& (255 : Int32)) - (((v0.toUInt32 >>> (((8 : Int32) * (3 : Int32)).toUInt32 &&& Int32.toUInt32 31)).toInt32) &&& (255 : Int32)) / (31 : Int32) * (31 : Int32)))) := rfl
theorem la_43 (hP : va_P D clA (cW CA ρ v0) H) : va_at D clA (ρ 43, mmE CA ρ 43 (sgI v0 43) (sgJ 43)) H := by
  rw [lc_43]
  exact hP 42 _ cw_43
theorem cw_44 : (cW CA ρ v0)[(43 : Nat)]? = some (ρ 44, .inl (CA 0, 4, .inl (fun _ => 0))) := rfl
theorem lc_44 : mmE CA ρ 44 (sgI v0 44) (sgJ 44) = .inl (CA 0, 4, .inl (fun _ => 0)) := rfl
theorem la_44 (hP : va_P D clA (cW CA ρ v0) H) : va_at D clA (ρ 44, mmE CA ρ 44 (sgI v0 44) (sgJ 44)) H := by
  rw [lc_44]
  exact hP 43 _ cw_44
theorem cw_45 : (cW CA ρ v0)[(44 : Nat)]? = some (ρ 45, .inl (CA 0, 4, .inl (fun _ => 0))) := rfl
theorem lc_45 : mmE CA ρ 45 (sgI v0 45) (sgJ 45) = .inl (CA 0, 4, .inl (fun _ => 0)) := rfl
theorem la_45 (hP : va_P D clA (cW CA ρ v0) H) : va_at D clA (ρ 45, mmE CA ρ 45 (sgI v0 45) (sgJ 45)) H := by
  rw [lc_45]
  exact hP 44 _ cw_45
theorem cw_46 : (cW CA ρ v0)[(45 : Nat)]? = some (ρ 46, .inl (CA 0, 4, .inl (fun _ => 0))) := rfl
theorem lc_46 : mmE CA ρ 46 (sgI v0 46) (sgJ 46) = .inl (CA 0, 4, .inl (fun _ => 0)) := rfl
theorem la_46 (hP : va_P D clA (cW CA ρ v0) H) : va_at D clA (ρ 46, mmE CA ρ 46 (sgI v0 46) (sgJ 46)) H := by
  rw [lc_46]
  exact hP 45 _ cw_46
theorem cw_47 : (cW CA ρ v0)[(46 : Nat)]? = some (ρ 47, .inl (CA 0, 4, .inl (fun _ => 0))) := rfl
theorem lc_47 : mmE CA ρ 47 (sgI v0 47) (sgJ 47) = .inl (CA 0, 4, .inl (fun _ => 0)) := rfl
theorem la_47 (hP : va_P D clA (cW CA ρ v0) H) : va_at D clA (ρ 47, mmE CA ρ 47 (sgI v0 47) (sgJ 47)) H := by
  rw [lc_47]
  exact hP 46 _ cw_47
theorem cw_48 : (cW CA ρ v0)[(47 : Nat)]? = some (ρ 48, .inl (CA 0, 4, .inl (fun _ => 0))) := rfl
theorem lc_48 : mmE CA ρ 48 (sgI v0 48) (sgJ 48) = .inl (CA 0, 4, .inl (fun _ => 0)) := rfl
theorem la_48 (hP : va_P D clA (cW CA ρ v0) H) : va_at D clA (ρ 48, mmE CA ρ 48 (sgI v0 48) (sgJ 48)) H := by
  rw [lc_48]
  exact hP 47 _ cw_48
theorem cw_49 : (cW CA ρ v0)[(48 : Nat)]? = some (ρ 49, .inl (CA 0, 4, .inl (fun _ => 0))) := rfl
theorem lc_49 : mmE CA ρ 49 (sgI v0 49) (sgJ 49) = .inl (CA 0, 4, .inl (fun _ => 0)) := rfl
theorem la_49 (hP : va_P D clA (cW CA ρ v0) H) : va_at D clA (ρ 49, mmE CA ρ 49 (sgI v0 49) (sgJ 49)) H := by
  rw [lc_49]
  exact hP 48 _ cw_49
theorem cw_50 : (cW CA ρ v0)[(49 : Nat)]? = some (ρ 50, .inl (CA 0, 4, .inl (fun _ => 0))) := rfl
theorem lc_50 : mmE CA ρ 50 (sgI v0 50) (sgJ 50) = .inl (CA 0, 4, .inl (fun _ => 0)) := rfl
theorem la_50 (hP : va_P D clA (cW CA ρ v0) H) : va_at D clA (ρ 50, mmE CA ρ 50 (sgI v0 50) (sgJ 50)) H := by
  rw [lc_50]
  exact hP 49 _ cw_50
theorem cw_51 : (cW CA ρ v0)[(50 : Nat)]? = some (ρ 51, .inl (CA 0, 4, .inl (fun _ => 0))) := rfl
theorem lc_51 : mmE CA ρ 51 (sgI v0 51) (sgJ 51) = .inl (CA 0, 4, .inl (fun _ => 0)) := rfl
theorem la_51 (hP : va_P D clA (cW CA ρ v0) H) : va_at D clA (ρ 51, mmE CA ρ 51 (sgI v0 51) (sgJ 51)) H := by
  rw [lc_51]
  exact hP 50 _ cw_51
theorem cw_52 : (cW CA ρ v0)[(51 : Nat)]? = some (ρ 52, .inl (CA 0, 4, .inl (fun _ => 0))) := rfl
theorem lc_52 : mmE CA ρ 52 (sgI v0 52) (sgJ 52) = .inl (CA 0, 4, .inl (fun _ => 0)) := rfl
theorem la_52 (hP : va_P D clA (cW CA ρ v0) H) : va_at D clA (ρ 52, mmE CA ρ 52 (sgI v0 52) (sgJ 52)) H := by
  rw [lc_52]
  exact hP 51 _ cw_52
theorem cw_53 : (cW CA ρ v0)[(52 : Nat)]? = some (ρ 53, .inl (CA 0, 4, .inl (fun _ => 0))) := rfl
theorem lc_53 : mmE CA ρ 53 (sgI v0 53) (sgJ 53) = .inl (CA 0, 4, .inl (fun _ => 0)) := rfl
theorem la_53 (hP : va_P D clA (cW CA ρ v0) H) : va_at D clA (ρ 53, mmE CA ρ 53 (sgI v0 53) (sgJ 53)) H := by
  rw [lc_53]
  exact hP 52 _ cw_53
theorem cw_54 : (cW CA ρ v0)[(53 : Nat)]? = some (ρ 54, .inl (CA 0, 4, .inl (fun _ => 0))) := rfl
theorem lc_54 : mmE CA ρ 54 (sgI v0 54) (sgJ 54) = .inl (CA 0, 4, .inl (fun _ => 0)) := rfl
theorem la_54 (hP : va_P D clA (cW CA ρ v0) H) : va_at D clA (ρ 54, mmE CA ρ 54 (sgI v0 54) (sgJ 54)) H := by
  rw [lc_54]
  exact hP 53 _ cw_54
theorem cw_55 : (cW CA ρ v0)[(54 : Nat)]? = some (ρ 55, .inl (CA 0, 4, .inl (fun _ => 0))) := rfl
theorem lc_55 : mmE CA ρ 55 (sgI v0 55) (sgJ 55) = .inl (CA 0, 4, .inl (fun _ => 0)) := rfl
theorem la_55 (hP : va_P D clA (cW CA ρ v0) H) : va_at D clA (ρ 55, mmE CA ρ 55 (sgI v0 55) (sgJ 55)) H := by
  rw [lc_55]
  exact hP 54 _ cw_55
theorem cw_56 : (cW CA ρ v0)[(55 : Nat)]? = some (ρ 56, .inl (CA 1, 4, .inl (fun _ => 0))) := rfl
theorem lc_56 : mmE CA ρ 56 (sgI v0 56) (sgJ 56) = .inl (CA 1, 4, .inl (fun _ => 0)) := rfl
theorem la_56 (hP : va_P D clA (cW CA ρ v0) H) : va_at D clA (ρ 56, mmE CA ρ 56 (sgI v0 56) (sgJ 56)) H := by
  rw [lc_56]
  exact hP 55 _ cw_56
theorem cw_57 : (cW CA ρ v0)[(64 : Nat)]? = some (ρ 57, .inl (CA 0, 32, .inl (fg3 (fg2 (fg1 (fg0 (fun _ => 0))))))) := rfl
theorem lc_57 : mmE CA ρ 57 (sgI v0 57) (sgJ 57) = .inl (CA 0, 32, .inl (fg3 (fg2 (fg1 (fg0 (fun _ => 0)))))) := rfl
theorem la_57 (hP : va_P D clA (cW CA ρ v0) H) : va_at D clA (ρ 57, mmE CA ρ 57 (sgI v0 57) (sgJ 57)) H := by
  rw [lc_57]
  exact hP 64 _ cw_57
theorem cw_58 : (cW CA ρ v0)[(56 : Nat)]? = some (ρ 58, .inl (CA 0, 40, .inl (fun _ => 0))) := rfl
theorem lc_58 : mmE CA ρ 58 (sgI v0 58) (sgJ 58) = .inl (CA 0, 40, .inl (fun _ => 0)) := rfl
theorem la_58 (hP : va_P D clA (cW CA ρ v0) H) : va_at D clA (ρ 58, mmE CA ρ 58 (sgI v0 58) (sgJ 58)) H := by
  rw [lc_58]
  exact hP 56 _ cw_58
theorem cw_59 : (cW CA ρ v0)[(57 : Nat)]? = some (ρ 59, .inl (CA 0, 4, .inl (fun _ => 0))) := rfl
theorem lc_59 : mmE CA ρ 59 (sgI v0 59) (sgJ 59) = .inl (CA 0, 4, .inl (fun _ => 0)) := rfl
theorem la_59 (hP : va_P D clA (cW CA ρ v0) H) : va_at D clA (ρ 59, mmE CA ρ 59 (sgI v0 59) (sgJ 59)) H := by
  rw [lc_59]
  exact hP 57 _ cw_59
theorem cw_60 : (cW CA ρ v0)[(58 : Nat)]? = some (ρ 60, .inl (CA 0, 4, .inl (fun _ => 0))) := rfl
theorem lc_60 : mmE CA ρ 60 (sgI v0 60) (sgJ 60) = .inl (CA 0, 4, .inl (fun _ => 0)) := rfl
theorem la_60 (hP : va_P D clA (cW CA ρ v0) H) : va_at D clA (ρ 60, mmE CA ρ 60 (sgI v0 60) (sgJ 60)) H := by
  rw [lc_60]
  exact hP 58 _ cw_60
theorem cw_61 : (cW CA ρ v0)[(59 : Nat)]? = some (ρ 61, .inl (CA 0, 4, .inl (fun _ => 0))) := rfl
theorem lc_61 : mmE CA ρ 61 (sgI v0 61) (sgJ 61) = .inl (CA 0, 4, .inl (fun _ => 0)) := rfl
theorem la_61 (hP : va_P D clA (cW CA ρ v0) H) : va_at D clA (ρ 61, mmE CA ρ 61 (sgI v0 61) (sgJ 61)) H := by
  rw [lc_61]
  exact hP 59 _ cw_61
theorem cw_62 : (cW CA ρ v0)[(60 : Nat)]? = some (ρ 62, .inl (CA 0, 4, .inl (fun _ => 0))) := rfl
theorem lc_62 : mmE CA ρ 62 (sgI v0 62) (sgJ 62) = .inl (CA 0, 4, .inl (fun _ => 0)) := rfl
theorem la_62 (hP : va_P D clA (cW CA ρ v0) H) : va_at D clA (ρ 62, mmE CA ρ 62 (sgI v0 62) (sgJ 62)) H := by
  rw [lc_62]
  exact hP 60 _ cw_62
theorem cw_63 : (cW CA ρ v0)[(61 : Nat)]? = some (ρ 63, .inl (CA 0, 4, .inl (fun _ => 0))) := rfl
theorem lc_63 : mmE CA ρ 63 (sgI v0 63) (sgJ 63) = .inl (CA 0, 4, .inl (fun _ => 0)) := rfl
theorem la_63 (hP : va_P D clA (cW CA ρ v0) H) : va_at D clA (ρ 63, mmE CA ρ 63 (sgI v0 63) (sgJ 63)) H := by
  rw [lc_63]
  exact hP 61 _ cw_63
theorem cw_64 : (cW CA ρ v0)[(62 : Nat)]? = some (ρ 64, .inl (CA 0, 5, .inl (fun _ => 0))) := rfl
theorem lc_64 : mmE CA ρ 64 (sgI v0 64) (sgJ 64) = .inl (CA 0, 5, .inl (fun _ => 0)) := rfl
theorem la_64 (hP : va_P D clA (cW CA ρ v0) H) : va_at D clA (ρ 64, mmE CA ρ 64 (sgI v0 64) (sgJ 64)) H := by
  rw [lc_64]
  exact hP 62 _ cw_64
theorem cw_65 : (cW CA ρ v0)[(65 : Nat)]? = some (ρ 65, .inl (CA 2, 1, .inr (.inl (fun _ => 0)))) := rfl
theorem lc_65 : mmE CA ρ 65 (sgI v0 65) (sgJ 65) = .inl (CA 2, 1, .inr (.inl (fun _ => 0))) := rfl
theorem la_65 (hP : va_P D clA (cW CA ρ v0) H) : va_at D clA (ρ 65, mmE CA ρ 65 (sgI v0 65) (sgJ 65)) H := by
  rw [lc_65]
  exact hP 65 _ cw_65
theorem lw_PM (hP : va_P D clA (cW CA ρ v0) H) : va_P D clA (mmW CA ρ 66 (sgI v0, sgJ)) H := by
  intro k q hq
  obtain ⟨hk, rfl⟩ := mmW_inv hq
  clear hq
  match k, hk with
  | 0, _ => exact la_0 hP
  | 1, _ => exact la_1 hP
  | 2, _ => exact la_2 hP
  | 3, _ => exact la_3 hP
  | 4, _ => exact la_4 hP
  | 5, _ => exact la_5 hP
  | 6, _ => exact la_6 hP
  | 7, _ => exact la_7 hP
  | 8, _ => exact la_8 hP
  | 9, _ => exact la_9 hP
  | 10, _ => exact la_10 hP
  | 11, _ => exact la_11 hP
  | 12, _ => exact la_12 hP
  | 13, _ => exact la_13 hP
  | 14, _ => exact la_14 hP
  | 15, _ => exact la_15 hP
  | 16, _ => exact la_16 hP
  | 17, _ => exact la_17 hP
  | 18, _ => exact la_18 hP
  | 19, _ => exact la_19 hP
  | 20, _ => exact la_20 hP
  | 21, _ => exact la_21 hP
  | 22, _ => exact la_22 hP
  | 23, _ => exact la_23 hP
  | 24, _ => exact la_24 hP
  | 25, _ => exact la_25 hP
  | 26, _ => exact la_26 hP
  | 27, _ => exact la_27 hP
  | 28, _ => exact la_28 hP
  | 29, _ => exact la_29 hP
  | 30, _ => exact la_30 hP
  | 31, _ => exact la_31 hP
  | 32, _ => exact la_32 hP
  | 33, _ => exact la_33 hP
  | 34, _ => exact la_34 hP
  | 35, _ => exact la_35 hP
  | 36, _ => exact la_36 hP
  | 37, _ => exact la_37 hP
  | 38, _ => exact la_38 hP
  | 39, _ => exact la_39 hP
  | 40, _ => exact la_40 hP
  | 41, _ => exact la_41 hP
  | 42, _ => exact la_42 hP
  | 43, _ => exact la_43 hP
  | 44, _ => exact la_44 hP
  | 45, _ => exact la_45 hP
  | 46, _ => exact la_46 hP
  | 47, _ => exact la_47 hP
  | 48, _ => exact la_48 hP
  | 49, _ => exact la_49 hP
  | 50, _ => exact la_50 hP
  | 51, _ => exact la_51 hP
  | 52, _ => exact la_52 hP
  | 53, _ => exact la_53 hP
  | 54, _ => exact la_54 hP
  | 55, _ => exact la_55 hP
  | 56, _ => exact la_56 hP
  | 57, _ => exact la_57 hP
  | 58, _ => exact la_58 hP
  | 59, _ => exact la_59 hP
  | 60, _ => exact la_60 hP
  | 61, _ => exact la_61 hP
  | 62, _ => exact la_62 hP
  | 63, _ => exact la_63 hP
  | 64, _ => exact la_64 hP
  | 65, _ => exact la_65 hP
  | k + 66, hk => exact absurd hk (by omega)
theorem cw_get : ∀ k, k < 66 → ∃ x, (cW CA ρ v0)[posC k]? = some (ρ k, x) := by
  intro k hk
  match k, hk with
  | 0, _ => exact ⟨_, cw_0⟩
  | 1, _ => exact ⟨_, cw_1⟩
  | 2, _ => exact ⟨_, cw_2⟩
  | 3, _ => exact ⟨_, cw_3⟩
  | 4, _ => exact ⟨_, cw_4⟩
  | 5, _ => exact ⟨_, cw_5⟩
  | 6, _ => exact ⟨_, cw_6⟩
  | 7, _ => exact ⟨_, cw_7⟩
  | 8, _ => exact ⟨_, cw_8⟩
  | 9, _ => exact ⟨_, cw_9⟩
  | 10, _ => exact ⟨_, cw_10⟩
  | 11, _ => exact ⟨_, cw_11⟩
  | 12, _ => exact ⟨_, cw_12⟩
  | 13, _ => exact ⟨_, cw_13⟩
  | 14, _ => exact ⟨_, cw_14⟩
  | 15, _ => exact ⟨_, cw_15⟩
  | 16, _ => exact ⟨_, cw_16⟩
  | 17, _ => exact ⟨_, cw_17⟩
  | 18, _ => exact ⟨_, cw_18⟩
  | 19, _ => exact ⟨_, cw_19⟩
  | 20, _ => exact ⟨_, cw_20⟩
  | 21, _ => exact ⟨_, cw_21⟩
  | 22, _ => exact ⟨_, cw_22⟩
  | 23, _ => exact ⟨_, cw_23⟩
  | 24, _ => exact ⟨_, cw_24⟩
  | 25, _ => exact ⟨_, cw_25⟩
  | 26, _ => exact ⟨_, cw_26⟩
  | 27, _ => exact ⟨_, cw_27⟩
  | 28, _ => exact ⟨_, cw_28⟩
  | 29, _ => exact ⟨_, cw_29⟩
  | 30, _ => exact ⟨_, cw_30⟩
  | 31, _ => exact ⟨_, cw_31⟩
  | 32, _ => exact ⟨_, cw_32⟩
  | 33, _ => exact ⟨_, cw_33⟩
  | 34, _ => exact ⟨_, cw_34⟩
  | 35, _ => exact ⟨_, cw_35⟩
  | 36, _ => exact ⟨_, cw_36⟩
  | 37, _ => exact ⟨_, cw_37⟩
  | 38, _ => exact ⟨_, cw_38⟩
  | 39, _ => exact ⟨_, cw_39⟩
  | 40, _ => exact ⟨_, cw_40⟩
  | 41, _ => exact ⟨_, cw_41⟩
  | 42, _ => exact ⟨_, cw_42⟩
  | 43, _ => exact ⟨_, cw_43⟩
  | 44, _ => exact ⟨_, cw_44⟩
  | 45, _ => exact ⟨_, cw_45⟩
  | 46, _ => exact ⟨_, cw_46⟩
  | 47, _ => exact ⟨_, cw_47⟩
  | 48, _ => exact ⟨_, cw_48⟩
  | 49, _ => exact ⟨_, cw_49⟩
  | 50, _ => exact ⟨_, cw_50⟩
  | 51, _ => exact ⟨_, cw_51⟩
  | 52, _ => exact ⟨_, cw_52⟩
  | 53, _ => exact ⟨_, cw_53⟩
  | 54, _ => exact ⟨_, cw_54⟩
  | 55, _ => exact ⟨_, cw_55⟩
  | 56, _ => exact ⟨_, cw_56⟩
  | 57, _ => exact ⟨_, cw_57⟩
  | 58, _ => exact ⟨_, cw_58⟩
  | 59, _ => exact ⟨_, cw_59⟩
  | 60, _ => exact ⟨_, cw_60⟩
  | 61, _ => exact ⟨_, cw_61⟩
  | 62, _ => exact ⟨_, cw_62⟩
  | 63, _ => exact ⟨_, cw_63⟩
  | 64, _ => exact ⟨_, cw_64⟩
  | 65, _ => exact ⟨_, cw_65⟩
  | k + 66, hk => exact absurd hk (by omega)
end WC
