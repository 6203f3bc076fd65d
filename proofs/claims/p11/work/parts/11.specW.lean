section SP
variable {N L : Nat} {xs : Nat → Int32}
def ix (n : Nat) : Int32 := Int32.ofInt ((n : Int) - 1)
theorem ix_all : ∀ n, n < 41 → ix (n + 1) = Int32.ofNat n ∧ Int32.ofNat n + Int32.ofInt (-1) = ix n := by decide +kernel
theorem ix_dec (n : Nat) (h : n < 41) : Int32.ofNat n + Int32.ofInt (-1) = ix n := (ix_all n h).2
def ckC (bits : Int64) (w : Int32) (joined mask : Int64) : Nat → Int64 → Int64
  | 0, r => r
  | n + 1, r =>
    if (lg_cmp ((r.toUInt64 >>> ((w - (1 : Int32)).toInt64.toUInt64 &&& Int64.toUInt64 63)).toInt64) (((bits.toUInt64 >>> ((Int32.ofNat n).toInt64.toUInt64 &&& Int64.toUInt64 63)).toInt64) &&& (1 : Int64))) = 0 then
      (ckC bits w joined mask n ((r <<< ((1 : Int32).toInt64 &&& 63)) &&& mask))
    else
      (ckC bits w joined mask n (((r <<< ((1 : Int32).toInt64 &&& 63)) &&& mask) ^^^ joined))
theorem ev_ck16 (bits : Int64) (w : Int32) (joined mask : Int64) : ∀ n, n < 40 → ∀ (r : Int64) (σ : mmS), Ev N L xs (48, 16, [(0, .long bits), (3, .int w), (6, .long joined), (8, .long mask), (10, .long r), (12, .int (ix n))], [], 0, σ) (mmPJ σ (ckC bits w joined mask n r))
  | 0, _, r, σ => by
    refine ev_iload d_48_16 rfl ?_
    refine ev_ifT (tgt := 63) d_48_18 rfl (show ix 0 < 0 by decide) ?_
    refine ev_lload d_48_63 rfl ?_
    exact ev_lret d_48_65 rfl
  | n + 1, hn, r, σ => by
    rw [(ix_all n (by omega)).1]
    unfold ckC
    refine ev_iload d_48_16 rfl ?_
    refine ev_ifF (tgt := 63) d_48_18 rfl (show ¬ (Int32.ofNat n) < 0 from (nat_s n (by omega)).2.1) ?_
    refine ev_lload d_48_21 rfl ?_
    refine ev_iload_n d_48_23 rfl ?_
    refine ev_iconst d_48_24 ci_1 ?_
    refine ev_isub (v := (w - (1 : Int32))) d_48_25 rfl ?_
    refine ev_lushr (v := ((r.toUInt64 >>> ((w - (1 : Int32)).toInt64.toUInt64 &&& Int64.toUInt64 63)).toInt64)) d_48_26 rfl ?_
    refine ev_lstore (lv' := [(13, .long ((r.toUInt64 >>> ((w - (1 : Int32)).toInt64.toUInt64 &&& Int64.toUInt64 63)).toInt64)), (0, .long bits), (3, .int w), (6, .long joined), (8, .long mask), (10, .long r), (12, .int (Int32.ofNat n))]) d_48_27 (by decide) rfl ?_
    refine ev_lload d_48_29 rfl ?_
    refine ev_iconst d_48_31 ci_1 ?_
    refine ev_lshl (v := (r <<< ((1 : Int32).toInt64 &&& 63))) d_48_32 rfl ?_
    refine ev_lload d_48_33 rfl ?_
    refine ev_land (v := ((r <<< ((1 : Int32).toInt64 &&& 63)) &&& mask)) d_48_35 rfl ?_
    refine ev_lstore (lv' := [(10, .long ((r <<< ((1 : Int32).toInt64 &&& 63)) &&& mask)), (13, .long ((r.toUInt64 >>> ((w - (1 : Int32)).toInt64.toUInt64 &&& Int64.toUInt64 63)).toInt64)), (0, .long bits), (3, .int w), (6, .long joined), (8, .long mask), (12, .int (Int32.ofNat n))]) d_48_36 (by decide) rfl ?_
    refine ev_lload d_48_38 rfl ?_
    refine ev_lload_n d_48_40 rfl ?_
    refine ev_iload d_48_41 rfl ?_
    refine ev_lushr (v := ((bits.toUInt64 >>> ((Int32.ofNat n).toInt64.toUInt64 &&& Int64.toUInt64 63)).toInt64)) d_48_43 rfl ?_
    refine ev_lconst d_48_44 rfl ?_
    refine ev_land (v := (((bits.toUInt64 >>> ((Int32.ofNat n).toInt64.toUInt64 &&& Int64.toUInt64 63)).toInt64) &&& (1 : Int64))) d_48_45 rfl ?_
    refine ev_lcmp d_48_46 ?_
    refine ev_if_eq (mmPJ σ) (tgt := 57) d_48_47 rfl (fun _h47 => ?_) (fun _h47 => ?_)
    · refine ev_iinc (lv' := [(12, .int (ix n)), (10, .long ((r <<< ((1 : Int32).toInt64 &&& 63)) &&& mask)), (13, .long ((r.toUInt64 >>> ((w - (1 : Int32)).toInt64.toUInt64 &&& Int64.toUInt64 63)).toInt64)), (0, .long bits), (3, .int w), (6, .long joined), (8, .long mask)]) (v := (ix n)) d_48_57 rfl (ix_dec n (by omega)) (by decide) rfl ?_
      refine ev_goto (tgt := 16) d_48_60 rfl ?_
      refine ev_sub (lv' := [(0, .long bits), (3, .int w), (6, .long joined), (8, .long mask), (10, .long ((r <<< ((1 : Int32).toInt64 &&& 63)) &&& mask)), (12, .int (ix n))]) (by simp) ?_
      exact ev_ck16 bits w joined mask n (by omega) _ _
    · refine ev_lload d_48_50 rfl ?_
      refine ev_lload d_48_52 rfl ?_
      refine ev_lxor (v := (((r <<< ((1 : Int32).toInt64 &&& 63)) &&& mask) ^^^ joined)) d_48_54 rfl ?_
      refine ev_lstore (lv' := [(10, .long (((r <<< ((1 : Int32).toInt64 &&& 63)) &&& mask) ^^^ joined)), (13, .long ((r.toUInt64 >>> ((w - (1 : Int32)).toInt64.toUInt64 &&& Int64.toUInt64 63)).toInt64)), (0, .long bits), (3, .int w), (6, .long joined), (8, .long mask), (12, .int (Int32.ofNat n))]) d_48_55 (by decide) rfl ?_
      refine ev_iinc (lv' := [(12, .int (ix n)), (10, .long (((r <<< ((1 : Int32).toInt64 &&& 63)) &&& mask) ^^^ joined)), (13, .long ((r.toUInt64 >>> ((w - (1 : Int32)).toInt64.toUInt64 &&& Int64.toUInt64 63)).toInt64)), (0, .long bits), (3, .int w), (6, .long joined), (8, .long mask)]) (v := (ix n)) d_48_57 rfl (ix_dec n (by omega)) (by decide) rfl ?_
      refine ev_goto (tgt := 16) d_48_60 rfl ?_
      refine ev_sub (lv' := [(0, .long bits), (3, .int w), (6, .long joined), (8, .long mask), (10, .long (((r <<< ((1 : Int32).toInt64 &&& 63)) &&& mask) ^^^ joined)), (12, .int (ix n))]) (by simp) ?_
      exact ev_ck16 bits w joined mask n (by omega) _ _
def sp_w_check12 (a0 : Int64) (σ : mmS) : Int64 :=
(ckC a0 (11 : Int32) (901 : Int64) (((1 : Int64) <<< ((11 : Int32).toInt64 &&& 63)) - (1 : Int64)) 12 (26 : Int64))
theorem ev_w_check12 (hN : 65 ≤ N) (a0 : Int64) (σ : mmS) : Ev N L xs (48, 0, lv_args 0 [.long a0, .int (12 : Int32), .int (11 : Int32), .long (26 : Int64), .long (901 : Int64)], [], 0, σ) ((mmPJ σ) (sp_w_check12 a0 σ)) := by
  unfold sp_w_check12
  show Ev N L xs (48, 0, [(0, .long a0), (2, .int (12 : Int32)), (3, .int (11 : Int32)), (4, .long (26 : Int64)), (6, .long (901 : Int64))], [], 0, σ) _
  refine ev_lconst d_48_0 rfl ?_
  refine ev_iload_n d_48_1 rfl ?_
  refine ev_lshl (v := ((1 : Int64) <<< ((11 : Int32).toInt64 &&& 63))) d_48_2 rfl ?_
  refine ev_lconst d_48_3 rfl ?_
  refine ev_lsub (v := (((1 : Int64) <<< ((11 : Int32).toInt64 &&& 63)) - (1 : Int64))) d_48_4 rfl ?_
  refine ev_lstore (lv' := [(8, .long (((1 : Int64) <<< ((11 : Int32).toInt64 &&& 63)) - (1 : Int64))), (0, .long a0), (2, .int (12 : Int32)), (3, .int (11 : Int32)), (4, .long (26 : Int64)), (6, .long (901 : Int64))]) d_48_5 (by decide) rfl ?_
  refine ev_lload d_48_7 rfl ?_
  refine ev_lstore (lv' := [(10, .long (26 : Int64)), (8, .long (((1 : Int64) <<< ((11 : Int32).toInt64 &&& 63)) - (1 : Int64))), (0, .long a0), (2, .int (12 : Int32)), (3, .int (11 : Int32)), (4, .long (26 : Int64)), (6, .long (901 : Int64))]) d_48_9 (by decide) rfl ?_
  refine ev_iload_n d_48_11 rfl ?_
  refine ev_iconst d_48_12 ci_1 ?_
  refine ev_isub (v := (11 : Int32)) d_48_13 (by decide) ?_
  refine ev_istore (lv' := [(12, .int (11 : Int32)), (10, .long (26 : Int64)), (8, .long (((1 : Int64) <<< ((11 : Int32).toInt64 &&& 63)) - (1 : Int64))), (0, .long a0), (2, .int (12 : Int32)), (3, .int (11 : Int32)), (4, .long (26 : Int64)), (6, .long (901 : Int64))]) d_48_14 (by decide) rfl ?_
  refine ev_sub (lv' := [(0, .long a0), (3, .int (11 : Int32)), (6, .long (901 : Int64)), (8, .long (((1 : Int64) <<< ((11 : Int32).toInt64 &&& 63)) - (1 : Int64))), (10, .long (26 : Int64)), (12, .int (11 : Int32))]) (by simp) ?_
  have h9 := ev_ck16 (N := N) (L := L) (xs := xs) a0 (11 : Int32) (901 : Int64) (((1 : Int64) <<< ((11 : Int32).toInt64 &&& 63)) - (1 : Int64)) 12 (by decide) (26 : Int64) σ
  rw [show ix 12 = (11 : Int32) by decide] at h9
  exact h9
def sp_w_check33 (a0 : Int64) (σ : mmS) : Int64 :=
(ckC a0 (24 : Int32) (6122955 : Int64) (((1 : Int64) <<< ((24 : Int32).toInt64 &&& 63)) - (1 : Int64)) 33 (16702650 : Int64))
theorem ev_w_check33 (hN : 65 ≤ N) (a0 : Int64) (σ : mmS) : Ev N L xs (48, 0, lv_args 0 [.long a0, .int (33 : Int32), .int (24 : Int32), .long (16702650 : Int64), .long (6122955 : Int64)], [], 0, σ) ((mmPJ σ) (sp_w_check33 a0 σ)) := by
  unfold sp_w_check33
  show Ev N L xs (48, 0, [(0, .long a0), (2, .int (33 : Int32)), (3, .int (24 : Int32)), (4, .long (16702650 : Int64)), (6, .long (6122955 : Int64))], [], 0, σ) _
  refine ev_lconst d_48_0 rfl ?_
  refine ev_iload_n d_48_1 rfl ?_
  refine ev_lshl (v := ((1 : Int64) <<< ((24 : Int32).toInt64 &&& 63))) d_48_2 rfl ?_
  refine ev_lconst d_48_3 rfl ?_
  refine ev_lsub (v := (((1 : Int64) <<< ((24 : Int32).toInt64 &&& 63)) - (1 : Int64))) d_48_4 rfl ?_
  refine ev_lstore (lv' := [(8, .long (((1 : Int64) <<< ((24 : Int32).toInt64 &&& 63)) - (1 : Int64))), (0, .long a0), (2, .int (33 : Int32)), (3, .int (24 : Int32)), (4, .long (16702650 : Int64)), (6, .long (6122955 : Int64))]) d_48_5 (by decide) rfl ?_
  refine ev_lload d_48_7 rfl ?_
  refine ev_lstore (lv' := [(10, .long (16702650 : Int64)), (8, .long (((1 : Int64) <<< ((24 : Int32).toInt64 &&& 63)) - (1 : Int64))), (0, .long a0), (2, .int (33 : Int32)), (3, .int (24 : Int32)), (4, .long (16702650 : Int64)), (6, .long (6122955 : Int64))]) d_48_9 (by decide) rfl ?_
  refine ev_iload_n d_48_11 rfl ?_
  refine ev_iconst d_48_12 ci_1 ?_
  refine ev_isub (v := (32 : Int32)) d_48_13 (by decide) ?_
  refine ev_istore (lv' := [(12, .int (32 : Int32)), (10, .long (16702650 : Int64)), (8, .long (((1 : Int64) <<< ((24 : Int32).toInt64 &&& 63)) - (1 : Int64))), (0, .long a0), (2, .int (33 : Int32)), (3, .int (24 : Int32)), (4, .long (16702650 : Int64)), (6, .long (6122955 : Int64))]) d_48_14 (by decide) rfl ?_
  refine ev_sub (lv' := [(0, .long a0), (3, .int (24 : Int32)), (6, .long (6122955 : Int64)), (8, .long (((1 : Int64) <<< ((24 : Int32).toInt64 &&& 63)) - (1 : Int64))), (10, .long (16702650 : Int64)), (12, .int (32 : Int32))]) (by simp) ?_
  have h9 := ev_ck16 (N := N) (L := L) (xs := xs) a0 (24 : Int32) (6122955 : Int64) (((1 : Int64) <<< ((24 : Int32).toInt64 &&& 63)) - (1 : Int64)) 33 (by decide) (16702650 : Int64) σ
  rw [show ix 33 = (32 : Int32) by decide] at h9
  exact h9
def sp_w_headCheck (a0 : Int64) (σ : mmS) : Int64 :=
(sp_w_check12 a0 σ)
theorem ev_w_headCheck (hN : 65 ≤ N) (a0 : Int64) (σ : mmS) : Ev N L xs (47, 0, lv_args 0 [.long a0], [], 0, σ) ((mmPJ σ) (sp_w_headCheck a0 σ)) := by
  unfold sp_w_headCheck
  show Ev N L xs (47, 0, [(0, .long a0)], [], 0, σ) _
  refine ev_lload_n d_47_0 rfl ?_
  refine ev_bipush d_47_1 cb_12 ?_
  refine ev_bipush d_47_3 cb_11 ?_
  refine ev_ldc2 d_47_5 kl_8_42 ?_
  refine ev_ldc2 d_47_8 kl_8_44 ?_
  refine ev_csJ (As := [.long a0, .int (12 : Int32), .int (11 : Int32), .long (26 : Int64), .long (901 : Int64)]) (t := []) (e' := 0) d_47_11 ml_8_46 rfl rfl rfl rfl rfl (by decide) rfl rfl (ev_w_check12 hN a0 σ) ?_
  exact ev_lret d_47_14 rfl
def sp_w_wholeCheck (a0 : Int64) (σ : mmS) : Int64 :=
(sp_w_check33 a0 σ)
theorem ev_w_wholeCheck (hN : 65 ≤ N) (a0 : Int64) (σ : mmS) : Ev N L xs (49, 0, lv_args 0 [.long a0], [], 0, σ) ((mmPJ σ) (sp_w_wholeCheck a0 σ)) := by
  unfold sp_w_wholeCheck
  show Ev N L xs (49, 0, [(0, .long a0)], [], 0, σ) _
  refine ev_lload_n d_49_0 rfl ?_
  refine ev_bipush d_49_1 cb_33 ?_
  refine ev_bipush d_49_3 cb_24 ?_
  refine ev_ldc2 d_49_5 kl_8_50 ?_
  refine ev_ldc2 d_49_8 kl_8_52 ?_
  refine ev_csJ (As := [.long a0, .int (33 : Int32), .int (24 : Int32), .long (16702650 : Int64), .long (6122955 : Int64)]) (t := []) (e' := 0) d_49_11 ml_8_46 rfl rfl rfl rfl rfl (by decide) rfl rfl (ev_w_check33 hN a0 σ) ?_
  exact ev_lret d_49_14 rfl
def sp_w_make (a0 : Int32) (a1 : Int32) (a2 : Int32) (a3 : Int32) (σ : mmS) : Int64 :=
if a2 = 0 then
  (((((((((a0.toInt64 <<< ((7 : Int32).toInt64 &&& 63)) ||| ((a1 <<< ((1 : Int32) &&& 31)).toInt64)) ||| (0 : Int64)) <<< ((11 : Int32).toInt64 &&& 63)) ||| (sp_w_headCheck (((a0.toInt64 <<< ((7 : Int32).toInt64 &&& 63)) ||| ((a1 <<< ((1 : Int32) &&& 31)).toInt64)) ||| (0 : Int64)) σ)) <<< ((10 : Int32).toInt64 &&& 63)) ||| a3.toInt64) <<< ((24 : Int32).toInt64 &&& 63)) ||| (sp_w_wholeCheck (((((((a0.toInt64 <<< ((7 : Int32).toInt64 &&& 63)) ||| ((a1 <<< ((1 : Int32) &&& 31)).toInt64)) ||| (0 : Int64)) <<< ((11 : Int32).toInt64 &&& 63)) ||| (sp_w_headCheck (((a0.toInt64 <<< ((7 : Int32).toInt64 &&& 63)) ||| ((a1 <<< ((1 : Int32) &&& 31)).toInt64)) ||| (0 : Int64)) σ)) <<< ((10 : Int32).toInt64 &&& 63)) ||| a3.toInt64) σ))
else
  (((((((((a0.toInt64 <<< ((7 : Int32).toInt64 &&& 63)) ||| ((a1 <<< ((1 : Int32) &&& 31)).toInt64)) ||| (1 : Int64)) <<< ((11 : Int32).toInt64 &&& 63)) ||| (sp_w_headCheck (((a0.toInt64 <<< ((7 : Int32).toInt64 &&& 63)) ||| ((a1 <<< ((1 : Int32) &&& 31)).toInt64)) ||| (1 : Int64)) σ)) <<< ((10 : Int32).toInt64 &&& 63)) ||| a3.toInt64) <<< ((24 : Int32).toInt64 &&& 63)) ||| (sp_w_wholeCheck (((((((a0.toInt64 <<< ((7 : Int32).toInt64 &&& 63)) ||| ((a1 <<< ((1 : Int32) &&& 31)).toInt64)) ||| (1 : Int64)) <<< ((11 : Int32).toInt64 &&& 63)) ||| (sp_w_headCheck (((a0.toInt64 <<< ((7 : Int32).toInt64 &&& 63)) ||| ((a1 <<< ((1 : Int32) &&& 31)).toInt64)) ||| (1 : Int64)) σ)) <<< ((10 : Int32).toInt64 &&& 63)) ||| a3.toInt64) σ))
theorem ev_w_make (hN : 65 ≤ N) (a0 : Int32) (a1 : Int32) (a2 : Int32) (a3 : Int32) (σ : mmS) : Ev N L xs (46, 0, lv_args 0 [.int a0, .int a1, .int a2, .int a3], [], 0, σ) ((mmPJ σ) (sp_w_make a0 a1 a2 a3 σ)) := by
  unfold sp_w_make
  show Ev N L xs (46, 0, [(0, .int a0), (1, .int a1), (2, .int a2), (3, .int a3)], [], 0, σ) _
  refine ev_iload_n d_46_0 rfl ?_
  refine ev_i2l (v := a0.toInt64) d_46_1 rfl ?_
  refine ev_bipush d_46_2 cb_7 ?_
  refine ev_lshl (v := (a0.toInt64 <<< ((7 : Int32).toInt64 &&& 63))) d_46_4 rfl ?_
  refine ev_iload_n d_46_5 rfl ?_
  refine ev_iconst d_46_6 ci_1 ?_
  refine ev_ishl (v := (a1 <<< ((1 : Int32) &&& 31))) d_46_7 rfl ?_
  refine ev_i2l (v := (a1 <<< ((1 : Int32) &&& 31)).toInt64) d_46_8 rfl ?_
  refine ev_lor (v := ((a0.toInt64 <<< ((7 : Int32).toInt64 &&& 63)) ||| ((a1 <<< ((1 : Int32) &&& 31)).toInt64))) d_46_9 rfl ?_
  refine ev_iload_n d_46_10 rfl ?_
  refine ev_if_eq (mmPJ σ) (tgt := 18) d_46_11 rfl (fun _h11 => ?_) (fun _h11 => ?_)
  · refine ev_iconst d_46_18 ci_0 ?_
    refine ev_i2l (v := (0 : Int64)) d_46_19 (by decide) ?_
    refine ev_lor (v := (((a0.toInt64 <<< ((7 : Int32).toInt64 &&& 63)) ||| ((a1 <<< ((1 : Int32) &&& 31)).toInt64)) ||| (0 : Int64))) d_46_20 rfl ?_
    refine ev_lstore (lv' := [(4, .long (((a0.toInt64 <<< ((7 : Int32).toInt64 &&& 63)) ||| ((a1 <<< ((1 : Int32) &&& 31)).toInt64)) ||| (0 : Int64))), (0, .int a0), (1, .int a1), (2, .int a2), (3, .int a3)]) d_46_21 (by decide) rfl ?_
    refine ev_lload d_46_23 rfl ?_
    refine ev_bipush d_46_25 cb_11 ?_
    refine ev_lshl (v := ((((a0.toInt64 <<< ((7 : Int32).toInt64 &&& 63)) ||| ((a1 <<< ((1 : Int32) &&& 31)).toInt64)) ||| (0 : Int64)) <<< ((11 : Int32).toInt64 &&& 63))) d_46_27 rfl ?_
    refine ev_lload d_46_28 rfl ?_
    refine ev_csJ (As := [.long (((a0.toInt64 <<< ((7 : Int32).toInt64 &&& 63)) ||| ((a1 <<< ((1 : Int32) &&& 31)).toInt64)) ||| (0 : Int64))]) (t := [.long ((((a0.toInt64 <<< ((7 : Int32).toInt64 &&& 63)) ||| ((a1 <<< ((1 : Int32) &&& 31)).toInt64)) ||| (0 : Int64)) <<< ((11 : Int32).toInt64 &&& 63))]) (e' := 0) d_46_30 ml_8_11 rfl rfl rfl rfl rfl (by decide) rfl rfl (ev_w_headCheck hN (((a0.toInt64 <<< ((7 : Int32).toInt64 &&& 63)) ||| ((a1 <<< ((1 : Int32) &&& 31)).toInt64)) ||| (0 : Int64)) σ) ?_
    refine ev_lor (v := (((((a0.toInt64 <<< ((7 : Int32).toInt64 &&& 63)) ||| ((a1 <<< ((1 : Int32) &&& 31)).toInt64)) ||| (0 : Int64)) <<< ((11 : Int32).toInt64 &&& 63)) ||| (sp_w_headCheck (((a0.toInt64 <<< ((7 : Int32).toInt64 &&& 63)) ||| ((a1 <<< ((1 : Int32) &&& 31)).toInt64)) ||| (0 : Int64)) σ))) d_46_33 rfl ?_
    refine ev_bipush d_46_34 cb_10 ?_
    refine ev_lshl (v := ((((((a0.toInt64 <<< ((7 : Int32).toInt64 &&& 63)) ||| ((a1 <<< ((1 : Int32) &&& 31)).toInt64)) ||| (0 : Int64)) <<< ((11 : Int32).toInt64 &&& 63)) ||| (sp_w_headCheck (((a0.toInt64 <<< ((7 : Int32).toInt64 &&& 63)) ||| ((a1 <<< ((1 : Int32) &&& 31)).toInt64)) ||| (0 : Int64)) σ)) <<< ((10 : Int32).toInt64 &&& 63))) d_46_36 rfl ?_
    refine ev_iload_n d_46_37 rfl ?_
    refine ev_i2l (v := a3.toInt64) d_46_38 rfl ?_
    refine ev_lor (v := (((((((a0.toInt64 <<< ((7 : Int32).toInt64 &&& 63)) ||| ((a1 <<< ((1 : Int32) &&& 31)).toInt64)) ||| (0 : Int64)) <<< ((11 : Int32).toInt64 &&& 63)) ||| (sp_w_headCheck (((a0.toInt64 <<< ((7 : Int32).toInt64 &&& 63)) ||| ((a1 <<< ((1 : Int32) &&& 31)).toInt64)) ||| (0 : Int64)) σ)) <<< ((10 : Int32).toInt64 &&& 63)) ||| a3.toInt64)) d_46_39 rfl ?_
    refine ev_lstore (lv' := [(6, .long (((((((a0.toInt64 <<< ((7 : Int32).toInt64 &&& 63)) ||| ((a1 <<< ((1 : Int32) &&& 31)).toInt64)) ||| (0 : Int64)) <<< ((11 : Int32).toInt64 &&& 63)) ||| (sp_w_headCheck (((a0.toInt64 <<< ((7 : Int32).toInt64 &&& 63)) ||| ((a1 <<< ((1 : Int32) &&& 31)).toInt64)) ||| (0 : Int64)) σ)) <<< ((10 : Int32).toInt64 &&& 63)) ||| a3.toInt64)), (4, .long (((a0.toInt64 <<< ((7 : Int32).toInt64 &&& 63)) ||| ((a1 <<< ((1 : Int32) &&& 31)).toInt64)) ||| (0 : Int64))), (0, .int a0), (1, .int a1), (2, .int a2), (3, .int a3)]) d_46_40 (by decide) rfl ?_
    refine ev_lload d_46_42 rfl ?_
    refine ev_bipush d_46_44 cb_24 ?_
    refine ev_lshl (v := ((((((((a0.toInt64 <<< ((7 : Int32).toInt64 &&& 63)) ||| ((a1 <<< ((1 : Int32) &&& 31)).toInt64)) ||| (0 : Int64)) <<< ((11 : Int32).toInt64 &&& 63)) ||| (sp_w_headCheck (((a0.toInt64 <<< ((7 : Int32).toInt64 &&& 63)) ||| ((a1 <<< ((1 : Int32) &&& 31)).toInt64)) ||| (0 : Int64)) σ)) <<< ((10 : Int32).toInt64 &&& 63)) ||| a3.toInt64) <<< ((24 : Int32).toInt64 &&& 63))) d_46_46 rfl ?_
    refine ev_lload d_46_47 rfl ?_
    refine ev_csJ (As := [.long (((((((a0.toInt64 <<< ((7 : Int32).toInt64 &&& 63)) ||| ((a1 <<< ((1 : Int32) &&& 31)).toInt64)) ||| (0 : Int64)) <<< ((11 : Int32).toInt64 &&& 63)) ||| (sp_w_headCheck (((a0.toInt64 <<< ((7 : Int32).toInt64 &&& 63)) ||| ((a1 <<< ((1 : Int32) &&& 31)).toInt64)) ||| (0 : Int64)) σ)) <<< ((10 : Int32).toInt64 &&& 63)) ||| a3.toInt64)]) (t := [.long ((((((((a0.toInt64 <<< ((7 : Int32).toInt64 &&& 63)) ||| ((a1 <<< ((1 : Int32) &&& 31)).toInt64)) ||| (0 : Int64)) <<< ((11 : Int32).toInt64 &&& 63)) ||| (sp_w_headCheck (((a0.toInt64 <<< ((7 : Int32).toInt64 &&& 63)) ||| ((a1 <<< ((1 : Int32) &&& 31)).toInt64)) ||| (0 : Int64)) σ)) <<< ((10 : Int32).toInt64 &&& 63)) ||| a3.toInt64) <<< ((24 : Int32).toInt64 &&& 63))]) (e' := 0) d_46_49 ml_8_15 rfl rfl rfl rfl rfl (by decide) rfl rfl (ev_w_wholeCheck hN (((((((a0.toInt64 <<< ((7 : Int32).toInt64 &&& 63)) ||| ((a1 <<< ((1 : Int32) &&& 31)).toInt64)) ||| (0 : Int64)) <<< ((11 : Int32).toInt64 &&& 63)) ||| (sp_w_headCheck (((a0.toInt64 <<< ((7 : Int32).toInt64 &&& 63)) ||| ((a1 <<< ((1 : Int32) &&& 31)).toInt64)) ||| (0 : Int64)) σ)) <<< ((10 : Int32).toInt64 &&& 63)) ||| a3.toInt64) σ) ?_
    refine ev_lor (v := (((((((((a0.toInt64 <<< ((7 : Int32).toInt64 &&& 63)) ||| ((a1 <<< ((1 : Int32) &&& 31)).toInt64)) ||| (0 : Int64)) <<< ((11 : Int32).toInt64 &&& 63)) ||| (sp_w_headCheck (((a0.toInt64 <<< ((7 : Int32).toInt64 &&& 63)) ||| ((a1 <<< ((1 : Int32) &&& 31)).toInt64)) ||| (0 : Int64)) σ)) <<< ((10 : Int32).toInt64 &&& 63)) ||| a3.toInt64) <<< ((24 : Int32).toInt64 &&& 63)) ||| (sp_w_wholeCheck (((((((a0.toInt64 <<< ((7 : Int32).toInt64 &&& 63)) ||| ((a1 <<< ((1 : Int32) &&& 31)).toInt64)) ||| (0 : Int64)) <<< ((11 : Int32).toInt64 &&& 63)) ||| (sp_w_headCheck (((a0.toInt64 <<< ((7 : Int32).toInt64 &&& 63)) ||| ((a1 <<< ((1 : Int32) &&& 31)).toInt64)) ||| (0 : Int64)) σ)) <<< ((10 : Int32).toInt64 &&& 63)) ||| a3.toInt64) σ))) d_46_52 rfl ?_
    exact ev_lret d_46_53 rfl
  · refine ev_iconst d_46_14 ci_1 ?_
    refine ev_goto (tgt := 19) d_46_15 rfl ?_
    refine ev_i2l (v := (1 : Int64)) d_46_19 (by decide) ?_
    refine ev_lor (v := (((a0.toInt64 <<< ((7 : Int32).toInt64 &&& 63)) ||| ((a1 <<< ((1 : Int32) &&& 31)).toInt64)) ||| (1 : Int64))) d_46_20 rfl ?_
    refine ev_lstore (lv' := [(4, .long (((a0.toInt64 <<< ((7 : Int32).toInt64 &&& 63)) ||| ((a1 <<< ((1 : Int32) &&& 31)).toInt64)) ||| (1 : Int64))), (0, .int a0), (1, .int a1), (2, .int a2), (3, .int a3)]) d_46_21 (by decide) rfl ?_
    refine ev_lload d_46_23 rfl ?_
    refine ev_bipush d_46_25 cb_11 ?_
    refine ev_lshl (v := ((((a0.toInt64 <<< ((7 : Int32).toInt64 &&& 63)) ||| ((a1 <<< ((1 : Int32) &&& 31)).toInt64)) ||| (1 : Int64)) <<< ((11 : Int32).toInt64 &&& 63))) d_46_27 rfl ?_
    refine ev_lload d_46_28 rfl ?_
    refine ev_csJ (As := [.long (((a0.toInt64 <<< ((7 : Int32).toInt64 &&& 63)) ||| ((a1 <<< ((1 : Int32) &&& 31)).toInt64)) ||| (1 : Int64))]) (t := [.long ((((a0.toInt64 <<< ((7 : Int32).toInt64 &&& 63)) ||| ((a1 <<< ((1 : Int32) &&& 31)).toInt64)) ||| (1 : Int64)) <<< ((11 : Int32).toInt64 &&& 63))]) (e' := 0) d_46_30 ml_8_11 rfl rfl rfl rfl rfl (by decide) rfl rfl (ev_w_headCheck hN (((a0.toInt64 <<< ((7 : Int32).toInt64 &&& 63)) ||| ((a1 <<< ((1 : Int32) &&& 31)).toInt64)) ||| (1 : Int64)) σ) ?_
    refine ev_lor (v := (((((a0.toInt64 <<< ((7 : Int32).toInt64 &&& 63)) ||| ((a1 <<< ((1 : Int32) &&& 31)).toInt64)) ||| (1 : Int64)) <<< ((11 : Int32).toInt64 &&& 63)) ||| (sp_w_headCheck (((a0.toInt64 <<< ((7 : Int32).toInt64 &&& 63)) ||| ((a1 <<< ((1 : Int32) &&& 31)).toInt64)) ||| (1 : Int64)) σ))) d_46_33 rfl ?_
    refine ev_bipush d_46_34 cb_10 ?_
    refine ev_lshl (v := ((((((a0.toInt64 <<< ((7 : Int32).toInt64 &&& 63)) ||| ((a1 <<< ((1 : Int32) &&& 31)).toInt64)) ||| (1 : Int64)) <<< ((11 : Int32).toInt64 &&& 63)) ||| (sp_w_headCheck (((a0.toInt64 <<< ((7 : Int32).toInt64 &&& 63)) ||| ((a1 <<< ((1 : Int32) &&& 31)).toInt64)) ||| (1 : Int64)) σ)) <<< ((10 : Int32).toInt64 &&& 63))) d_46_36 rfl ?_
    refine ev_iload_n d_46_37 rfl ?_
    refine ev_i2l (v := a3.toInt64) d_46_38 rfl ?_
    refine ev_lor (v := (((((((a0.toInt64 <<< ((7 : Int32).toInt64 &&& 63)) ||| ((a1 <<< ((1 : Int32) &&& 31)).toInt64)) ||| (1 : Int64)) <<< ((11 : Int32).toInt64 &&& 63)) ||| (sp_w_headCheck (((a0.toInt64 <<< ((7 : Int32).toInt64 &&& 63)) ||| ((a1 <<< ((1 : Int32) &&& 31)).toInt64)) ||| (1 : Int64)) σ)) <<< ((10 : Int32).toInt64 &&& 63)) ||| a3.toInt64)) d_46_39 rfl ?_
    refine ev_lstore (lv' := [(6, .long (((((((a0.toInt64 <<< ((7 : Int32).toInt64 &&& 63)) ||| ((a1 <<< ((1 : Int32) &&& 31)).toInt64)) ||| (1 : Int64)) <<< ((11 : Int32).toInt64 &&& 63)) ||| (sp_w_headCheck (((a0.toInt64 <<< ((7 : Int32).toInt64 &&& 63)) ||| ((a1 <<< ((1 : Int32) &&& 31)).toInt64)) ||| (1 : Int64)) σ)) <<< ((10 : Int32).toInt64 &&& 63)) ||| a3.toInt64)), (4, .long (((a0.toInt64 <<< ((7 : Int32).toInt64 &&& 63)) ||| ((a1 <<< ((1 : Int32) &&& 31)).toInt64)) ||| (1 : Int64))), (0, .int a0), (1, .int a1), (2, .int a2), (3, .int a3)]) d_46_40 (by decide) rfl ?_
    refine ev_lload d_46_42 rfl ?_
    refine ev_bipush d_46_44 cb_24 ?_
    refine ev_lshl (v := ((((((((a0.toInt64 <<< ((7 : Int32).toInt64 &&& 63)) ||| ((a1 <<< ((1 : Int32) &&& 31)).toInt64)) ||| (1 : Int64)) <<< ((11 : Int32).toInt64 &&& 63)) ||| (sp_w_headCheck (((a0.toInt64 <<< ((7 : Int32).toInt64 &&& 63)) ||| ((a1 <<< ((1 : Int32) &&& 31)).toInt64)) ||| (1 : Int64)) σ)) <<< ((10 : Int32).toInt64 &&& 63)) ||| a3.toInt64) <<< ((24 : Int32).toInt64 &&& 63))) d_46_46 rfl ?_
    refine ev_lload d_46_47 rfl ?_
    refine ev_csJ (As := [.long (((((((a0.toInt64 <<< ((7 : Int32).toInt64 &&& 63)) ||| ((a1 <<< ((1 : Int32) &&& 31)).toInt64)) ||| (1 : Int64)) <<< ((11 : Int32).toInt64 &&& 63)) ||| (sp_w_headCheck (((a0.toInt64 <<< ((7 : Int32).toInt64 &&& 63)) ||| ((a1 <<< ((1 : Int32) &&& 31)).toInt64)) ||| (1 : Int64)) σ)) <<< ((10 : Int32).toInt64 &&& 63)) ||| a3.toInt64)]) (t := [.long ((((((((a0.toInt64 <<< ((7 : Int32).toInt64 &&& 63)) ||| ((a1 <<< ((1 : Int32) &&& 31)).toInt64)) ||| (1 : Int64)) <<< ((11 : Int32).toInt64 &&& 63)) ||| (sp_w_headCheck (((a0.toInt64 <<< ((7 : Int32).toInt64 &&& 63)) ||| ((a1 <<< ((1 : Int32) &&& 31)).toInt64)) ||| (1 : Int64)) σ)) <<< ((10 : Int32).toInt64 &&& 63)) ||| a3.toInt64) <<< ((24 : Int32).toInt64 &&& 63))]) (e' := 0) d_46_49 ml_8_15 rfl rfl rfl rfl rfl (by decide) rfl rfl (ev_w_wholeCheck hN (((((((a0.toInt64 <<< ((7 : Int32).toInt64 &&& 63)) ||| ((a1 <<< ((1 : Int32) &&& 31)).toInt64)) ||| (1 : Int64)) <<< ((11 : Int32).toInt64 &&& 63)) ||| (sp_w_headCheck (((a0.toInt64 <<< ((7 : Int32).toInt64 &&& 63)) ||| ((a1 <<< ((1 : Int32) &&& 31)).toInt64)) ||| (1 : Int64)) σ)) <<< ((10 : Int32).toInt64 &&& 63)) ||| a3.toInt64) σ) ?_
    refine ev_lor (v := (((((((((a0.toInt64 <<< ((7 : Int32).toInt64 &&& 63)) ||| ((a1 <<< ((1 : Int32) &&& 31)).toInt64)) ||| (1 : Int64)) <<< ((11 : Int32).toInt64 &&& 63)) ||| (sp_w_headCheck (((a0.toInt64 <<< ((7 : Int32).toInt64 &&& 63)) ||| ((a1 <<< ((1 : Int32) &&& 31)).toInt64)) ||| (1 : Int64)) σ)) <<< ((10 : Int32).toInt64 &&& 63)) ||| a3.toInt64) <<< ((24 : Int32).toInt64 &&& 63)) ||| (sp_w_wholeCheck (((((((a0.toInt64 <<< ((7 : Int32).toInt64 &&& 63)) ||| ((a1 <<< ((1 : Int32) &&& 31)).toInt64)) ||| (1 : Int64)) <<< ((11 : Int32).toInt64 &&& 63)) ||| (sp_w_headCheck (((a0.toInt64 <<< ((7 : Int32).toInt64 &&& 63)) ||| ((a1 <<< ((1 : Int32) &&& 31)).toInt64)) ||| (1 : Int64)) σ)) <<< ((10 : Int32).toInt64 &&& 63)) ||| a3.toInt64) σ))) d_46_52 rfl ?_
    exact ev_lret d_46_53 rfl
def sp_w_fits (a0 : Int64) (σ : mmS) : Int32 :=
if (lg_cmp ((a0.toUInt64 >>> ((57 : Int32).toInt64.toUInt64 &&& Int64.toUInt64 63)).toInt64) (0 : Int64)) = 0 then
  (1 : Int32)
else
  (0 : Int32)
theorem ev_w_fits (hN : 65 ≤ N) (a0 : Int64) (σ : mmS) : Ev N L xs (74, 0, lv_args 0 [.long a0], [], 0, σ) ((mmPI σ) (sp_w_fits a0 σ)) := by
  unfold sp_w_fits
  show Ev N L xs (74, 0, [(0, .long a0)], [], 0, σ) _
  refine ev_lload_n d_74_0 rfl ?_
  refine ev_bipush d_74_1 cb_57 ?_
  refine ev_lushr (v := ((a0.toUInt64 >>> ((57 : Int32).toInt64.toUInt64 &&& Int64.toUInt64 63)).toInt64)) d_74_3 rfl ?_
  refine ev_lconst d_74_4 rfl ?_
  refine ev_lcmp d_74_5 ?_
  refine ev_if_ne (mmPI σ) (tgt := 13) d_74_6 rfl (fun _h6 => ?_) (fun _h6 => ?_)
  · refine ev_iconst d_74_13 ci_0 ?_
    exact ev_zret d_74_14 rfl (Or.inl rfl)
  · refine ev_iconst d_74_9 ci_1 ?_
    refine ev_goto (tgt := 14) d_74_10 rfl ?_
    exact ev_zret d_74_14 rfl (Or.inr rfl)
def sp_w_idIn (a0 : Int64) (σ : mmS) : Int32 :=
((((a0.toUInt64 >>> ((52 : Int32).toInt64.toUInt64 &&& Int64.toUInt64 63)).toInt64).toInt32) &&& (31 : Int32))
theorem ev_w_idIn (hN : 65 ≤ N) (a0 : Int64) (σ : mmS) : Ev N L xs (56, 0, lv_args 0 [.long a0], [], 0, σ) ((mmPI σ) (sp_w_idIn a0 σ)) := by
  unfold sp_w_idIn
  show Ev N L xs (56, 0, [(0, .long a0)], [], 0, σ) _
  refine ev_lload_n d_56_0 rfl ?_
  refine ev_bipush d_56_1 cb_52 ?_
  refine ev_lushr (v := ((a0.toUInt64 >>> ((52 : Int32).toInt64.toUInt64 &&& Int64.toUInt64 63)).toInt64)) d_56_3 rfl ?_
  refine ev_l2i (v := ((a0.toUInt64 >>> ((52 : Int32).toInt64.toUInt64 &&& Int64.toUInt64 63)).toInt64).toInt32) d_56_4 rfl ?_
  refine ev_bipush d_56_5 cb_31 ?_
  refine ev_iand (v := ((((a0.toUInt64 >>> ((52 : Int32).toInt64.toUInt64 &&& Int64.toUInt64 63)).toInt64).toInt32) &&& (31 : Int32))) d_56_7 rfl ?_
  exact ev_iret d_56_8 rfl
def sp_w_cycleIn (a0 : Int64) (σ : mmS) : Int32 :=
((((a0.toUInt64 >>> ((46 : Int32).toInt64.toUInt64 &&& Int64.toUInt64 63)).toInt64).toInt32) &&& (63 : Int32))
theorem ev_w_cycleIn (hN : 65 ≤ N) (a0 : Int64) (σ : mmS) : Ev N L xs (59, 0, lv_args 0 [.long a0], [], 0, σ) ((mmPI σ) (sp_w_cycleIn a0 σ)) := by
  unfold sp_w_cycleIn
  show Ev N L xs (59, 0, [(0, .long a0)], [], 0, σ) _
  refine ev_lload_n d_59_0 rfl ?_
  refine ev_bipush d_59_1 cb_46 ?_
  refine ev_lushr (v := ((a0.toUInt64 >>> ((46 : Int32).toInt64.toUInt64 &&& Int64.toUInt64 63)).toInt64)) d_59_3 rfl ?_
  refine ev_l2i (v := ((a0.toUInt64 >>> ((46 : Int32).toInt64.toUInt64 &&& Int64.toUInt64 63)).toInt64).toInt32) d_59_4 rfl ?_
  refine ev_bipush d_59_5 cb_63 ?_
  refine ev_iand (v := ((((a0.toUInt64 >>> ((46 : Int32).toInt64.toUInt64 &&& Int64.toUInt64 63)).toInt64).toInt32) &&& (63 : Int32))) d_59_7 rfl ?_
  exact ev_iret d_59_8 rfl
def sp_w_startupIn (a0 : Int64) (σ : mmS) : Int32 :=
if (lg_cmp (((a0.toUInt64 >>> ((45 : Int32).toInt64.toUInt64 &&& Int64.toUInt64 63)).toInt64) &&& (1 : Int64)) (1 : Int64)) = 0 then
  (1 : Int32)
else
  (0 : Int32)
theorem ev_w_startupIn (hN : 65 ≤ N) (a0 : Int64) (σ : mmS) : Ev N L xs (57, 0, lv_args 0 [.long a0], [], 0, σ) ((mmPI σ) (sp_w_startupIn a0 σ)) := by
  unfold sp_w_startupIn
  show Ev N L xs (57, 0, [(0, .long a0)], [], 0, σ) _
  refine ev_lload_n d_57_0 rfl ?_
  refine ev_bipush d_57_1 cb_45 ?_
  refine ev_lushr (v := ((a0.toUInt64 >>> ((45 : Int32).toInt64.toUInt64 &&& Int64.toUInt64 63)).toInt64)) d_57_3 rfl ?_
  refine ev_lconst d_57_4 rfl ?_
  refine ev_land (v := (((a0.toUInt64 >>> ((45 : Int32).toInt64.toUInt64 &&& Int64.toUInt64 63)).toInt64) &&& (1 : Int64))) d_57_5 rfl ?_
  refine ev_lconst d_57_6 rfl ?_
  refine ev_lcmp d_57_7 ?_
  refine ev_if_ne (mmPI σ) (tgt := 15) d_57_8 rfl (fun _h8 => ?_) (fun _h8 => ?_)
  · refine ev_iconst d_57_15 ci_0 ?_
    exact ev_zret d_57_16 rfl (Or.inl rfl)
  · refine ev_iconst d_57_11 ci_1 ?_
    refine ev_goto (tgt := 16) d_57_12 rfl ?_
    exact ev_zret d_57_16 rfl (Or.inr rfl)
def sp_w_valueIn (a0 : Int64) (σ : mmS) : Int32 :=
((((a0.toUInt64 >>> ((24 : Int32).toInt64.toUInt64 &&& Int64.toUInt64 63)).toInt64).toInt32) &&& (1023 : Int32))
theorem ev_w_valueIn (hN : 65 ≤ N) (a0 : Int64) (σ : mmS) : Ev N L xs (64, 0, lv_args 0 [.long a0], [], 0, σ) ((mmPI σ) (sp_w_valueIn a0 σ)) := by
  unfold sp_w_valueIn
  show Ev N L xs (64, 0, [(0, .long a0)], [], 0, σ) _
  refine ev_lload_n d_64_0 rfl ?_
  refine ev_bipush d_64_1 cb_24 ?_
  refine ev_lushr (v := ((a0.toUInt64 >>> ((24 : Int32).toInt64.toUInt64 &&& Int64.toUInt64 63)).toInt64)) d_64_3 rfl ?_
  refine ev_l2i (v := ((a0.toUInt64 >>> ((24 : Int32).toInt64.toUInt64 &&& Int64.toUInt64 63)).toInt64).toInt32) d_64_4 rfl ?_
  refine ev_sipush d_64_5 cs_1023 ?_
  refine ev_iand (v := ((((a0.toUInt64 >>> ((24 : Int32).toInt64.toUInt64 &&& Int64.toUInt64 63)).toInt64).toInt32) &&& (1023 : Int32))) d_64_8 rfl ?_
  exact ev_iret d_64_9 rfl
def sp_w_isHeadRight (a0 : Int64) (σ : mmS) : Int32 :=
if (lg_cmp (sp_w_headCheck ((a0.toUInt64 >>> ((45 : Int32).toInt64.toUInt64 &&& Int64.toUInt64 63)).toInt64) σ) (((a0.toUInt64 >>> ((34 : Int32).toInt64.toUInt64 &&& Int64.toUInt64 63)).toInt64) &&& (2047 : Int64))) = 0 then
  (1 : Int32)
else
  (0 : Int32)
theorem ev_w_isHeadRight (hN : 65 ≤ N) (a0 : Int64) (σ : mmS) : Ev N L xs (54, 0, lv_args 0 [.long a0], [], 0, σ) ((mmPI σ) (sp_w_isHeadRight a0 σ)) := by
  unfold sp_w_isHeadRight
  show Ev N L xs (54, 0, [(0, .long a0)], [], 0, σ) _
  refine ev_lload_n d_54_0 rfl ?_
  refine ev_bipush d_54_1 cb_45 ?_
  refine ev_lushr (v := ((a0.toUInt64 >>> ((45 : Int32).toInt64.toUInt64 &&& Int64.toUInt64 63)).toInt64)) d_54_3 rfl ?_
  refine ev_csJ (As := [.long ((a0.toUInt64 >>> ((45 : Int32).toInt64.toUInt64 &&& Int64.toUInt64 63)).toInt64)]) (t := []) (e' := 0) d_54_4 ml_8_11 rfl rfl rfl rfl rfl (by decide) rfl rfl (ev_w_headCheck hN ((a0.toUInt64 >>> ((45 : Int32).toInt64.toUInt64 &&& Int64.toUInt64 63)).toInt64) σ) ?_
  refine ev_lload_n d_54_7 rfl ?_
  refine ev_bipush d_54_8 cb_34 ?_
  refine ev_lushr (v := ((a0.toUInt64 >>> ((34 : Int32).toInt64.toUInt64 &&& Int64.toUInt64 63)).toInt64)) d_54_10 rfl ?_
  refine ev_ldc2 d_54_11 kl_8_18 ?_
  refine ev_land (v := (((a0.toUInt64 >>> ((34 : Int32).toInt64.toUInt64 &&& Int64.toUInt64 63)).toInt64) &&& (2047 : Int64))) d_54_14 rfl ?_
  refine ev_lcmp d_54_15 ?_
  refine ev_if_ne (mmPI σ) (tgt := 23) d_54_16 rfl (fun _h16 => ?_) (fun _h16 => ?_)
  · refine ev_iconst d_54_23 ci_0 ?_
    exact ev_zret d_54_24 rfl (Or.inl rfl)
  · refine ev_iconst d_54_19 ci_1 ?_
    refine ev_goto (tgt := 24) d_54_20 rfl ?_
    exact ev_zret d_54_24 rfl (Or.inr rfl)
def sp_w_isWholeRight (a0 : Int64) (σ : mmS) : Int32 :=
if (lg_cmp (sp_w_wholeCheck ((a0.toUInt64 >>> ((24 : Int32).toInt64.toUInt64 &&& Int64.toUInt64 63)).toInt64) σ) (a0 &&& (16777215 : Int64))) = 0 then
  (1 : Int32)
else
  (0 : Int32)
theorem ev_w_isWholeRight (hN : 65 ≤ N) (a0 : Int64) (σ : mmS) : Ev N L xs (55, 0, lv_args 0 [.long a0], [], 0, σ) ((mmPI σ) (sp_w_isWholeRight a0 σ)) := by
  unfold sp_w_isWholeRight
  show Ev N L xs (55, 0, [(0, .long a0)], [], 0, σ) _
  refine ev_lload_n d_55_0 rfl ?_
  refine ev_bipush d_55_1 cb_24 ?_
  refine ev_lushr (v := ((a0.toUInt64 >>> ((24 : Int32).toInt64.toUInt64 &&& Int64.toUInt64 63)).toInt64)) d_55_3 rfl ?_
  refine ev_csJ (As := [.long ((a0.toUInt64 >>> ((24 : Int32).toInt64.toUInt64 &&& Int64.toUInt64 63)).toInt64)]) (t := []) (e' := 0) d_55_4 ml_8_15 rfl rfl rfl rfl rfl (by decide) rfl rfl (ev_w_wholeCheck hN ((a0.toUInt64 >>> ((24 : Int32).toInt64.toUInt64 &&& Int64.toUInt64 63)).toInt64) σ) ?_
  refine ev_lload_n d_55_7 rfl ?_
  refine ev_ldc2 d_55_8 kl_8_20 ?_
  refine ev_land (v := (a0 &&& (16777215 : Int64))) d_55_11 rfl ?_
  refine ev_lcmp d_55_12 ?_
  refine ev_if_ne (mmPI σ) (tgt := 20) d_55_13 rfl (fun _h13 => ?_) (fun _h13 => ?_)
  · refine ev_iconst d_55_20 ci_0 ?_
    exact ev_zret d_55_21 rfl (Or.inl rfl)
  · refine ev_iconst d_55_16 ci_1 ?_
    refine ev_goto (tgt := 21) d_55_17 rfl ?_
    exact ev_zret d_55_21 rfl (Or.inr rfl)
def kx (m n : Nat) : Int32 := Int32.ofInt ((m : Int) + 1 - (n : Int))
theorem kx_all : ∀ m, m < 40 → ∀ n, n < m → ¬ Int32.ofNat m < kx m (n + 1) ∧ kx m (n + 1) + Int32.ofInt 1 = kx m n ∧ Int32.ofNat n = Int32.ofNat m - kx m (n + 1) := by decide +kernel
theorem kx_0 : ∀ m, m < 40 → Int32.ofNat m < kx m 0 := by decide +kernel
def ckM (front : Int64) (m : Nat) (by_ top : Int32) : Nat → Int32 → Int32
  | 0, r => r
  | n + 1, r =>
    if (lg_cmp ((front >>> ((Int32.ofNat n).toInt64 &&& 63)) &&& (1 : Int64)) (1 : Int64)) = 0 then
      if (r &&& top) = 0 then
        (ckM front m by_ top n (((r &&& (top - (1 : Int32))) * (2 : Int32)) ^^^ by_))
      else
        (ckM front m by_ top n ((r &&& (top - (1 : Int32))) * (2 : Int32)))
    else
      if (r &&& top) = 0 then
        (ckM front m by_ top n ((r &&& (top - (1 : Int32))) * (2 : Int32)))
      else
        (ckM front m by_ top n (((r &&& (top - (1 : Int32))) * (2 : Int32)) ^^^ by_))
theorem ev_cm14 (front : Int64) (m : Nat) (hm : m < 40) (by_ top : Int32) : ∀ n, n ≤ m → ∀ (r : Int32) (σ : mmS), Ev N L xs (112, 14, [(0, .long front), (2, .int (Int32.ofNat m)), (5, .int by_), (6, .int top), (7, .int r), (8, .int (kx m n))], [], 0, σ) (mmPI σ (ckM front m by_ top n r))
  | 0, _, r, σ => by
    refine ev_iload d_112_14 rfl ?_
    refine ev_iload_n d_112_16 rfl ?_
    refine ev_icmpT (tgt := 86) d_112_17 rfl (show Int32.ofNat m < kx m 0 from kx_0 m hm) ?_
    refine ev_iload d_112_86 rfl ?_
    exact ev_iret d_112_88 rfl
  | n + 1, hn, r, σ => by
    unfold ckM
    refine ev_iload d_112_14 rfl ?_
    refine ev_iload_n d_112_16 rfl ?_
    refine ev_icmpF (tgt := 86) d_112_17 rfl (show ¬ (Int32.ofNat m) < (kx m (n + 1)) from (kx_all m hm n (by omega)).1) ?_
    refine ev_lload_n d_112_20 rfl ?_
    refine ev_iload_n d_112_21 rfl ?_
    refine ev_iload d_112_22 rfl ?_
    refine ev_isub (v := (Int32.ofNat n)) d_112_24 (kx_all m hm n (by omega)).2.2 ?_
    refine ev_lshr (v := (front >>> ((Int32.ofNat n).toInt64 &&& 63))) d_112_25 rfl ?_
    refine ev_lconst d_112_26 rfl ?_
    refine ev_land (v := ((front >>> ((Int32.ofNat n).toInt64 &&& 63)) &&& (1 : Int64))) d_112_27 rfl ?_
    refine ev_lconst d_112_28 rfl ?_
    refine ev_lcmp d_112_29 ?_
    refine ev_if_ne (mmPI σ) (tgt := 37) d_112_30 rfl (fun _h30 => ?_) (fun _h30 => ?_)
    · refine ev_iconst d_112_37 ci_0 ?_
      refine ev_istore (lv' := [(9, .int (0 : Int32)), (0, .long front), (2, .int (Int32.ofNat m)), (5, .int by_), (6, .int top), (7, .int r), (8, .int (kx m (n + 1)))]) d_112_38 (by decide) rfl ?_
      refine ev_iload d_112_40 rfl ?_
      refine ev_iload d_112_42 rfl ?_
      refine ev_iand (v := (r &&& top)) d_112_44 rfl ?_
      refine ev_if_eq (mmPI σ) (tgt := 52) d_112_45 rfl (fun _h45 => ?_) (fun _h45 => ?_)
      · refine ev_iconst d_112_52 ci_0 ?_
        refine ev_istore (lv' := [(10, .int (0 : Int32)), (9, .int (0 : Int32)), (0, .long front), (2, .int (Int32.ofNat m)), (5, .int by_), (6, .int top), (7, .int r), (8, .int (kx m (n + 1)))]) d_112_53 (by decide) rfl ?_
        refine ev_iload d_112_55 rfl ?_
        refine ev_iload d_112_57 rfl ?_
        refine ev_iconst d_112_59 ci_1 ?_
        refine ev_isub (v := (top - (1 : Int32))) d_112_60 rfl ?_
        refine ev_iand (v := (r &&& (top - (1 : Int32)))) d_112_61 rfl ?_
        refine ev_iconst d_112_62 ci_2 ?_
        refine ev_imul (v := ((r &&& (top - (1 : Int32))) * (2 : Int32))) d_112_63 rfl ?_
        refine ev_istore (lv' := [(7, .int ((r &&& (top - (1 : Int32))) * (2 : Int32))), (10, .int (0 : Int32)), (9, .int (0 : Int32)), (0, .long front), (2, .int (Int32.ofNat m)), (5, .int by_), (6, .int top), (8, .int (kx m (n + 1)))]) d_112_64 (by decide) rfl ?_
        refine ev_iload d_112_66 rfl ?_
        refine ev_iload d_112_68 rfl ?_
        refine ev_icmpT (tgt := 80) d_112_70 rfl (show (0 : Int32) = (0 : Int32) by decide) ?_
        refine ev_iinc (lv' := [(8, .int (kx m n)), (7, .int ((r &&& (top - (1 : Int32))) * (2 : Int32))), (10, .int (0 : Int32)), (9, .int (0 : Int32)), (0, .long front), (2, .int (Int32.ofNat m)), (5, .int by_), (6, .int top)]) (v := (kx m n)) d_112_80 rfl (kx_all m hm n (by omega)).2.1 (by decide) rfl ?_
        refine ev_goto (tgt := 14) d_112_83 rfl ?_
        refine ev_sub (lv' := [(0, .long front), (2, .int (Int32.ofNat m)), (5, .int by_), (6, .int top), (7, .int ((r &&& (top - (1 : Int32))) * (2 : Int32))), (8, .int (kx m n))]) (by simp) ?_
        exact ev_cm14 front m hm by_ top n (by omega) _ _
      · refine ev_iconst d_112_48 ci_1 ?_
        refine ev_goto (tgt := 53) d_112_49 rfl ?_
        refine ev_istore (lv' := [(10, .int (1 : Int32)), (9, .int (0 : Int32)), (0, .long front), (2, .int (Int32.ofNat m)), (5, .int by_), (6, .int top), (7, .int r), (8, .int (kx m (n + 1)))]) d_112_53 (by decide) rfl ?_
        refine ev_iload d_112_55 rfl ?_
        refine ev_iload d_112_57 rfl ?_
        refine ev_iconst d_112_59 ci_1 ?_
        refine ev_isub (v := (top - (1 : Int32))) d_112_60 rfl ?_
        refine ev_iand (v := (r &&& (top - (1 : Int32)))) d_112_61 rfl ?_
        refine ev_iconst d_112_62 ci_2 ?_
        refine ev_imul (v := ((r &&& (top - (1 : Int32))) * (2 : Int32))) d_112_63 rfl ?_
        refine ev_istore (lv' := [(7, .int ((r &&& (top - (1 : Int32))) * (2 : Int32))), (10, .int (1 : Int32)), (9, .int (0 : Int32)), (0, .long front), (2, .int (Int32.ofNat m)), (5, .int by_), (6, .int top), (8, .int (kx m (n + 1)))]) d_112_64 (by decide) rfl ?_
        refine ev_iload d_112_66 rfl ?_
        refine ev_iload d_112_68 rfl ?_
        refine ev_icmpF (tgt := 80) d_112_70 rfl (show ¬ ((0 : Int32) = (1 : Int32)) by decide) ?_
        refine ev_iload d_112_73 rfl ?_
        refine ev_iload d_112_75 rfl ?_
        refine ev_ixor (v := (((r &&& (top - (1 : Int32))) * (2 : Int32)) ^^^ by_)) d_112_77 rfl ?_
        refine ev_istore (lv' := [(7, .int (((r &&& (top - (1 : Int32))) * (2 : Int32)) ^^^ by_)), (10, .int (1 : Int32)), (9, .int (0 : Int32)), (0, .long front), (2, .int (Int32.ofNat m)), (5, .int by_), (6, .int top), (8, .int (kx m (n + 1)))]) d_112_78 (by decide) rfl ?_
        refine ev_iinc (lv' := [(8, .int (kx m n)), (7, .int (((r &&& (top - (1 : Int32))) * (2 : Int32)) ^^^ by_)), (10, .int (1 : Int32)), (9, .int (0 : Int32)), (0, .long front), (2, .int (Int32.ofNat m)), (5, .int by_), (6, .int top)]) (v := (kx m n)) d_112_80 rfl (kx_all m hm n (by omega)).2.1 (by decide) rfl ?_
        refine ev_goto (tgt := 14) d_112_83 rfl ?_
        refine ev_sub (lv' := [(0, .long front), (2, .int (Int32.ofNat m)), (5, .int by_), (6, .int top), (7, .int (((r &&& (top - (1 : Int32))) * (2 : Int32)) ^^^ by_)), (8, .int (kx m n))]) (by simp) ?_
        exact ev_cm14 front m hm by_ top n (by omega) _ _
    · refine ev_iconst d_112_33 ci_1 ?_
      refine ev_goto (tgt := 38) d_112_34 rfl ?_
      refine ev_istore (lv' := [(9, .int (1 : Int32)), (0, .long front), (2, .int (Int32.ofNat m)), (5, .int by_), (6, .int top), (7, .int r), (8, .int (kx m (n + 1)))]) d_112_38 (by decide) rfl ?_
      refine ev_iload d_112_40 rfl ?_
      refine ev_iload d_112_42 rfl ?_
      refine ev_iand (v := (r &&& top)) d_112_44 rfl ?_
      refine ev_if_eq (mmPI σ) (tgt := 52) d_112_45 rfl (fun _h45 => ?_) (fun _h45 => ?_)
      · refine ev_iconst d_112_52 ci_0 ?_
        refine ev_istore (lv' := [(10, .int (0 : Int32)), (9, .int (1 : Int32)), (0, .long front), (2, .int (Int32.ofNat m)), (5, .int by_), (6, .int top), (7, .int r), (8, .int (kx m (n + 1)))]) d_112_53 (by decide) rfl ?_
        refine ev_iload d_112_55 rfl ?_
        refine ev_iload d_112_57 rfl ?_
        refine ev_iconst d_112_59 ci_1 ?_
        refine ev_isub (v := (top - (1 : Int32))) d_112_60 rfl ?_
        refine ev_iand (v := (r &&& (top - (1 : Int32)))) d_112_61 rfl ?_
        refine ev_iconst d_112_62 ci_2 ?_
        refine ev_imul (v := ((r &&& (top - (1 : Int32))) * (2 : Int32))) d_112_63 rfl ?_
        refine ev_istore (lv' := [(7, .int ((r &&& (top - (1 : Int32))) * (2 : Int32))), (10, .int (0 : Int32)), (9, .int (1 : Int32)), (0, .long front), (2, .int (Int32.ofNat m)), (5, .int by_), (6, .int top), (8, .int (kx m (n + 1)))]) d_112_64 (by decide) rfl ?_
        refine ev_iload d_112_66 rfl ?_
        refine ev_iload d_112_68 rfl ?_
        refine ev_icmpF (tgt := 80) d_112_70 rfl (show ¬ ((1 : Int32) = (0 : Int32)) by decide) ?_
        refine ev_iload d_112_73 rfl ?_
        refine ev_iload d_112_75 rfl ?_
        refine ev_ixor (v := (((r &&& (top - (1 : Int32))) * (2 : Int32)) ^^^ by_)) d_112_77 rfl ?_
        refine ev_istore (lv' := [(7, .int (((r &&& (top - (1 : Int32))) * (2 : Int32)) ^^^ by_)), (10, .int (0 : Int32)), (9, .int (1 : Int32)), (0, .long front), (2, .int (Int32.ofNat m)), (5, .int by_), (6, .int top), (8, .int (kx m (n + 1)))]) d_112_78 (by decide) rfl ?_
        refine ev_iinc (lv' := [(8, .int (kx m n)), (7, .int (((r &&& (top - (1 : Int32))) * (2 : Int32)) ^^^ by_)), (10, .int (0 : Int32)), (9, .int (1 : Int32)), (0, .long front), (2, .int (Int32.ofNat m)), (5, .int by_), (6, .int top)]) (v := (kx m n)) d_112_80 rfl (kx_all m hm n (by omega)).2.1 (by decide) rfl ?_
        refine ev_goto (tgt := 14) d_112_83 rfl ?_
        refine ev_sub (lv' := [(0, .long front), (2, .int (Int32.ofNat m)), (5, .int by_), (6, .int top), (7, .int (((r &&& (top - (1 : Int32))) * (2 : Int32)) ^^^ by_)), (8, .int (kx m n))]) (by simp) ?_
        exact ev_cm14 front m hm by_ top n (by omega) _ _
      · refine ev_iconst d_112_48 ci_1 ?_
        refine ev_goto (tgt := 53) d_112_49 rfl ?_
        refine ev_istore (lv' := [(10, .int (1 : Int32)), (9, .int (1 : Int32)), (0, .long front), (2, .int (Int32.ofNat m)), (5, .int by_), (6, .int top), (7, .int r), (8, .int (kx m (n + 1)))]) d_112_53 (by decide) rfl ?_
        refine ev_iload d_112_55 rfl ?_
        refine ev_iload d_112_57 rfl ?_
        refine ev_iconst d_112_59 ci_1 ?_
        refine ev_isub (v := (top - (1 : Int32))) d_112_60 rfl ?_
        refine ev_iand (v := (r &&& (top - (1 : Int32)))) d_112_61 rfl ?_
        refine ev_iconst d_112_62 ci_2 ?_
        refine ev_imul (v := ((r &&& (top - (1 : Int32))) * (2 : Int32))) d_112_63 rfl ?_
        refine ev_istore (lv' := [(7, .int ((r &&& (top - (1 : Int32))) * (2 : Int32))), (10, .int (1 : Int32)), (9, .int (1 : Int32)), (0, .long front), (2, .int (Int32.ofNat m)), (5, .int by_), (6, .int top), (8, .int (kx m (n + 1)))]) d_112_64 (by decide) rfl ?_
        refine ev_iload d_112_66 rfl ?_
        refine ev_iload d_112_68 rfl ?_
        refine ev_icmpT (tgt := 80) d_112_70 rfl (show (1 : Int32) = (1 : Int32) by decide) ?_
        refine ev_iinc (lv' := [(8, .int (kx m n)), (7, .int ((r &&& (top - (1 : Int32))) * (2 : Int32))), (10, .int (1 : Int32)), (9, .int (1 : Int32)), (0, .long front), (2, .int (Int32.ofNat m)), (5, .int by_), (6, .int top)]) (v := (kx m n)) d_112_80 rfl (kx_all m hm n (by omega)).2.1 (by decide) rfl ?_
        refine ev_goto (tgt := 14) d_112_83 rfl ?_
        refine ev_sub (lv' := [(0, .long front), (2, .int (Int32.ofNat m)), (5, .int by_), (6, .int top), (7, .int ((r &&& (top - (1 : Int32))) * (2 : Int32))), (8, .int (kx m n))]) (by simp) ?_
        exact ev_cm14 front m hm by_ top n (by omega) _ _
def sp_m_check12 (a0 : Int64) (σ : mmS) : Int32 :=
(ckM a0 12 (901 : Int32) (1024 : Int32) 12 (26 : Int32))
theorem ev_m_check12 (hN : 65 ≤ N) (a0 : Int64) (σ : mmS) : Ev N L xs (112, 0, lv_args 0 [.long a0, .int (12 : Int32), .int (11 : Int32), .int (26 : Int32), .int (901 : Int32)], [], 0, σ) ((mmPI σ) (sp_m_check12 a0 σ)) := by
  unfold sp_m_check12
  show Ev N L xs (112, 0, [(0, .long a0), (2, .int (12 : Int32)), (3, .int (11 : Int32)), (4, .int (26 : Int32)), (5, .int (901 : Int32))], [], 0, σ) _
  refine ev_iconst d_112_0 ci_1 ?_
  refine ev_iload_n d_112_1 rfl ?_
  refine ev_iconst d_112_2 ci_1 ?_
  refine ev_isub (v := (10 : Int32)) d_112_3 (by decide) ?_
  refine ev_ishl (v := (1024 : Int32)) d_112_4 (by decide) ?_
  refine ev_istore (lv' := [(6, .int (1024 : Int32)), (0, .long a0), (2, .int (12 : Int32)), (3, .int (11 : Int32)), (4, .int (26 : Int32)), (5, .int (901 : Int32))]) d_112_5 (by decide) rfl ?_
  refine ev_iload d_112_7 rfl ?_
  refine ev_istore (lv' := [(7, .int (26 : Int32)), (6, .int (1024 : Int32)), (0, .long a0), (2, .int (12 : Int32)), (3, .int (11 : Int32)), (4, .int (26 : Int32)), (5, .int (901 : Int32))]) d_112_9 (by decide) rfl ?_
  refine ev_iconst d_112_11 ci_1 ?_
  refine ev_istore (lv' := [(8, .int (1 : Int32)), (7, .int (26 : Int32)), (6, .int (1024 : Int32)), (0, .long a0), (2, .int (12 : Int32)), (3, .int (11 : Int32)), (4, .int (26 : Int32)), (5, .int (901 : Int32))]) d_112_12 (by decide) rfl ?_
  refine ev_sub (lv' := [(0, .long a0), (2, .int (12 : Int32)), (5, .int (901 : Int32)), (6, .int (1024 : Int32)), (7, .int (26 : Int32)), (8, .int (1 : Int32))]) (by simp) ?_
  have h9 := ev_cm14 (N := N) (L := L) (xs := xs) a0 12 (by decide) (901 : Int32) (1024 : Int32) 12 (by decide) (26 : Int32) σ
  rw [show kx 12 12 = (1 : Int32) by decide] at h9
  exact h9
def sp_m_check33 (a0 : Int64) (σ : mmS) : Int32 :=
(ckM a0 33 (6122955 : Int32) (8388608 : Int32) 33 (16702650 : Int32))
theorem ev_m_check33 (hN : 65 ≤ N) (a0 : Int64) (σ : mmS) : Ev N L xs (112, 0, lv_args 0 [.long a0, .int (33 : Int32), .int (24 : Int32), .int (16702650 : Int32), .int (6122955 : Int32)], [], 0, σ) ((mmPI σ) (sp_m_check33 a0 σ)) := by
  unfold sp_m_check33
  show Ev N L xs (112, 0, [(0, .long a0), (2, .int (33 : Int32)), (3, .int (24 : Int32)), (4, .int (16702650 : Int32)), (5, .int (6122955 : Int32))], [], 0, σ) _
  refine ev_iconst d_112_0 ci_1 ?_
  refine ev_iload_n d_112_1 rfl ?_
  refine ev_iconst d_112_2 ci_1 ?_
  refine ev_isub (v := (23 : Int32)) d_112_3 (by decide) ?_
  refine ev_ishl (v := (8388608 : Int32)) d_112_4 (by decide) ?_
  refine ev_istore (lv' := [(6, .int (8388608 : Int32)), (0, .long a0), (2, .int (33 : Int32)), (3, .int (24 : Int32)), (4, .int (16702650 : Int32)), (5, .int (6122955 : Int32))]) d_112_5 (by decide) rfl ?_
  refine ev_iload d_112_7 rfl ?_
  refine ev_istore (lv' := [(7, .int (16702650 : Int32)), (6, .int (8388608 : Int32)), (0, .long a0), (2, .int (33 : Int32)), (3, .int (24 : Int32)), (4, .int (16702650 : Int32)), (5, .int (6122955 : Int32))]) d_112_9 (by decide) rfl ?_
  refine ev_iconst d_112_11 ci_1 ?_
  refine ev_istore (lv' := [(8, .int (1 : Int32)), (7, .int (16702650 : Int32)), (6, .int (8388608 : Int32)), (0, .long a0), (2, .int (33 : Int32)), (3, .int (24 : Int32)), (4, .int (16702650 : Int32)), (5, .int (6122955 : Int32))]) d_112_12 (by decide) rfl ?_
  refine ev_sub (lv' := [(0, .long a0), (2, .int (33 : Int32)), (5, .int (6122955 : Int32)), (6, .int (8388608 : Int32)), (7, .int (16702650 : Int32)), (8, .int (1 : Int32))]) (by simp) ?_
  have h9 := ev_cm14 (N := N) (L := L) (xs := xs) a0 33 (by decide) (6122955 : Int32) (8388608 : Int32) 33 (by decide) (16702650 : Int32) σ
  rw [show kx 33 33 = (1 : Int32) by decide] at h9
  exact h9
def sp_m_wordOf (a0 : Int32) (a1 : Int32) (a2 : Int32) (a3 : Int32) (σ : mmS) : Int64 :=
(((((((((a0.toInt64 * (128 : Int64)) + (a1.toInt64 * (2 : Int64))) + a2.toInt64) * (2048 : Int64)) + ((sp_m_check12 (((a0.toInt64 * (128 : Int64)) + (a1.toInt64 * (2 : Int64))) + a2.toInt64) σ).toInt64)) * (1024 : Int64)) + a3.toInt64) * (16777216 : Int64)) + ((sp_m_check33 (((((((a0.toInt64 * (128 : Int64)) + (a1.toInt64 * (2 : Int64))) + a2.toInt64) * (2048 : Int64)) + ((sp_m_check12 (((a0.toInt64 * (128 : Int64)) + (a1.toInt64 * (2 : Int64))) + a2.toInt64) σ).toInt64)) * (1024 : Int64)) + a3.toInt64) σ).toInt64))
theorem ev_m_wordOf (hN : 65 ≤ N) (a0 : Int32) (a1 : Int32) (a2 : Int32) (a3 : Int32) (σ : mmS) : Ev N L xs (111, 0, lv_args 0 [.int a0, .int a1, .int a2, .int a3], [], 0, σ) ((mmPJ σ) (sp_m_wordOf a0 a1 a2 a3 σ)) := by
  unfold sp_m_wordOf
  show Ev N L xs (111, 0, [(0, .int a0), (1, .int a1), (2, .int a2), (3, .int a3)], [], 0, σ) _
  refine ev_iload_n d_111_0 rfl ?_
  refine ev_i2l (v := a0.toInt64) d_111_1 rfl ?_
  refine ev_ldc2 d_111_2 kl_7_85 ?_
  refine ev_lmul (v := (a0.toInt64 * (128 : Int64))) d_111_5 rfl ?_
  refine ev_iload_n d_111_6 rfl ?_
  refine ev_i2l (v := a1.toInt64) d_111_7 rfl ?_
  refine ev_ldc2 d_111_8 kl_7_87 ?_
  refine ev_lmul (v := (a1.toInt64 * (2 : Int64))) d_111_11 rfl ?_
  refine ev_ladd (v := ((a0.toInt64 * (128 : Int64)) + (a1.toInt64 * (2 : Int64)))) d_111_12 rfl ?_
  refine ev_iload_n d_111_13 rfl ?_
  refine ev_i2l (v := a2.toInt64) d_111_14 rfl ?_
  refine ev_ladd (v := (((a0.toInt64 * (128 : Int64)) + (a1.toInt64 * (2 : Int64))) + a2.toInt64)) d_111_15 rfl ?_
  refine ev_lstore (lv' := [(4, .long (((a0.toInt64 * (128 : Int64)) + (a1.toInt64 * (2 : Int64))) + a2.toInt64)), (0, .int a0), (1, .int a1), (2, .int a2), (3, .int a3)]) d_111_16 (by decide) rfl ?_
  refine ev_lload d_111_18 rfl ?_
  refine ev_ldc2 d_111_20 kl_7_89 ?_
  refine ev_lmul (v := ((((a0.toInt64 * (128 : Int64)) + (a1.toInt64 * (2 : Int64))) + a2.toInt64) * (2048 : Int64))) d_111_23 rfl ?_
  refine ev_lload d_111_24 rfl ?_
  refine ev_bipush d_111_26 cb_12 ?_
  refine ev_bipush d_111_28 cb_11 ?_
  refine ev_bipush d_111_30 cb_26 ?_
  refine ev_sipush d_111_32 cs_901 ?_
  refine ev_csI (As := [.long (((a0.toInt64 * (128 : Int64)) + (a1.toInt64 * (2 : Int64))) + a2.toInt64), .int (12 : Int32), .int (11 : Int32), .int (26 : Int32), .int (901 : Int32)]) (t := [.long ((((a0.toInt64 * (128 : Int64)) + (a1.toInt64 * (2 : Int64))) + a2.toInt64) * (2048 : Int64))]) (e' := 0) d_111_35 ml_7_91 rfl rfl rfl rfl rfl (by decide) rfl rfl (ev_m_check12 hN (((a0.toInt64 * (128 : Int64)) + (a1.toInt64 * (2 : Int64))) + a2.toInt64) σ) ?_
  refine ev_i2l (v := (sp_m_check12 (((a0.toInt64 * (128 : Int64)) + (a1.toInt64 * (2 : Int64))) + a2.toInt64) σ).toInt64) d_111_38 rfl ?_
  refine ev_ladd (v := (((((a0.toInt64 * (128 : Int64)) + (a1.toInt64 * (2 : Int64))) + a2.toInt64) * (2048 : Int64)) + ((sp_m_check12 (((a0.toInt64 * (128 : Int64)) + (a1.toInt64 * (2 : Int64))) + a2.toInt64) σ).toInt64))) d_111_39 rfl ?_
  refine ev_ldc2 d_111_40 kl_7_95 ?_
  refine ev_lmul (v := ((((((a0.toInt64 * (128 : Int64)) + (a1.toInt64 * (2 : Int64))) + a2.toInt64) * (2048 : Int64)) + ((sp_m_check12 (((a0.toInt64 * (128 : Int64)) + (a1.toInt64 * (2 : Int64))) + a2.toInt64) σ).toInt64)) * (1024 : Int64))) d_111_43 rfl ?_
  refine ev_iload_n d_111_44 rfl ?_
  refine ev_i2l (v := a3.toInt64) d_111_45 rfl ?_
  refine ev_ladd (v := (((((((a0.toInt64 * (128 : Int64)) + (a1.toInt64 * (2 : Int64))) + a2.toInt64) * (2048 : Int64)) + ((sp_m_check12 (((a0.toInt64 * (128 : Int64)) + (a1.toInt64 * (2 : Int64))) + a2.toInt64) σ).toInt64)) * (1024 : Int64)) + a3.toInt64)) d_111_46 rfl ?_
  refine ev_lstore (lv' := [(6, .long (((((((a0.toInt64 * (128 : Int64)) + (a1.toInt64 * (2 : Int64))) + a2.toInt64) * (2048 : Int64)) + ((sp_m_check12 (((a0.toInt64 * (128 : Int64)) + (a1.toInt64 * (2 : Int64))) + a2.toInt64) σ).toInt64)) * (1024 : Int64)) + a3.toInt64)), (4, .long (((a0.toInt64 * (128 : Int64)) + (a1.toInt64 * (2 : Int64))) + a2.toInt64)), (0, .int a0), (1, .int a1), (2, .int a2), (3, .int a3)]) d_111_47 (by decide) rfl ?_
  refine ev_lload d_111_49 rfl ?_
  refine ev_ldc2 d_111_51 kl_7_97 ?_
  refine ev_lmul (v := ((((((((a0.toInt64 * (128 : Int64)) + (a1.toInt64 * (2 : Int64))) + a2.toInt64) * (2048 : Int64)) + ((sp_m_check12 (((a0.toInt64 * (128 : Int64)) + (a1.toInt64 * (2 : Int64))) + a2.toInt64) σ).toInt64)) * (1024 : Int64)) + a3.toInt64) * (16777216 : Int64))) d_111_54 rfl ?_
  refine ev_lload d_111_55 rfl ?_
  refine ev_bipush d_111_57 cb_33 ?_
  refine ev_bipush d_111_59 cb_24 ?_
  refine ev_ldc d_111_61 ki_7_99 ?_
  refine ev_ldc d_111_63 ki_7_100 ?_
  refine ev_csI (As := [.long (((((((a0.toInt64 * (128 : Int64)) + (a1.toInt64 * (2 : Int64))) + a2.toInt64) * (2048 : Int64)) + ((sp_m_check12 (((a0.toInt64 * (128 : Int64)) + (a1.toInt64 * (2 : Int64))) + a2.toInt64) σ).toInt64)) * (1024 : Int64)) + a3.toInt64), .int (33 : Int32), .int (24 : Int32), .int (16702650 : Int32), .int (6122955 : Int32)]) (t := [.long ((((((((a0.toInt64 * (128 : Int64)) + (a1.toInt64 * (2 : Int64))) + a2.toInt64) * (2048 : Int64)) + ((sp_m_check12 (((a0.toInt64 * (128 : Int64)) + (a1.toInt64 * (2 : Int64))) + a2.toInt64) σ).toInt64)) * (1024 : Int64)) + a3.toInt64) * (16777216 : Int64))]) (e' := 0) d_111_65 ml_7_91 rfl rfl rfl rfl rfl (by decide) rfl rfl (ev_m_check33 hN (((((((a0.toInt64 * (128 : Int64)) + (a1.toInt64 * (2 : Int64))) + a2.toInt64) * (2048 : Int64)) + ((sp_m_check12 (((a0.toInt64 * (128 : Int64)) + (a1.toInt64 * (2 : Int64))) + a2.toInt64) σ).toInt64)) * (1024 : Int64)) + a3.toInt64) σ) ?_
  refine ev_i2l (v := (sp_m_check33 (((((((a0.toInt64 * (128 : Int64)) + (a1.toInt64 * (2 : Int64))) + a2.toInt64) * (2048 : Int64)) + ((sp_m_check12 (((a0.toInt64 * (128 : Int64)) + (a1.toInt64 * (2 : Int64))) + a2.toInt64) σ).toInt64)) * (1024 : Int64)) + a3.toInt64) σ).toInt64) d_111_68 rfl ?_
  refine ev_ladd (v := (((((((((a0.toInt64 * (128 : Int64)) + (a1.toInt64 * (2 : Int64))) + a2.toInt64) * (2048 : Int64)) + ((sp_m_check12 (((a0.toInt64 * (128 : Int64)) + (a1.toInt64 * (2 : Int64))) + a2.toInt64) σ).toInt64)) * (1024 : Int64)) + a3.toInt64) * (16777216 : Int64)) + ((sp_m_check33 (((((((a0.toInt64 * (128 : Int64)) + (a1.toInt64 * (2 : Int64))) + a2.toInt64) * (2048 : Int64)) + ((sp_m_check12 (((a0.toInt64 * (128 : Int64)) + (a1.toInt64 * (2 : Int64))) + a2.toInt64) σ).toInt64)) * (1024 : Int64)) + a3.toInt64) σ).toInt64))) d_111_69 rfl ?_
  exact ev_lret d_111_70 rfl
def sp_m_idOf (a0 : Int64) (σ : mmS) : Int32 :=
((a0 >>> ((52 : Int32).toInt64 &&& 63)) &&& (31 : Int64)).toInt32
theorem ev_m_idOf (hN : 65 ≤ N) (a0 : Int64) (σ : mmS) : Ev N L xs (114, 0, lv_args 0 [.long a0], [], 0, σ) ((mmPI σ) (sp_m_idOf a0 σ)) := by
  unfold sp_m_idOf
  show Ev N L xs (114, 0, [(0, .long a0)], [], 0, σ) _
  refine ev_lload_n d_114_0 rfl ?_
  refine ev_bipush d_114_1 cb_52 ?_
  refine ev_lshr (v := (a0 >>> ((52 : Int32).toInt64 &&& 63))) d_114_3 rfl ?_
  refine ev_ldc2 d_114_4 kl_7_107 ?_
  refine ev_land (v := ((a0 >>> ((52 : Int32).toInt64 &&& 63)) &&& (31 : Int64))) d_114_7 rfl ?_
  refine ev_l2i (v := ((a0 >>> ((52 : Int32).toInt64 &&& 63)) &&& (31 : Int64)).toInt32) d_114_8 rfl ?_
  exact ev_iret d_114_9 rfl
def sp_m_cycleOf (a0 : Int64) (σ : mmS) : Int32 :=
((a0 >>> ((46 : Int32).toInt64 &&& 63)) &&& (63 : Int64)).toInt32
theorem ev_m_cycleOf (hN : 65 ≤ N) (a0 : Int64) (σ : mmS) : Ev N L xs (117, 0, lv_args 0 [.long a0], [], 0, σ) ((mmPI σ) (sp_m_cycleOf a0 σ)) := by
  unfold sp_m_cycleOf
  show Ev N L xs (117, 0, [(0, .long a0)], [], 0, σ) _
  refine ev_lload_n d_117_0 rfl ?_
  refine ev_bipush d_117_1 cb_46 ?_
  refine ev_lshr (v := (a0 >>> ((46 : Int32).toInt64 &&& 63))) d_117_3 rfl ?_
  refine ev_ldc2 d_117_4 kl_7_109 ?_
  refine ev_land (v := ((a0 >>> ((46 : Int32).toInt64 &&& 63)) &&& (63 : Int64))) d_117_7 rfl ?_
  refine ev_l2i (v := ((a0 >>> ((46 : Int32).toInt64 &&& 63)) &&& (63 : Int64)).toInt32) d_117_8 rfl ?_
  exact ev_iret d_117_9 rfl
def sp_m_startupOf (a0 : Int64) (σ : mmS) : Int32 :=
if (lg_cmp ((a0 >>> ((45 : Int32).toInt64 &&& 63)) &&& (1 : Int64)) (1 : Int64)) = 0 then
  (1 : Int32)
else
  (0 : Int32)
theorem ev_m_startupOf (hN : 65 ≤ N) (a0 : Int64) (σ : mmS) : Ev N L xs (115, 0, lv_args 0 [.long a0], [], 0, σ) ((mmPI σ) (sp_m_startupOf a0 σ)) := by
  unfold sp_m_startupOf
  show Ev N L xs (115, 0, [(0, .long a0)], [], 0, σ) _
  refine ev_lload_n d_115_0 rfl ?_
  refine ev_bipush d_115_1 cb_45 ?_
  refine ev_lshr (v := (a0 >>> ((45 : Int32).toInt64 &&& 63))) d_115_3 rfl ?_
  refine ev_lconst d_115_4 rfl ?_
  refine ev_land (v := ((a0 >>> ((45 : Int32).toInt64 &&& 63)) &&& (1 : Int64))) d_115_5 rfl ?_
  refine ev_lconst d_115_6 rfl ?_
  refine ev_lcmp d_115_7 ?_
  refine ev_if_ne (mmPI σ) (tgt := 15) d_115_8 rfl (fun _h8 => ?_) (fun _h8 => ?_)
  · refine ev_iconst d_115_15 ci_0 ?_
    exact ev_zret d_115_16 rfl (Or.inl rfl)
  · refine ev_iconst d_115_11 ci_1 ?_
    refine ev_goto (tgt := 16) d_115_12 rfl ?_
    exact ev_zret d_115_16 rfl (Or.inr rfl)
def sp_m_valueOf (a0 : Int64) (σ : mmS) : Int32 :=
((a0 >>> ((24 : Int32).toInt64 &&& 63)) &&& (1023 : Int64)).toInt32
theorem ev_m_valueOf (hN : 65 ≤ N) (a0 : Int64) (σ : mmS) : Ev N L xs (119, 0, lv_args 0 [.long a0], [], 0, σ) ((mmPI σ) (sp_m_valueOf a0 σ)) := by
  unfold sp_m_valueOf
  show Ev N L xs (119, 0, [(0, .long a0)], [], 0, σ) _
  refine ev_lload_n d_119_0 rfl ?_
  refine ev_bipush d_119_1 cb_24 ?_
  refine ev_lshr (v := (a0 >>> ((24 : Int32).toInt64 &&& 63))) d_119_3 rfl ?_
  refine ev_ldc2 d_119_4 kl_7_111 ?_
  refine ev_land (v := ((a0 >>> ((24 : Int32).toInt64 &&& 63)) &&& (1023 : Int64))) d_119_7 rfl ?_
  refine ev_l2i (v := ((a0 >>> ((24 : Int32).toInt64 &&& 63)) &&& (1023 : Int64)).toInt32) d_119_8 rfl ?_
  exact ev_iret d_119_9 rfl
def sp_m_wrong (a0 : Int64) (σ : mmS) : Int32 :=
if (lg_cmp a0 (0 : Int64)) < 0 then
  (1 : Int32)
else
  if (lg_cmp a0 (144115188075855872 : Int64)) < 0 then
    if (sp_m_check12 (a0 >>> ((45 : Int32).toInt64 &&& 63)) σ) = ((a0 >>> ((34 : Int32).toInt64 &&& 63)) &&& (2047 : Int64)).toInt32 then
      if (sp_m_check33 (a0 >>> ((24 : Int32).toInt64 &&& 63)) σ) = (a0 &&& (16777215 : Int64)).toInt32 then
        (0 : Int32)
      else
        (2 : Int32)
    else
      (1 : Int32)
  else
    (1 : Int32)
theorem ev_m_wrong (hN : 65 ≤ N) (a0 : Int64) (σ : mmS) : Ev N L xs (116, 0, lv_args 0 [.long a0], [], 0, σ) ((mmPI σ) (sp_m_wrong a0 σ)) := by
  unfold sp_m_wrong
  show Ev N L xs (116, 0, [(0, .long a0)], [], 0, σ) _
  refine ev_lload_n d_116_0 rfl ?_
  refine ev_lconst d_116_1 rfl ?_
  refine ev_lcmp d_116_2 ?_
  refine ev_if_lt (mmPI σ) (tgt := 14) d_116_3 rfl (fun _h3 => ?_) (fun _h3 => ?_)
  · refine ev_iconst d_116_14 ci_1 ?_
    exact ev_iret d_116_15 rfl
  · refine ev_lload_n d_116_6 rfl ?_
    refine ev_ldc2 d_116_7 kl_7_101 ?_
    refine ev_lcmp d_116_10 ?_
    refine ev_if_lt (mmPI σ) (tgt := 16) d_116_11 rfl (fun _h11 => ?_) (fun _h11 => ?_)
    · refine ev_lload_n d_116_16 rfl ?_
      refine ev_bipush d_116_17 cb_45 ?_
      refine ev_lshr (v := (a0 >>> ((45 : Int32).toInt64 &&& 63))) d_116_19 rfl ?_
      refine ev_lstore_n (lv' := [(2, .long (a0 >>> ((45 : Int32).toInt64 &&& 63))), (0, .long a0)]) d_116_20 (by decide) rfl ?_
      refine ev_lload_n d_116_21 rfl ?_
      refine ev_bipush d_116_22 cb_12 ?_
      refine ev_bipush d_116_24 cb_11 ?_
      refine ev_bipush d_116_26 cb_26 ?_
      refine ev_sipush d_116_28 cs_901 ?_
      refine ev_csI (As := [.long (a0 >>> ((45 : Int32).toInt64 &&& 63)), .int (12 : Int32), .int (11 : Int32), .int (26 : Int32), .int (901 : Int32)]) (t := []) (e' := 0) d_116_31 ml_7_91 rfl rfl rfl rfl rfl (by decide) rfl rfl (ev_m_check12 hN (a0 >>> ((45 : Int32).toInt64 &&& 63)) σ) ?_
      refine ev_lload_n d_116_34 rfl ?_
      refine ev_bipush d_116_35 cb_34 ?_
      refine ev_lshr (v := (a0 >>> ((34 : Int32).toInt64 &&& 63))) d_116_37 rfl ?_
      refine ev_ldc2 d_116_38 kl_7_103 ?_
      refine ev_land (v := ((a0 >>> ((34 : Int32).toInt64 &&& 63)) &&& (2047 : Int64))) d_116_41 rfl ?_
      refine ev_l2i (v := ((a0 >>> ((34 : Int32).toInt64 &&& 63)) &&& (2047 : Int64)).toInt32) d_116_42 rfl ?_
      refine ev_icmp_eq (mmPI σ) (tgt := 48) d_116_43 rfl (fun _h43 => ?_) (fun _h43 => ?_)
      · refine ev_lload_n d_116_48 rfl ?_
        refine ev_bipush d_116_49 cb_24 ?_
        refine ev_lshr (v := (a0 >>> ((24 : Int32).toInt64 &&& 63))) d_116_51 rfl ?_
        refine ev_bipush d_116_52 cb_33 ?_
        refine ev_bipush d_116_54 cb_24 ?_
        refine ev_ldc d_116_56 ki_7_99 ?_
        refine ev_ldc d_116_58 ki_7_100 ?_
        refine ev_csI (As := [.long (a0 >>> ((24 : Int32).toInt64 &&& 63)), .int (33 : Int32), .int (24 : Int32), .int (16702650 : Int32), .int (6122955 : Int32)]) (t := []) (e' := 0) d_116_60 ml_7_91 rfl rfl rfl rfl rfl (by decide) rfl rfl (ev_m_check33 hN (a0 >>> ((24 : Int32).toInt64 &&& 63)) σ) ?_
        refine ev_lload_n d_116_63 rfl ?_
        refine ev_ldc2 d_116_64 kl_7_105 ?_
        refine ev_land (v := (a0 &&& (16777215 : Int64))) d_116_67 rfl ?_
        refine ev_l2i (v := (a0 &&& (16777215 : Int64)).toInt32) d_116_68 rfl ?_
        refine ev_icmp_ne (mmPI σ) (tgt := 76) d_116_69 rfl (fun _h69 => ?_) (fun _h69 => ?_)
        · refine ev_iconst d_116_76 ci_2 ?_
          exact ev_iret d_116_77 rfl
        · refine ev_iconst d_116_72 ci_0 ?_
          refine ev_goto (tgt := 77) d_116_73 rfl ?_
          exact ev_iret d_116_77 rfl
      · refine ev_iconst d_116_46 ci_1 ?_
        exact ev_iret d_116_47 rfl
    · refine ev_iconst d_116_14 ci_1 ?_
      exact ev_iret d_116_15 rfl
end SP
