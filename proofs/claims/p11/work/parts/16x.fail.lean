section LX
variable {N L : Nat} {xs : Nat → Int32}
theorem law_9fX (hN : 66 ≤ N) (p e : Nat) (hp : p + 6 ≤ L) (hL : L ≤ 3073) (he : e + 24 ≤ 20000) (σ σ1 : mmS) (k : Int32) (hb : (xs (p + 3)) = (0 : Int32)) (hw : Ev N L xs (82, 0, lv_args 0 [.ref 0, .int (xs (p + 1)), .int (xs (p + 2)), .int (0 : Int32), .ref 65], [], 0, σ) (mmSI (k, σ1))) (hne : ¬ (sp_m_thrown ((sp_m_deviation (xs (p + 1)) (xs (p + 2)) (0 : Int32) σ1).2)) = k) : Ev N L xs (132, 468, [(0, .ref 1000), (1, .ref 0), (2, .ref 42), (3, .ref 65), (4, .int (Int32.ofNat p))], [], e, σ) (mmPI ((sp_m_deviation (xs (p + 1)) (xs (p + 2)) (0 : Int32) σ1).2) 0) := by
  refine ev_aload_n d_132_468 rfl ?_
  refine ev_aload_n d_132_469 rfl ?_
  refine ev_iload d_132_470 rfl ?_
  refine ev_iconst d_132_472 ci_1 ?_
  refine ev_iadd (v := (Int32.ofNat (p + 1))) d_132_473 (li_add p 1) ?_
  refine ev_sald (i := (p + 1)) d_132_474 (li_in hp hL (by decide)) (li_nat hp hL (by decide)) ?_
  refine ev_aload_n d_132_475 rfl ?_
  refine ev_iload d_132_476 rfl ?_
  refine ev_iconst d_132_478 ci_2 ?_
  refine ev_iadd (v := (Int32.ofNat (p + 2))) d_132_479 (li_add p 2) ?_
  refine ev_sald (i := (p + 2)) d_132_480 (li_in hp hL (by decide)) (li_nat hp hL (by decide)) ?_
  refine ev_aload_n d_132_481 rfl ?_
  refine ev_iload d_132_482 rfl ?_
  refine ev_iconst d_132_484 ci_3 ?_
  refine ev_iadd (v := (Int32.ofNat (p + 3))) d_132_485 (li_add p 3) ?_
  refine ev_sald (i := (p + 3)) d_132_486 (li_in hp hL (by decide)) (li_nat hp hL (by decide)) ?_
  refine ev_ifT (tgt := 494) d_132_487 rfl hb ?_
  refine ev_iconst d_132_494 ci_0 ?_
  refine ev_aload_n d_132_495 rfl ?_
  refine ev_csI (As := [.ref 0, .int (xs (p + 1)), .int (xs (p + 2)), .int (0 : Int32), .ref 65]) (t := []) (e' := (e + 3)) d_132_496 ml_9_113 rfl rfl rfl rfl rfl (le_e rfl rfl (by omega)) rfl rfl hw ?_
  refine ev_istore (lv' := [(5, .int k), (0, .ref 1000), (1, .ref 0), (2, .ref 42), (3, .ref 65), (4, .int (Int32.ofNat p))]) d_132_499 (by decide) rfl ?_
  refine ev_aload_n d_132_501 rfl ?_
  refine ev_aload_n d_132_502 rfl ?_
  refine ev_iload d_132_503 rfl ?_
  refine ev_iconst d_132_505 ci_1 ?_
  refine ev_iadd (v := (Int32.ofNat (p + 1))) d_132_506 (li_add p 1) ?_
  refine ev_sald (i := (p + 1)) d_132_507 (li_in hp hL (by decide)) (li_nat hp hL (by decide)) ?_
  refine ev_aload_n d_132_508 rfl ?_
  refine ev_iload d_132_509 rfl ?_
  refine ev_iconst d_132_511 ci_2 ?_
  refine ev_iadd (v := (Int32.ofNat (p + 2))) d_132_512 (li_add p 2) ?_
  refine ev_sald (i := (p + 2)) d_132_513 (li_in hp hL (by decide)) (li_nat hp hL (by decide)) ?_
  refine ev_aload_n d_132_514 rfl ?_
  refine ev_iload d_132_515 rfl ?_
  refine ev_iconst d_132_517 ci_3 ?_
  refine ev_iadd (v := (Int32.ofNat (p + 3))) d_132_518 (li_add p 3) ?_
  refine ev_sald (i := (p + 3)) d_132_519 (li_in hp hL (by decide)) (li_nat hp hL (by decide)) ?_
  refine ev_ifT (tgt := 527) d_132_520 rfl hb ?_
  refine ev_iconst d_132_527 ci_0 ?_
  refine ev_cvI (As := [.int (xs (p + 1)), .int (xs (p + 2)), .int (0 : Int32)]) (t := []) (e' := (e + 3)) d_132_528 ml_9_116 rfl rfl rfl rfl rfl (le_e rfl rfl (by omega)) rfl (ltk6 (by decide) hN) rfl rfl rfl (ev_m_deviation (Nat.le_of_succ_le hN) (xs (p + 1)) (xs (p + 2)) (0 : Int32) σ1) ?_
  refine ev_istore (lv' := [(6, .int ((sp_m_deviation (xs (p + 1)) (xs (p + 2)) (0 : Int32) σ1).1)), (5, .int k), (0, .ref 1000), (1, .ref 0), (2, .ref 42), (3, .ref 65), (4, .int (Int32.ofNat p))]) d_132_531 (by decide) rfl ?_
  refine ev_aload_n d_132_533 rfl ?_
  refine ev_cvI (As := []) (t := []) (e' := (e + 3)) d_132_534 ml_9_117 rfl rfl rfl rfl rfl (le_e rfl rfl (by omega)) rfl (ltk6 (by decide) hN) rfl rfl rfl (ev_m_thrown (Nat.le_of_succ_le hN) ((sp_m_deviation (xs (p + 1)) (xs (p + 2)) (0 : Int32) σ1).2)) ?_
  refine ev_iload d_132_537 rfl ?_
  refine ev_icmpF (tgt := 544) d_132_539 rfl hne ?_
  refine ev_iconst d_132_542 ci_0 ?_
  exact ev_zret d_132_543 rfl (Or.inl rfl)
end LX
