section LX
variable {N L : Nat} {xs : Nat → Int32}
theorem law_9fX (hN : 66 ≤ N) (p e : Nat) (hp : p + 6 ≤ L) (hL : L ≤ 3073) (he : e + 24 ≤ 20000) (σ σ1 : mmS) (k : Int32) (hb : (xs (p + 3)) = (0 : Int32)) (hw : Ev N L xs (82, 0, lv_args 0 [.ref 0, .int (xs (p + 1)), .int (xs (p + 2)), .int (0 : Int32), .ref 65], [], 0, σ) (mmSI (k, σ1))) (hne : ¬ (sp_m_thrown ((sp_m_deviation (xs (p + 1)) (xs (p + 2)) (0 : Int32) σ1).2)) = k) : Ev N L xs (132, 652, [(0, .ref 1000), (1, .ref 0), (2, .ref 42), (3, .ref 65), (4, .int (Int32.ofNat p))], [], e, σ) (mmPI ((sp_m_deviation (xs (p + 1)) (xs (p + 2)) (0 : Int32) σ1).2) 0) := by
  refine ev_aload_n d_132_652 rfl ?_
  refine ev_aload_n d_132_653 rfl ?_
  refine ev_iload d_132_654 rfl ?_
  refine ev_iconst d_132_656 ci_1 ?_
  refine ev_iadd (v := (Int32.ofNat (p + 1))) d_132_657 (li_add p 1) ?_
  refine ev_sald (i := (p + 1)) d_132_658 (li_in hp hL (by decide)) (li_nat hp hL (by decide)) ?_
  refine ev_aload_n d_132_659 rfl ?_
  refine ev_iload d_132_660 rfl ?_
  refine ev_iconst d_132_662 ci_2 ?_
  refine ev_iadd (v := (Int32.ofNat (p + 2))) d_132_663 (li_add p 2) ?_
  refine ev_sald (i := (p + 2)) d_132_664 (li_in hp hL (by decide)) (li_nat hp hL (by decide)) ?_
  refine ev_aload_n d_132_665 rfl ?_
  refine ev_iload d_132_666 rfl ?_
  refine ev_iconst d_132_668 ci_3 ?_
  refine ev_iadd (v := (Int32.ofNat (p + 3))) d_132_669 (li_add p 3) ?_
  refine ev_sald (i := (p + 3)) d_132_670 (li_in hp hL (by decide)) (li_nat hp hL (by decide)) ?_
  refine ev_ifT (tgt := 678) d_132_671 rfl hb ?_
  refine ev_iconst d_132_678 ci_0 ?_
  refine ev_aload_n d_132_679 rfl ?_
  refine ev_csI (As := [.ref 0, .int (xs (p + 1)), .int (xs (p + 2)), .int (0 : Int32), .ref 65]) (t := []) (e' := (e + 3)) d_132_680 ml_9_117 rfl rfl rfl rfl rfl (le_e rfl rfl (by omega)) rfl rfl hw ?_
  refine ev_istore (lv' := [(5, .int k), (0, .ref 1000), (1, .ref 0), (2, .ref 42), (3, .ref 65), (4, .int (Int32.ofNat p))]) d_132_683 (by decide) rfl ?_
  refine ev_aload_n d_132_685 rfl ?_
  refine ev_aload_n d_132_686 rfl ?_
  refine ev_iload d_132_687 rfl ?_
  refine ev_iconst d_132_689 ci_1 ?_
  refine ev_iadd (v := (Int32.ofNat (p + 1))) d_132_690 (li_add p 1) ?_
  refine ev_sald (i := (p + 1)) d_132_691 (li_in hp hL (by decide)) (li_nat hp hL (by decide)) ?_
  refine ev_aload_n d_132_692 rfl ?_
  refine ev_iload d_132_693 rfl ?_
  refine ev_iconst d_132_695 ci_2 ?_
  refine ev_iadd (v := (Int32.ofNat (p + 2))) d_132_696 (li_add p 2) ?_
  refine ev_sald (i := (p + 2)) d_132_697 (li_in hp hL (by decide)) (li_nat hp hL (by decide)) ?_
  refine ev_aload_n d_132_698 rfl ?_
  refine ev_iload d_132_699 rfl ?_
  refine ev_iconst d_132_701 ci_3 ?_
  refine ev_iadd (v := (Int32.ofNat (p + 3))) d_132_702 (li_add p 3) ?_
  refine ev_sald (i := (p + 3)) d_132_703 (li_in hp hL (by decide)) (li_nat hp hL (by decide)) ?_
  refine ev_ifT (tgt := 711) d_132_704 rfl hb ?_
  refine ev_iconst d_132_711 ci_0 ?_
  refine ev_cvI (As := [.int (xs (p + 1)), .int (xs (p + 2)), .int (0 : Int32)]) (t := []) (e' := (e + 3)) d_132_712 ml_9_120 rfl rfl rfl rfl rfl (le_e rfl rfl (by omega)) rfl (ltk6 (by decide) hN) rfl rfl rfl (ev_m_deviation (Nat.le_of_succ_le hN) (xs (p + 1)) (xs (p + 2)) (0 : Int32) σ1) ?_
  refine ev_istore (lv' := [(6, .int ((sp_m_deviation (xs (p + 1)) (xs (p + 2)) (0 : Int32) σ1).1)), (5, .int k), (0, .ref 1000), (1, .ref 0), (2, .ref 42), (3, .ref 65), (4, .int (Int32.ofNat p))]) d_132_715 (by decide) rfl ?_
  refine ev_aload_n d_132_717 rfl ?_
  refine ev_cvI (As := []) (t := []) (e' := (e + 3)) d_132_718 ml_9_82 rfl rfl rfl rfl rfl (le_e rfl rfl (by omega)) rfl (ltk6 (by decide) hN) rfl rfl rfl (ev_m_thrown (Nat.le_of_succ_le hN) ((sp_m_deviation (xs (p + 1)) (xs (p + 2)) (0 : Int32) σ1).2)) ?_
  refine ev_iload d_132_721 rfl ?_
  refine ev_icmpF (tgt := 728) d_132_723 rfl hne ?_
  refine ev_iconst d_132_726 ci_0 ?_
  exact ev_zret d_132_727 rfl (Or.inl rfl)
end LX
