/-! the law: what a call does to both -/
set_option maxRecDepth 100000 in
set_option maxHeartbeats 4000000 in
theorem k_turn {C : Cx} {k n i b L ao : Nat} {xs : Nat → Int32} {ad am : Nat → Nat} {S : Sc} {M : Sm} {tj : Nat → Int64} (g : vG C code RL 8 room_1) (hNA : NoA C.s) (hT : noTr C.l) (hX : va_X b L xs C.s C.s.heap) (hbl : b < C.s.heap.size) (hbA : ¬ C.A b) (hL : L < 2 ^ 31) (hi : i + 5 ≤ L) (hk : k + 1 ≤ 601024) (hn : n + 6 ≤ 7293034) (hB : IB S) (hM : IM M) (hE : Eqv S.k (coM M))
    (KK : ∀ (S' : Sc) (M' : Sm) (tj' : Nat → Int64), IB S' → IM M' → Eqv S'.k (coM M') → VJ C (k + 1) (n + 6) 1147 [(0, .ref b), (1, .ref (ad 0)), (2, .ref (am 0)), (3, .ref ao), (4, .int (nI i))] [] ((ao, aJ C.D 1 tj') :: (BW C.D ad S' ++ MW C.D am M'))) : VJ C k n 604 [(0, .ref b), (1, .ref (ad 0)), (2, .ref (am 0)), (3, .ref ao), (4, .int (nI i))] [] ((ao, aJ C.D 1 tj) :: (BW C.D ad S ++ MW C.D am M)) := by
  refine v_aload_n g dlaw_604 1 rfl 1 rfl ?_
  refine v_aload_n g dlaw_605 0 rfl 0 rfl ?_
  refine v_iload g dlaw_606 4 rfl ?_
  refine v_iconst g dlaw_608 (v := nI 1) (by decide +kernel) ?_
  refine v_iaddN g dlaw_609 ?_
  refine v_sld g hX hbl hbA (by omega) hL dlaw_610 ?_
  refine v_aload_n g dlaw_611 3 rfl 3 rfl ?_
  refine v_callSW0 (As := [.ref (ad 0), .int (xs (i + 1)), .ref ao]) (rest := []) ws_118 hw_L_turn g hNA (vMW.frameR (w_turn C.l hT C.D ad S hB ao tj (xs (i + 1))) (MW C.D am M)) dlaw_612 rfl (by decide) ⟨hk, hn⟩ (by decide) _ rfl (fun r wo h => ?_)
  obtain ⟨wo1, ⟨S1, c1, a1, tj1, rfl, rfl, hR1, ha1, hB1⟩, rfl⟩ := h
  show VJ C (k + 1) (n + 6) 615 [(0, .ref b), (1, .ref (ad 0)), (2, .ref (am 0)), (3, .ref ao), (4, .int (nI i))] [.int (nI c1)] ((ao, aJ C.D 1 tj1) :: (BW C.D ad S1 ++ MW C.D am M))
  refine v_istore g [(5, .int (nI c1)), (0, .ref b), (1, .ref (ad 0)), (2, .ref (am 0)), (3, .ref ao), (4, .int (nI i))] dlaw_615 (by decide) rfl ?_
  refine v_aload_n g dlaw_617 2 rfl 3 rfl ?_
  refine v_aload_n g dlaw_618 0 rfl 1 rfl ?_
  refine v_iload g dlaw_619 5 rfl ?_
  refine v_iconst g dlaw_621 (v := nI 1) (by decide +kernel) ?_
  refine v_iaddN g dlaw_622 ?_
  refine v_sld g hX hbl hbA (by omega) hL dlaw_623 ?_
  refine v_callV0 (As := [.int (xs (i + 1))]) (rest := []) cw_L_121 (hy_X8_turn) g (vM.frameL (mr_turn C.l C.D am M hM (xs (i + 1))) ((ao, aJ C.D 1 tj1) :: BW C.D ad S1)) dlaw_624 87 rfl rfl rfl (by decide) ⟨hk, hn⟩ (by decide) _ rfl (fun r wo h => ?_)
  obtain ⟨wo3, ⟨M1, c2, a2, rfl, rfl, hR2, ht2, hM1⟩, rfl⟩ := h
  show VJ C (k + 1) (n + 6) 627 [(5, .int (nI c1)), (0, .ref b), (1, .ref (ad 0)), (2, .ref (am 0)), (3, .ref ao), (4, .int (nI i))] [.int a2] ((ao, aJ C.D 1 tj1) :: (BW C.D ad S1 ++ MW C.D am M1))
  obtain ⟨rfl, hA, hE1⟩ := det_turn hE hB.1 _ hR1 hR2
  refine v_istore g [(6, .int a2), (5, .int (nI c1)), (0, .ref b), (1, .ref (ad 0)), (2, .ref (am 0)), (3, .ref ao), (4, .int (nI i))] dlaw_627 (by decide) rfl ?_
  refine v_aload_n g dlaw_629 2 rfl 4 rfl ?_
  refine v_callV0 (As := []) (rest := []) cw_L_81 (hy_X8_thrown) g (vM.frameL (mr_thrown C.l C.D am M1) ((ao, aJ C.D 1 tj1) :: BW C.D ad S1)) dlaw_630 87 rfl rfl rfl (by decide) ⟨hk, hn⟩ (by decide) _ rfl (fun r wo h => ?_)
  obtain ⟨wo4, ⟨rfl, rfl⟩, rfl⟩ := h
  show VJ C (k + 1) (n + 6) 633 [(6, .int a2), (5, .int (nI c1)), (0, .ref b), (1, .ref (ad 0)), (2, .ref (am 0)), (3, .ref ao), (4, .int (nI i))] [.int (nI M1.f_thrown)] ((ao, aJ C.D 1 tj1) :: (BW C.D ad S1 ++ MW C.D am M1))
  rw [ht2]
  refine v_iload g dlaw_633 1 rfl ?_
  refine v_icmp_eq g 640 dlaw_635 (by decide) (fun _ => ?_) (fun h => absurd rfl h)
  refine v_iload g dlaw_640 1 rfl ?_
  refine v_if_neN g 657 dlaw_642 (by decide) (Nat.lt_trans (cb_turn hR1) (by decide)) (fun _ => ?_) (fun hc => ?_)
  · skip
    refine v_goto g 1147 dlaw_657 (by decide) ?_
    exact v_lpick [2, 3, 4, 5, 6] [(0, .ref b), (1, .ref (ad 0)), (2, .ref (am 0)), (3, .ref ao), (4, .int (nI i))] rfl (KK S1 M1 tj1 hB1 hM1 hE1)
  · skip
    refine v_aload_n g dlaw_645 3 rfl 5 rfl ?_
    refine v_iconst g dlaw_646 (v := nI 0) (by decide +kernel) ?_
    refine v_laldJ g 0 rfl (by decide) (by decide) dlaw_647 ?_
    refine v_iload g dlaw_648 0 rfl ?_
    refine v_i2l g dlaw_650 ?_
    refine v_lcmp g dlaw_651 ?_
    refine v_if_eq g 657 dlaw_652 (by decide) (fun _ => ?_) (fun h => absurd ((lg_cmp_eq _ _).mpr ((ha1 hc).trans (congrArg Int32.toInt64 (hA hc)))) h)
    refine v_goto g 1147 dlaw_657 (by decide) ?_
    exact v_lpick [2, 3, 4, 5, 6] [(0, .ref b), (1, .ref (ad 0)), (2, .ref (am 0)), (3, .ref ao), (4, .int (nI i))] rfl (KK S1 M1 tj1 hB1 hM1 hE1)
set_option maxRecDepth 100000 in
set_option maxHeartbeats 4000000 in
theorem k_seal {C : Cx} {k n i b L ao : Nat} {xs : Nat → Int32} {ad am : Nat → Nat} {S : Sc} {M : Sm} {tj : Nat → Int64} (g : vG C code RL 8 room_1) (hNA : NoA C.s) (hT : noTr C.l) (hX : va_X b L xs C.s C.s.heap) (hbl : b < C.s.heap.size) (hbA : ¬ C.A b) (hL : L < 2 ^ 31) (hi : i + 5 ≤ L) (hk : k + 1 ≤ 601024) (hn : n + 6 ≤ 7293034) (hB : IB S) (hM : IM M) (hE : Eqv S.k (coM M))
    (KK : ∀ (S' : Sc) (M' : Sm) (tj' : Nat → Int64), IB S' → IM M' → Eqv S'.k (coM M') → VJ C (k + 1) (n + 6) 1147 [(0, .ref b), (1, .ref (ad 0)), (2, .ref (am 0)), (3, .ref ao), (4, .int (nI i))] [] ((ao, aJ C.D 1 tj') :: (BW C.D ad S' ++ MW C.D am M'))) : VJ C k n 660 [(0, .ref b), (1, .ref (ad 0)), (2, .ref (am 0)), (3, .ref ao), (4, .int (nI i))] [] ((ao, aJ C.D 1 tj) :: (BW C.D ad S ++ MW C.D am M)) := by
  refine v_aload_n g dlaw_660 1 rfl 1 rfl ?_
  refine v_aload_n g dlaw_661 0 rfl 0 rfl ?_
  refine v_iload g dlaw_662 4 rfl ?_
  refine v_iconst g dlaw_664 (v := nI 1) (by decide +kernel) ?_
  refine v_iaddN g dlaw_665 ?_
  refine v_sld g hX hbl hbA (by omega) hL dlaw_666 ?_
  refine v_aload_n g dlaw_667 0 rfl 0 rfl ?_
  refine v_iload g dlaw_668 4 rfl ?_
  refine v_iconst g dlaw_670 (v := nI 2) (by decide +kernel) ?_
  refine v_iaddN g dlaw_671 ?_
  refine v_sld g hX hbl hbA (by omega) hL dlaw_672 ?_
  refine v_i2lW g ((xs (i + 2)).toBitVec) rfl dlaw_673 ?_
  refine v_bipush g dlaw_674 (v := nI 32) (by decide +kernel) ?_
  refine v_lshlX g (by omega) dlaw_676 ?_
  refine v_aload_n g dlaw_677 0 rfl 0 rfl ?_
  refine v_iload g dlaw_678 4 rfl ?_
  refine v_iconst g dlaw_680 (v := nI 3) (by decide +kernel) ?_
  refine v_iaddN g dlaw_681 ?_
  refine v_sld g hX hbl hbA (by omega) hL dlaw_682 ?_
  refine v_i2lW g ((xs (i + 3)).toBitVec) rfl dlaw_683 ?_
  refine v_ldc2 g dlaw_684 kl_L_73 ?_
  refine v_landX g (((xs (i + 3)).toBitVec).signExtend 64) (4294967295#64) rfl (xL_n _) dlaw_687 ?_
  refine v_lorX g ((((xs (i + 2)).toBitVec).signExtend 64) <<< 32) ((((xs (i + 3)).toBitVec).signExtend 64) &&& 4294967295#64) rfl rfl dlaw_688 ?_
  refine v_aload_n g dlaw_689 0 rfl 0 rfl ?_
  refine v_iload g dlaw_690 4 rfl ?_
  refine v_iconst g dlaw_692 (v := nI 4) (by decide +kernel) ?_
  refine v_iaddN g dlaw_693 ?_
  refine v_sld g hX hbl hbA (by omega) hL dlaw_694 ?_
  refine v_aload_n g dlaw_695 3 rfl 3 rfl ?_
  refine v_callSW0 (As := [.ref (ad 0), .int (xs (i + 1)), .long (xL (((((xs (i + 2)).toBitVec).signExtend 64) <<< 32) ||| ((((xs (i + 3)).toBitVec).signExtend 64) &&& 4294967295#64))), .int (xs (i + 4)), .ref ao]) (rest := []) ws_122 hw_L_seal g hNA (vMW.frameR (w_seal C.l hT C.D ad S hB ao tj (xs (i + 1)) ((((xs (i + 2)).toBitVec.signExtend 64) <<< 32) ||| (((xs (i + 3)).toBitVec.signExtend 64) &&& 4294967295#64)) (xs (i + 4))) (MW C.D am M)) dlaw_696 rfl (by decide) ⟨hk, hn⟩ (by decide) _ rfl (fun r wo h => ?_)
  obtain ⟨wo1, ⟨S1, c1, a1, tj1, rfl, rfl, hR1, ha1, hB1⟩, rfl⟩ := h
  show VJ C (k + 1) (n + 6) 699 [(0, .ref b), (1, .ref (ad 0)), (2, .ref (am 0)), (3, .ref ao), (4, .int (nI i))] [.int (nI c1)] ((ao, aJ C.D 1 tj1) :: (BW C.D ad S1 ++ MW C.D am M))
  refine v_istore g [(5, .int (nI c1)), (0, .ref b), (1, .ref (ad 0)), (2, .ref (am 0)), (3, .ref ao), (4, .int (nI i))] dlaw_699 (by decide) rfl ?_
  refine v_aload_n g dlaw_701 2 rfl 3 rfl ?_
  refine v_aload_n g dlaw_702 0 rfl 1 rfl ?_
  refine v_iload g dlaw_703 5 rfl ?_
  refine v_iconst g dlaw_705 (v := nI 1) (by decide +kernel) ?_
  refine v_iaddN g dlaw_706 ?_
  refine v_sld g hX hbl hbA (by omega) hL dlaw_707 ?_
  refine v_aload_n g dlaw_708 0 rfl 1 rfl ?_
  refine v_iload g dlaw_709 5 rfl ?_
  refine v_iconst g dlaw_711 (v := nI 2) (by decide +kernel) ?_
  refine v_iaddN g dlaw_712 ?_
  refine v_sld g hX hbl hbA (by omega) hL dlaw_713 ?_
  refine v_i2lW g ((xs (i + 2)).toBitVec) rfl dlaw_714 ?_
  refine v_bipush g dlaw_715 (v := nI 32) (by decide +kernel) ?_
  refine v_lshlX g (by omega) dlaw_717 ?_
  refine v_aload_n g dlaw_718 0 rfl 1 rfl ?_
  refine v_iload g dlaw_719 5 rfl ?_
  refine v_iconst g dlaw_721 (v := nI 3) (by decide +kernel) ?_
  refine v_iaddN g dlaw_722 ?_
  refine v_sld g hX hbl hbA (by omega) hL dlaw_723 ?_
  refine v_i2lW g ((xs (i + 3)).toBitVec) rfl dlaw_724 ?_
  refine v_ldc2 g dlaw_725 kl_L_73 ?_
  refine v_landX g (((xs (i + 3)).toBitVec).signExtend 64) (4294967295#64) rfl (xL_n _) dlaw_728 ?_
  refine v_lorX g ((((xs (i + 2)).toBitVec).signExtend 64) <<< 32) ((((xs (i + 3)).toBitVec).signExtend 64) &&& 4294967295#64) rfl rfl dlaw_729 ?_
  refine v_aload_n g dlaw_730 0 rfl 1 rfl ?_
  refine v_iload g dlaw_731 5 rfl ?_
  refine v_iconst g dlaw_733 (v := nI 4) (by decide +kernel) ?_
  refine v_iaddN g dlaw_734 ?_
  refine v_sld g hX hbl hbA (by omega) hL dlaw_735 ?_
  refine v_callV0 (As := [.int (xs (i + 1)), .long (xL (((((xs (i + 2)).toBitVec).signExtend 64) <<< 32) ||| ((((xs (i + 3)).toBitVec).signExtend 64) &&& 4294967295#64))), .int (xs (i + 4))]) (rest := []) cw_L_125 (hy_X8_seal) g (vM.frameL (mr_seal C.l C.D am M hM (xs (i + 1)) ((((xs (i + 2)).toBitVec.signExtend 64) <<< 32) ||| (((xs (i + 3)).toBitVec.signExtend 64) &&& 4294967295#64)) (xs (i + 4))) ((ao, aJ C.D 1 tj1) :: BW C.D ad S1)) dlaw_736 87 rfl rfl rfl (by decide) ⟨hk, hn⟩ (by decide) _ rfl (fun r wo h => ?_)
  obtain ⟨wo3, ⟨M1, c2, a2, rfl, rfl, hR2, ht2, hM1⟩, rfl⟩ := h
  show VJ C (k + 1) (n + 6) 739 [(5, .int (nI c1)), (0, .ref b), (1, .ref (ad 0)), (2, .ref (am 0)), (3, .ref ao), (4, .int (nI i))] [.int a2] ((ao, aJ C.D 1 tj1) :: (BW C.D ad S1 ++ MW C.D am M1))
  obtain ⟨rfl, hA, hE1⟩ := det_seal hE hB.1 _ _ _ hR1 hR2
  refine v_istore g [(6, .int a2), (5, .int (nI c1)), (0, .ref b), (1, .ref (ad 0)), (2, .ref (am 0)), (3, .ref ao), (4, .int (nI i))] dlaw_739 (by decide) rfl ?_
  refine v_aload_n g dlaw_741 2 rfl 4 rfl ?_
  refine v_callV0 (As := []) (rest := []) cw_L_81 (hy_X8_thrown) g (vM.frameL (mr_thrown C.l C.D am M1) ((ao, aJ C.D 1 tj1) :: BW C.D ad S1)) dlaw_742 87 rfl rfl rfl (by decide) ⟨hk, hn⟩ (by decide) _ rfl (fun r wo h => ?_)
  obtain ⟨wo4, ⟨rfl, rfl⟩, rfl⟩ := h
  show VJ C (k + 1) (n + 6) 745 [(6, .int a2), (5, .int (nI c1)), (0, .ref b), (1, .ref (ad 0)), (2, .ref (am 0)), (3, .ref ao), (4, .int (nI i))] [.int (nI M1.f_thrown)] ((ao, aJ C.D 1 tj1) :: (BW C.D ad S1 ++ MW C.D am M1))
  rw [ht2]
  refine v_iload g dlaw_745 1 rfl ?_
  refine v_icmp_eq g 752 dlaw_747 (by decide) (fun _ => ?_) (fun h => absurd rfl h)
  refine v_iload g dlaw_752 1 rfl ?_
  refine v_if_neN g 769 dlaw_754 (by decide) (Nat.lt_trans (cb_seal hR1) (by decide)) (fun _ => ?_) (fun hc => ?_)
  · skip
    refine v_goto g 1147 dlaw_769 (by decide) ?_
    exact v_lpick [2, 3, 4, 5, 6] [(0, .ref b), (1, .ref (ad 0)), (2, .ref (am 0)), (3, .ref ao), (4, .int (nI i))] rfl (KK S1 M1 tj1 hB1 hM1 hE1)
  · skip
    refine v_aload_n g dlaw_757 3 rfl 5 rfl ?_
    refine v_iconst g dlaw_758 (v := nI 0) (by decide +kernel) ?_
    refine v_laldJ g 0 rfl (by decide) (by decide) dlaw_759 ?_
    refine v_iload g dlaw_760 0 rfl ?_
    refine v_i2l g dlaw_762 ?_
    refine v_lcmp g dlaw_763 ?_
    refine v_if_eq g 769 dlaw_764 (by decide) (fun _ => ?_) (fun h => absurd ((lg_cmp_eq _ _).mpr ((ha1 hc).trans (congrArg Int32.toInt64 (hA hc)))) h)
    refine v_goto g 1147 dlaw_769 (by decide) ?_
    exact v_lpick [2, 3, 4, 5, 6] [(0, .ref b), (1, .ref (ad 0)), (2, .ref (am 0)), (3, .ref ao), (4, .int (nI i))] rfl (KK S1 M1 tj1 hB1 hM1 hE1)
set_option maxRecDepth 100000 in
set_option maxHeartbeats 4000000 in
theorem k_unseal {C : Cx} {k n i b L ao : Nat} {xs : Nat → Int32} {ad am : Nat → Nat} {S : Sc} {M : Sm} {tj : Nat → Int64} (g : vG C code RL 8 room_1) (hNA : NoA C.s) (hT : noTr C.l) (hX : va_X b L xs C.s C.s.heap) (hbl : b < C.s.heap.size) (hbA : ¬ C.A b) (hL : L < 2 ^ 31) (hi : i + 5 ≤ L) (hk : k + 1 ≤ 601024) (hn : n + 6 ≤ 7293034) (hB : IB S) (hM : IM M) (hE : Eqv S.k (coM M))
    (KK : ∀ (S' : Sc) (M' : Sm) (tj' : Nat → Int64), IB S' → IM M' → Eqv S'.k (coM M') → VJ C (k + 1) (n + 6) 1147 [(0, .ref b), (1, .ref (ad 0)), (2, .ref (am 0)), (3, .ref ao), (4, .int (nI i))] [] ((ao, aJ C.D 1 tj') :: (BW C.D ad S' ++ MW C.D am M'))) : VJ C k n 772 [(0, .ref b), (1, .ref (ad 0)), (2, .ref (am 0)), (3, .ref ao), (4, .int (nI i))] [] ((ao, aJ C.D 1 tj) :: (BW C.D ad S ++ MW C.D am M)) := by
  refine v_aload_n g dlaw_772 1 rfl 1 rfl ?_
  refine v_aload_n g dlaw_773 0 rfl 0 rfl ?_
  refine v_iload g dlaw_774 4 rfl ?_
  refine v_iconst g dlaw_776 (v := nI 1) (by decide +kernel) ?_
  refine v_iaddN g dlaw_777 ?_
  refine v_sld g hX hbl hbA (by omega) hL dlaw_778 ?_
  refine v_aload_n g dlaw_779 0 rfl 0 rfl ?_
  refine v_iload g dlaw_780 4 rfl ?_
  refine v_iconst g dlaw_782 (v := nI 2) (by decide +kernel) ?_
  refine v_iaddN g dlaw_783 ?_
  refine v_sld g hX hbl hbA (by omega) hL dlaw_784 ?_
  refine v_i2lW g ((xs (i + 2)).toBitVec) rfl dlaw_785 ?_
  refine v_bipush g dlaw_786 (v := nI 32) (by decide +kernel) ?_
  refine v_lshlX g (by omega) dlaw_788 ?_
  refine v_aload_n g dlaw_789 0 rfl 0 rfl ?_
  refine v_iload g dlaw_790 4 rfl ?_
  refine v_iconst g dlaw_792 (v := nI 3) (by decide +kernel) ?_
  refine v_iaddN g dlaw_793 ?_
  refine v_sld g hX hbl hbA (by omega) hL dlaw_794 ?_
  refine v_i2lW g ((xs (i + 3)).toBitVec) rfl dlaw_795 ?_
  refine v_ldc2 g dlaw_796 kl_L_73 ?_
  refine v_landX g (((xs (i + 3)).toBitVec).signExtend 64) (4294967295#64) rfl (xL_n _) dlaw_799 ?_
  refine v_lorX g ((((xs (i + 2)).toBitVec).signExtend 64) <<< 32) ((((xs (i + 3)).toBitVec).signExtend 64) &&& 4294967295#64) rfl rfl dlaw_800 ?_
  refine v_aload_n g dlaw_801 0 rfl 0 rfl ?_
  refine v_iload g dlaw_802 4 rfl ?_
  refine v_iconst g dlaw_804 (v := nI 4) (by decide +kernel) ?_
  refine v_iaddN g dlaw_805 ?_
  refine v_sld g hX hbl hbA (by omega) hL dlaw_806 ?_
  refine v_aload_n g dlaw_807 3 rfl 3 rfl ?_
  refine v_callSW0 (As := [.ref (ad 0), .int (xs (i + 1)), .long (xL (((((xs (i + 2)).toBitVec).signExtend 64) <<< 32) ||| ((((xs (i + 3)).toBitVec).signExtend 64) &&& 4294967295#64))), .int (xs (i + 4)), .ref ao]) (rest := []) ws_126 hw_L_open g hNA (vMW.frameR (w_unseal C.l hT C.D ad S hB ao tj (xs (i + 1)) ((((xs (i + 2)).toBitVec.signExtend 64) <<< 32) ||| (((xs (i + 3)).toBitVec.signExtend 64) &&& 4294967295#64)) (xs (i + 4))) (MW C.D am M)) dlaw_808 rfl (by decide) ⟨hk, hn⟩ (by decide) _ rfl (fun r wo h => ?_)
  obtain ⟨wo1, ⟨S1, c1, a1, tj1, rfl, rfl, hR1, ha1, hB1⟩, rfl⟩ := h
  show VJ C (k + 1) (n + 6) 811 [(0, .ref b), (1, .ref (ad 0)), (2, .ref (am 0)), (3, .ref ao), (4, .int (nI i))] [.int (nI c1)] ((ao, aJ C.D 1 tj1) :: (BW C.D ad S1 ++ MW C.D am M))
  refine v_istore g [(5, .int (nI c1)), (0, .ref b), (1, .ref (ad 0)), (2, .ref (am 0)), (3, .ref ao), (4, .int (nI i))] dlaw_811 (by decide) rfl ?_
  refine v_aload_n g dlaw_813 2 rfl 3 rfl ?_
  refine v_aload_n g dlaw_814 0 rfl 1 rfl ?_
  refine v_iload g dlaw_815 5 rfl ?_
  refine v_iconst g dlaw_817 (v := nI 1) (by decide +kernel) ?_
  refine v_iaddN g dlaw_818 ?_
  refine v_sld g hX hbl hbA (by omega) hL dlaw_819 ?_
  refine v_aload_n g dlaw_820 0 rfl 1 rfl ?_
  refine v_iload g dlaw_821 5 rfl ?_
  refine v_iconst g dlaw_823 (v := nI 2) (by decide +kernel) ?_
  refine v_iaddN g dlaw_824 ?_
  refine v_sld g hX hbl hbA (by omega) hL dlaw_825 ?_
  refine v_i2lW g ((xs (i + 2)).toBitVec) rfl dlaw_826 ?_
  refine v_bipush g dlaw_827 (v := nI 32) (by decide +kernel) ?_
  refine v_lshlX g (by omega) dlaw_829 ?_
  refine v_aload_n g dlaw_830 0 rfl 1 rfl ?_
  refine v_iload g dlaw_831 5 rfl ?_
  refine v_iconst g dlaw_833 (v := nI 3) (by decide +kernel) ?_
  refine v_iaddN g dlaw_834 ?_
  refine v_sld g hX hbl hbA (by omega) hL dlaw_835 ?_
  refine v_i2lW g ((xs (i + 3)).toBitVec) rfl dlaw_836 ?_
  refine v_ldc2 g dlaw_837 kl_L_73 ?_
  refine v_landX g (((xs (i + 3)).toBitVec).signExtend 64) (4294967295#64) rfl (xL_n _) dlaw_840 ?_
  refine v_lorX g ((((xs (i + 2)).toBitVec).signExtend 64) <<< 32) ((((xs (i + 3)).toBitVec).signExtend 64) &&& 4294967295#64) rfl rfl dlaw_841 ?_
  refine v_aload_n g dlaw_842 0 rfl 1 rfl ?_
  refine v_iload g dlaw_843 5 rfl ?_
  refine v_iconst g dlaw_845 (v := nI 4) (by decide +kernel) ?_
  refine v_iaddN g dlaw_846 ?_
  refine v_sld g hX hbl hbA (by omega) hL dlaw_847 ?_
  refine v_callV0 (As := [.int (xs (i + 1)), .long (xL (((((xs (i + 2)).toBitVec).signExtend 64) <<< 32) ||| ((((xs (i + 3)).toBitVec).signExtend 64) &&& 4294967295#64))), .int (xs (i + 4))]) (rest := []) cw_L_128 (hy_X8_open) g (vM.frameL (mr_unseal C.l C.D am M hM (xs (i + 1)) ((((xs (i + 2)).toBitVec.signExtend 64) <<< 32) ||| (((xs (i + 3)).toBitVec.signExtend 64) &&& 4294967295#64)) (xs (i + 4))) ((ao, aJ C.D 1 tj1) :: BW C.D ad S1)) dlaw_848 87 rfl rfl rfl (by decide) ⟨hk, hn⟩ (by decide) _ rfl (fun r wo h => ?_)
  obtain ⟨wo3, ⟨M1, c2, a2, rfl, rfl, hR2, ht2, hM1⟩, rfl⟩ := h
  show VJ C (k + 1) (n + 6) 851 [(5, .int (nI c1)), (0, .ref b), (1, .ref (ad 0)), (2, .ref (am 0)), (3, .ref ao), (4, .int (nI i))] [.int a2] ((ao, aJ C.D 1 tj1) :: (BW C.D ad S1 ++ MW C.D am M1))
  obtain ⟨rfl, hA, hE1⟩ := det_unseal hE hB.1 _ _ _ hR1 hR2
  refine v_istore g [(6, .int a2), (5, .int (nI c1)), (0, .ref b), (1, .ref (ad 0)), (2, .ref (am 0)), (3, .ref ao), (4, .int (nI i))] dlaw_851 (by decide) rfl ?_
  refine v_aload_n g dlaw_853 2 rfl 4 rfl ?_
  refine v_callV0 (As := []) (rest := []) cw_L_81 (hy_X8_thrown) g (vM.frameL (mr_thrown C.l C.D am M1) ((ao, aJ C.D 1 tj1) :: BW C.D ad S1)) dlaw_854 87 rfl rfl rfl (by decide) ⟨hk, hn⟩ (by decide) _ rfl (fun r wo h => ?_)
  obtain ⟨wo4, ⟨rfl, rfl⟩, rfl⟩ := h
  show VJ C (k + 1) (n + 6) 857 [(6, .int a2), (5, .int (nI c1)), (0, .ref b), (1, .ref (ad 0)), (2, .ref (am 0)), (3, .ref ao), (4, .int (nI i))] [.int (nI M1.f_thrown)] ((ao, aJ C.D 1 tj1) :: (BW C.D ad S1 ++ MW C.D am M1))
  rw [ht2]
  refine v_iload g dlaw_857 1 rfl ?_
  refine v_icmp_eq g 864 dlaw_859 (by decide) (fun _ => ?_) (fun h => absurd rfl h)
  refine v_iload g dlaw_864 1 rfl ?_
  refine v_if_neN g 881 dlaw_866 (by decide) (Nat.lt_trans (cb_unseal hR1) (by decide)) (fun _ => ?_) (fun hc => ?_)
  · skip
    refine v_goto g 1147 dlaw_881 (by decide) ?_
    exact v_lpick [2, 3, 4, 5, 6] [(0, .ref b), (1, .ref (ad 0)), (2, .ref (am 0)), (3, .ref ao), (4, .int (nI i))] rfl (KK S1 M1 tj1 hB1 hM1 hE1)
  · skip
    refine v_aload_n g dlaw_869 3 rfl 5 rfl ?_
    refine v_iconst g dlaw_870 (v := nI 0) (by decide +kernel) ?_
    refine v_laldJ g 0 rfl (by decide) (by decide) dlaw_871 ?_
    refine v_iload g dlaw_872 0 rfl ?_
    refine v_i2l g dlaw_874 ?_
    refine v_lcmp g dlaw_875 ?_
    refine v_if_eq g 881 dlaw_876 (by decide) (fun _ => ?_) (fun h => absurd ((lg_cmp_eq _ _).mpr ((ha1 hc).trans (congrArg Int32.toInt64 (hA hc)))) h)
    refine v_goto g 1147 dlaw_881 (by decide) ?_
    exact v_lpick [2, 3, 4, 5, 6] [(0, .ref b), (1, .ref (ad 0)), (2, .ref (am 0)), (3, .ref ao), (4, .int (nI i))] rfl (KK S1 M1 tj1 hB1 hM1 hE1)
