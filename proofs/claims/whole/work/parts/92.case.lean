/-! the law: what a call does to both -/
set_option maxRecDepth 100000 in
set_option maxHeartbeats 4000000 in
theorem k_shield0 {C : Cx} {k n i b L ao : Nat} {xs : Nat → Int32} {ad am : Nat → Nat} {S : Sc} {M : Sm} {tj : Nat → Int64} (g : vG C code RL 8 room_1) (hNA : NoA C.s) (hT : noTr C.l) (hX : va_X b L xs C.s C.s.heap) (hbl : b < C.s.heap.size) (hbA : ¬ C.A b) (hL : L < 2 ^ 31) (hi : i + 5 ≤ L) (hk : k + 1 ≤ 601024) (hn : n + 6 ≤ 7293034) (hB : IB S) (hM : IM M) (hE : Eqv S.k (coM M)) (hz : xs (i + 3) = 0)
    (KK : ∀ (S' : Sc) (M' : Sm) (tj' : Nat → Int64), IB S' → IM M' → Eqv S'.k (coM M') → VJ C (k + 1) (n + 6) 1147 [(0, .ref b), (1, .ref (ad 0)), (2, .ref (am 0)), (3, .ref ao), (4, .int (nI i))] [] ((ao, aJ C.D 1 tj') :: (BW C.D ad S' ++ MW C.D am M'))) : VJ C k n 884 [(0, .ref b), (1, .ref (ad 0)), (2, .ref (am 0)), (3, .ref ao), (4, .int (nI i))] [] ((ao, aJ C.D 1 tj) :: (BW C.D ad S ++ MW C.D am M)) := by
  refine v_aload_n g dlaw_884 1 rfl 1 rfl ?_
  refine v_aload_n g dlaw_885 0 rfl 0 rfl ?_
  refine v_iload g dlaw_886 4 rfl ?_
  refine v_iconst g dlaw_888 (v := nI 1) (by decide +kernel) ?_
  refine v_iaddN g dlaw_889 ?_
  refine v_sld g hX hbl hbA (by omega) hL dlaw_890 ?_
  refine v_aload_n g dlaw_891 0 rfl 0 rfl ?_
  refine v_iload g dlaw_892 4 rfl ?_
  refine v_iconst g dlaw_894 (v := nI 2) (by decide +kernel) ?_
  refine v_iaddN g dlaw_895 ?_
  refine v_sld g hX hbl hbA (by omega) hL dlaw_896 ?_
  refine v_aload_n g dlaw_897 0 rfl 0 rfl ?_
  refine v_iload g dlaw_898 4 rfl ?_
  refine v_iconst g dlaw_900 (v := nI 3) (by decide +kernel) ?_
  refine v_iaddN g dlaw_901 ?_
  refine v_sld g hX hbl hbA (by omega) hL dlaw_902 ?_
  refine v_if_eq g 910 dlaw_903 (by decide) (fun _ => ?_) (fun h => absurd hz h)
  refine v_iconst g dlaw_910 (v := nI 0) (by decide +kernel) ?_
  refine v_aload_n g dlaw_911 3 rfl 3 rfl ?_
  refine v_callSW0 (As := [.ref (ad 0), .int (xs (i + 1)), .int (xs (i + 2)), .int (nI 0), .ref ao]) (rest := []) ws_129 hw_L_shield g hNA (vMW.frameR (w_shield C.l hT C.D ad S hB ao tj (xs (i + 1)) (xs (i + 2)) 0 (by decide)) (MW C.D am M)) dlaw_912 rfl (by decide) ⟨hk, hn⟩ (by decide) _ rfl (fun r wo h => ?_)
  obtain ⟨wo1, ⟨S1, c1, a1, tj1, rfl, rfl, hR1, ha1, hB1⟩, rfl⟩ := h
  show VJ C (k + 1) (n + 6) 915 [(0, .ref b), (1, .ref (ad 0)), (2, .ref (am 0)), (3, .ref ao), (4, .int (nI i))] [.int (nI c1)] ((ao, aJ C.D 1 tj1) :: (BW C.D ad S1 ++ MW C.D am M))
  refine v_istore g [(5, .int (nI c1)), (0, .ref b), (1, .ref (ad 0)), (2, .ref (am 0)), (3, .ref ao), (4, .int (nI i))] dlaw_915 (by decide) rfl ?_
  refine v_aload_n g dlaw_917 2 rfl 3 rfl ?_
  refine v_aload_n g dlaw_918 0 rfl 1 rfl ?_
  refine v_iload g dlaw_919 5 rfl ?_
  refine v_iconst g dlaw_921 (v := nI 1) (by decide +kernel) ?_
  refine v_iaddN g dlaw_922 ?_
  refine v_sld g hX hbl hbA (by omega) hL dlaw_923 ?_
  refine v_aload_n g dlaw_924 0 rfl 1 rfl ?_
  refine v_iload g dlaw_925 5 rfl ?_
  refine v_iconst g dlaw_927 (v := nI 2) (by decide +kernel) ?_
  refine v_iaddN g dlaw_928 ?_
  refine v_sld g hX hbl hbA (by omega) hL dlaw_929 ?_
  refine v_aload_n g dlaw_930 0 rfl 1 rfl ?_
  refine v_iload g dlaw_931 5 rfl ?_
  refine v_iconst g dlaw_933 (v := nI 3) (by decide +kernel) ?_
  refine v_iaddN g dlaw_934 ?_
  refine v_sld g hX hbl hbA (by omega) hL dlaw_935 ?_
  refine v_if_eq g 943 dlaw_936 (by decide) (fun _ => ?_) (fun h => absurd hz h)
  refine v_iconst g dlaw_943 (v := nI 0) (by decide +kernel) ?_
  refine v_callV0 (As := [.int (xs (i + 1)), .int (xs (i + 2)), .int (nI 0)]) (rest := []) cw_L_132 (hy_X8_shield) g (vM.frameL (mr_shd C.l C.D am M hM (xs (i + 1)) (xs (i + 2)) 0 (by decide)) ((ao, aJ C.D 1 tj1) :: BW C.D ad S1)) dlaw_944 87 rfl rfl rfl (by decide) ⟨hk, hn⟩ (by decide) _ rfl (fun r wo h => ?_)
  obtain ⟨wo3, ⟨M1, c2, a2, rfl, rfl, hR2, ht2, hM1⟩, rfl⟩ := h
  show VJ C (k + 1) (n + 6) 947 [(5, .int (nI c1)), (0, .ref b), (1, .ref (ad 0)), (2, .ref (am 0)), (3, .ref ao), (4, .int (nI i))] [.int a2] ((ao, aJ C.D 1 tj1) :: (BW C.D ad S1 ++ MW C.D am M1))
  obtain ⟨rfl, hA, hE1⟩ := det_shd hE hB.1 _ _ _ hR1 hR2
  refine v_istore g [(6, .int a2), (5, .int (nI c1)), (0, .ref b), (1, .ref (ad 0)), (2, .ref (am 0)), (3, .ref ao), (4, .int (nI i))] dlaw_947 (by decide) rfl ?_
  refine v_aload_n g dlaw_949 2 rfl 4 rfl ?_
  refine v_callV0 (As := []) (rest := []) cw_L_81 (hy_X8_thrown) g (vM.frameL (mr_thrown C.l C.D am M1) ((ao, aJ C.D 1 tj1) :: BW C.D ad S1)) dlaw_950 87 rfl rfl rfl (by decide) ⟨hk, hn⟩ (by decide) _ rfl (fun r wo h => ?_)
  obtain ⟨wo4, ⟨rfl, rfl⟩, rfl⟩ := h
  show VJ C (k + 1) (n + 6) 953 [(6, .int a2), (5, .int (nI c1)), (0, .ref b), (1, .ref (ad 0)), (2, .ref (am 0)), (3, .ref ao), (4, .int (nI i))] [.int (nI M1.f_thrown)] ((ao, aJ C.D 1 tj1) :: (BW C.D ad S1 ++ MW C.D am M1))
  rw [ht2]
  refine v_iload g dlaw_953 1 rfl ?_
  refine v_icmp_eq g 960 dlaw_955 (by decide) (fun _ => ?_) (fun h => absurd rfl h)
  refine v_iload g dlaw_960 1 rfl ?_
  refine v_if_neN g 977 dlaw_962 (by decide) (Nat.lt_trans (cb_shd hR1) (by decide)) (fun _ => ?_) (fun hc => ?_)
  · skip
    refine v_goto g 1147 dlaw_977 (by decide) ?_
    exact v_lpick [2, 3, 4, 5, 6] [(0, .ref b), (1, .ref (ad 0)), (2, .ref (am 0)), (3, .ref ao), (4, .int (nI i))] rfl (KK S1 M1 tj1 hB1 hM1 hE1)
  · skip
    refine v_aload_n g dlaw_965 3 rfl 5 rfl ?_
    refine v_iconst g dlaw_966 (v := nI 0) (by decide +kernel) ?_
    refine v_laldJ g 0 rfl (by decide) (by decide) dlaw_967 ?_
    refine v_iload g dlaw_968 0 rfl ?_
    refine v_i2l g dlaw_970 ?_
    refine v_lcmp g dlaw_971 ?_
    refine v_if_eq g 977 dlaw_972 (by decide) (fun _ => ?_) (fun h => absurd ((lg_cmp_eq _ _).mpr ((ha1 hc).trans (congrArg Int32.toInt64 (hA hc)))) h)
    refine v_goto g 1147 dlaw_977 (by decide) ?_
    exact v_lpick [2, 3, 4, 5, 6] [(0, .ref b), (1, .ref (ad 0)), (2, .ref (am 0)), (3, .ref ao), (4, .int (nI i))] rfl (KK S1 M1 tj1 hB1 hM1 hE1)
set_option maxRecDepth 100000 in
set_option maxHeartbeats 4000000 in
theorem k_shield1 {C : Cx} {k n i b L ao : Nat} {xs : Nat → Int32} {ad am : Nat → Nat} {S : Sc} {M : Sm} {tj : Nat → Int64} (g : vG C code RL 8 room_1) (hNA : NoA C.s) (hT : noTr C.l) (hX : va_X b L xs C.s C.s.heap) (hbl : b < C.s.heap.size) (hbA : ¬ C.A b) (hL : L < 2 ^ 31) (hi : i + 5 ≤ L) (hk : k + 1 ≤ 601024) (hn : n + 6 ≤ 7293034) (hB : IB S) (hM : IM M) (hE : Eqv S.k (coM M)) (hz : ¬ xs (i + 3) = 0)
    (KK : ∀ (S' : Sc) (M' : Sm) (tj' : Nat → Int64), IB S' → IM M' → Eqv S'.k (coM M') → VJ C (k + 1) (n + 6) 1147 [(0, .ref b), (1, .ref (ad 0)), (2, .ref (am 0)), (3, .ref ao), (4, .int (nI i))] [] ((ao, aJ C.D 1 tj') :: (BW C.D ad S' ++ MW C.D am M'))) : VJ C k n 884 [(0, .ref b), (1, .ref (ad 0)), (2, .ref (am 0)), (3, .ref ao), (4, .int (nI i))] [] ((ao, aJ C.D 1 tj) :: (BW C.D ad S ++ MW C.D am M)) := by
  refine v_aload_n g dlaw_884 1 rfl 1 rfl ?_
  refine v_aload_n g dlaw_885 0 rfl 0 rfl ?_
  refine v_iload g dlaw_886 4 rfl ?_
  refine v_iconst g dlaw_888 (v := nI 1) (by decide +kernel) ?_
  refine v_iaddN g dlaw_889 ?_
  refine v_sld g hX hbl hbA (by omega) hL dlaw_890 ?_
  refine v_aload_n g dlaw_891 0 rfl 0 rfl ?_
  refine v_iload g dlaw_892 4 rfl ?_
  refine v_iconst g dlaw_894 (v := nI 2) (by decide +kernel) ?_
  refine v_iaddN g dlaw_895 ?_
  refine v_sld g hX hbl hbA (by omega) hL dlaw_896 ?_
  refine v_aload_n g dlaw_897 0 rfl 0 rfl ?_
  refine v_iload g dlaw_898 4 rfl ?_
  refine v_iconst g dlaw_900 (v := nI 3) (by decide +kernel) ?_
  refine v_iaddN g dlaw_901 ?_
  refine v_sld g hX hbl hbA (by omega) hL dlaw_902 ?_
  refine v_if_eq g 910 dlaw_903 (by decide) (fun h => absurd h hz) (fun _ => ?_)
  refine v_iconst g dlaw_906 (v := nI 1) (by decide +kernel) ?_
  refine v_goto g 911 dlaw_907 (by decide) ?_
  refine v_aload_n g dlaw_911 3 rfl 3 rfl ?_
  refine v_callSW0 (As := [.ref (ad 0), .int (xs (i + 1)), .int (xs (i + 2)), .int (nI 1), .ref ao]) (rest := []) ws_129 hw_L_shield g hNA (vMW.frameR (w_shield C.l hT C.D ad S hB ao tj (xs (i + 1)) (xs (i + 2)) 1 (by decide)) (MW C.D am M)) dlaw_912 rfl (by decide) ⟨hk, hn⟩ (by decide) _ rfl (fun r wo h => ?_)
  obtain ⟨wo1, ⟨S1, c1, a1, tj1, rfl, rfl, hR1, ha1, hB1⟩, rfl⟩ := h
  show VJ C (k + 1) (n + 6) 915 [(0, .ref b), (1, .ref (ad 0)), (2, .ref (am 0)), (3, .ref ao), (4, .int (nI i))] [.int (nI c1)] ((ao, aJ C.D 1 tj1) :: (BW C.D ad S1 ++ MW C.D am M))
  refine v_istore g [(5, .int (nI c1)), (0, .ref b), (1, .ref (ad 0)), (2, .ref (am 0)), (3, .ref ao), (4, .int (nI i))] dlaw_915 (by decide) rfl ?_
  refine v_aload_n g dlaw_917 2 rfl 3 rfl ?_
  refine v_aload_n g dlaw_918 0 rfl 1 rfl ?_
  refine v_iload g dlaw_919 5 rfl ?_
  refine v_iconst g dlaw_921 (v := nI 1) (by decide +kernel) ?_
  refine v_iaddN g dlaw_922 ?_
  refine v_sld g hX hbl hbA (by omega) hL dlaw_923 ?_
  refine v_aload_n g dlaw_924 0 rfl 1 rfl ?_
  refine v_iload g dlaw_925 5 rfl ?_
  refine v_iconst g dlaw_927 (v := nI 2) (by decide +kernel) ?_
  refine v_iaddN g dlaw_928 ?_
  refine v_sld g hX hbl hbA (by omega) hL dlaw_929 ?_
  refine v_aload_n g dlaw_930 0 rfl 1 rfl ?_
  refine v_iload g dlaw_931 5 rfl ?_
  refine v_iconst g dlaw_933 (v := nI 3) (by decide +kernel) ?_
  refine v_iaddN g dlaw_934 ?_
  refine v_sld g hX hbl hbA (by omega) hL dlaw_935 ?_
  refine v_if_eq g 943 dlaw_936 (by decide) (fun h => absurd h hz) (fun _ => ?_)
  refine v_iconst g dlaw_939 (v := nI 1) (by decide +kernel) ?_
  refine v_goto g 944 dlaw_940 (by decide) ?_
  refine v_callV0 (As := [.int (xs (i + 1)), .int (xs (i + 2)), .int (nI 1)]) (rest := []) cw_L_132 (hy_X8_shield) g (vM.frameL (mr_shd C.l C.D am M hM (xs (i + 1)) (xs (i + 2)) 1 (by decide)) ((ao, aJ C.D 1 tj1) :: BW C.D ad S1)) dlaw_944 87 rfl rfl rfl (by decide) ⟨hk, hn⟩ (by decide) _ rfl (fun r wo h => ?_)
  obtain ⟨wo3, ⟨M1, c2, a2, rfl, rfl, hR2, ht2, hM1⟩, rfl⟩ := h
  show VJ C (k + 1) (n + 6) 947 [(5, .int (nI c1)), (0, .ref b), (1, .ref (ad 0)), (2, .ref (am 0)), (3, .ref ao), (4, .int (nI i))] [.int a2] ((ao, aJ C.D 1 tj1) :: (BW C.D ad S1 ++ MW C.D am M1))
  obtain ⟨rfl, hA, hE1⟩ := det_shd hE hB.1 _ _ _ hR1 hR2
  refine v_istore g [(6, .int a2), (5, .int (nI c1)), (0, .ref b), (1, .ref (ad 0)), (2, .ref (am 0)), (3, .ref ao), (4, .int (nI i))] dlaw_947 (by decide) rfl ?_
  refine v_aload_n g dlaw_949 2 rfl 4 rfl ?_
  refine v_callV0 (As := []) (rest := []) cw_L_81 (hy_X8_thrown) g (vM.frameL (mr_thrown C.l C.D am M1) ((ao, aJ C.D 1 tj1) :: BW C.D ad S1)) dlaw_950 87 rfl rfl rfl (by decide) ⟨hk, hn⟩ (by decide) _ rfl (fun r wo h => ?_)
  obtain ⟨wo4, ⟨rfl, rfl⟩, rfl⟩ := h
  show VJ C (k + 1) (n + 6) 953 [(6, .int a2), (5, .int (nI c1)), (0, .ref b), (1, .ref (ad 0)), (2, .ref (am 0)), (3, .ref ao), (4, .int (nI i))] [.int (nI M1.f_thrown)] ((ao, aJ C.D 1 tj1) :: (BW C.D ad S1 ++ MW C.D am M1))
  rw [ht2]
  refine v_iload g dlaw_953 1 rfl ?_
  refine v_icmp_eq g 960 dlaw_955 (by decide) (fun _ => ?_) (fun h => absurd rfl h)
  refine v_iload g dlaw_960 1 rfl ?_
  refine v_if_neN g 977 dlaw_962 (by decide) (Nat.lt_trans (cb_shd hR1) (by decide)) (fun _ => ?_) (fun hc => ?_)
  · skip
    refine v_goto g 1147 dlaw_977 (by decide) ?_
    exact v_lpick [2, 3, 4, 5, 6] [(0, .ref b), (1, .ref (ad 0)), (2, .ref (am 0)), (3, .ref ao), (4, .int (nI i))] rfl (KK S1 M1 tj1 hB1 hM1 hE1)
  · skip
    refine v_aload_n g dlaw_965 3 rfl 5 rfl ?_
    refine v_iconst g dlaw_966 (v := nI 0) (by decide +kernel) ?_
    refine v_laldJ g 0 rfl (by decide) (by decide) dlaw_967 ?_
    refine v_iload g dlaw_968 0 rfl ?_
    refine v_i2l g dlaw_970 ?_
    refine v_lcmp g dlaw_971 ?_
    refine v_if_eq g 977 dlaw_972 (by decide) (fun _ => ?_) (fun h => absurd ((lg_cmp_eq _ _).mpr ((ha1 hc).trans (congrArg Int32.toInt64 (hA hc)))) h)
    refine v_goto g 1147 dlaw_977 (by decide) ?_
    exact v_lpick [2, 3, 4, 5, 6] [(0, .ref b), (1, .ref (ad 0)), (2, .ref (am 0)), (3, .ref ao), (4, .int (nI i))] rfl (KK S1 M1 tj1 hB1 hM1 hE1)
set_option maxRecDepth 100000 in
set_option maxHeartbeats 4000000 in
theorem k_out {C : Cx} {k n i b L ao : Nat} {xs : Nat → Int32} {ad am : Nat → Nat} {S : Sc} {M : Sm} {tj : Nat → Int64} (g : vG C code RL 8 room_1) (hNA : NoA C.s) (hT : noTr C.l) (hX : va_X b L xs C.s C.s.heap) (hbl : b < C.s.heap.size) (hbA : ¬ C.A b) (hL : L < 2 ^ 31) (hi : i + 5 ≤ L) (hk : k + 1 ≤ 601024) (hn : n + 6 ≤ 7293034) (hB : IB S) (hM : IM M) (hE : Eqv S.k (coM M))
    (KK : ∀ (S' : Sc) (M' : Sm) (tj' : Nat → Int64), IB S' → IM M' → Eqv S'.k (coM M') → VJ C (k + 1) (n + 6) 1147 [(0, .ref b), (1, .ref (ad 0)), (2, .ref (am 0)), (3, .ref ao), (4, .int (nI i))] [] ((ao, aJ C.D 1 tj') :: (BW C.D ad S' ++ MW C.D am M'))) : VJ C k n 980 [(0, .ref b), (1, .ref (ad 0)), (2, .ref (am 0)), (3, .ref ao), (4, .int (nI i))] [] ((ao, aJ C.D 1 tj) :: (BW C.D ad S ++ MW C.D am M)) := by
  refine v_aload_n g dlaw_980 1 rfl 1 rfl ?_
  refine v_aload_n g dlaw_981 0 rfl 0 rfl ?_
  refine v_iload g dlaw_982 4 rfl ?_
  refine v_iconst g dlaw_984 (v := nI 1) (by decide +kernel) ?_
  refine v_iaddN g dlaw_985 ?_
  refine v_sld g hX hbl hbA (by omega) hL dlaw_986 ?_
  refine v_aload_n g dlaw_987 3 rfl 3 rfl ?_
  refine v_callSW0 (As := [.ref (ad 0), .int (xs (i + 1)), .ref ao]) (rest := []) ws_133 hw_L_out g hNA (vMW.frameR (w_get C.l hT C.D ad S hB ao tj (xs (i + 1))) (MW C.D am M)) dlaw_988 rfl (by decide) ⟨hk, hn⟩ (by decide) _ rfl (fun r wo h => ?_)
  obtain ⟨wo1, ⟨S1, c1, a1, tj1, rfl, rfl, hR1, ha1, hB1⟩, rfl⟩ := h
  show VJ C (k + 1) (n + 6) 991 [(0, .ref b), (1, .ref (ad 0)), (2, .ref (am 0)), (3, .ref ao), (4, .int (nI i))] [.int (nI c1)] ((ao, aJ C.D 1 tj1) :: (BW C.D ad S1 ++ MW C.D am M))
  refine v_istore g [(5, .int (nI c1)), (0, .ref b), (1, .ref (ad 0)), (2, .ref (am 0)), (3, .ref ao), (4, .int (nI i))] dlaw_991 (by decide) rfl ?_
  refine v_aload_n g dlaw_993 2 rfl 3 rfl ?_
  refine v_aload_n g dlaw_994 0 rfl 1 rfl ?_
  refine v_iload g dlaw_995 5 rfl ?_
  refine v_iconst g dlaw_997 (v := nI 1) (by decide +kernel) ?_
  refine v_iaddN g dlaw_998 ?_
  refine v_sld g hX hbl hbA (by omega) hL dlaw_999 ?_
  refine v_callV0 (As := [.int (xs (i + 1))]) (rest := []) cw_L_135 (hy_X8_out) g (vM.frameL (mr_get C.l C.D am M hM (xs (i + 1))) ((ao, aJ C.D 1 tj1) :: BW C.D ad S1)) dlaw_1000 87 rfl rfl rfl (by decide) ⟨hk, hn⟩ (by decide) _ rfl (fun r wo h => ?_)
  obtain ⟨wo3, ⟨M1, c2, a2, rfl, rfl, hR2, ht2, hM1⟩, rfl⟩ := h
  show VJ C (k + 1) (n + 6) 1003 [(5, .int (nI c1)), (0, .ref b), (1, .ref (ad 0)), (2, .ref (am 0)), (3, .ref ao), (4, .int (nI i))] [.int a2] ((ao, aJ C.D 1 tj1) :: (BW C.D ad S1 ++ MW C.D am M1))
  obtain ⟨rfl, hA, hE1⟩ := det_get hE hB.1 _ hR1 hR2
  refine v_istore g [(6, .int a2), (5, .int (nI c1)), (0, .ref b), (1, .ref (ad 0)), (2, .ref (am 0)), (3, .ref ao), (4, .int (nI i))] dlaw_1003 (by decide) rfl ?_
  refine v_aload_n g dlaw_1005 2 rfl 4 rfl ?_
  refine v_callV0 (As := []) (rest := []) cw_L_81 (hy_X8_thrown) g (vM.frameL (mr_thrown C.l C.D am M1) ((ao, aJ C.D 1 tj1) :: BW C.D ad S1)) dlaw_1006 87 rfl rfl rfl (by decide) ⟨hk, hn⟩ (by decide) _ rfl (fun r wo h => ?_)
  obtain ⟨wo4, ⟨rfl, rfl⟩, rfl⟩ := h
  show VJ C (k + 1) (n + 6) 1009 [(6, .int a2), (5, .int (nI c1)), (0, .ref b), (1, .ref (ad 0)), (2, .ref (am 0)), (3, .ref ao), (4, .int (nI i))] [.int (nI M1.f_thrown)] ((ao, aJ C.D 1 tj1) :: (BW C.D ad S1 ++ MW C.D am M1))
  rw [ht2]
  refine v_iload g dlaw_1009 1 rfl ?_
  refine v_icmp_eq g 1016 dlaw_1011 (by decide) (fun _ => ?_) (fun h => absurd rfl h)
  refine v_iload g dlaw_1016 1 rfl ?_
  refine v_if_neN g 1033 dlaw_1018 (by decide) (Nat.lt_trans (cb_get hR1) (by decide)) (fun _ => ?_) (fun hc => ?_)
  · skip
    refine v_goto g 1147 dlaw_1033 (by decide) ?_
    exact v_lpick [2, 3, 4, 5, 6] [(0, .ref b), (1, .ref (ad 0)), (2, .ref (am 0)), (3, .ref ao), (4, .int (nI i))] rfl (KK S1 M1 tj1 hB1 hM1 hE1)
  · skip
    refine v_aload_n g dlaw_1021 3 rfl 5 rfl ?_
    refine v_iconst g dlaw_1022 (v := nI 0) (by decide +kernel) ?_
    refine v_laldJ g 0 rfl (by decide) (by decide) dlaw_1023 ?_
    refine v_iload g dlaw_1024 0 rfl ?_
    refine v_i2l g dlaw_1026 ?_
    refine v_lcmp g dlaw_1027 ?_
    refine v_if_eq g 1033 dlaw_1028 (by decide) (fun _ => ?_) (fun h => absurd ((lg_cmp_eq _ _).mpr ((ha1 hc).trans (congrArg Int32.toInt64 (hA hc)))) h)
    refine v_goto g 1147 dlaw_1033 (by decide) ?_
    exact v_lpick [2, 3, 4, 5, 6] [(0, .ref b), (1, .ref (ad 0)), (2, .ref (am 0)), (3, .ref ao), (4, .int (nI i))] rfl (KK S1 M1 tj1 hB1 hM1 hE1)
set_option maxRecDepth 100000 in
set_option maxHeartbeats 4000000 in
theorem k_outs {C : Cx} {k n i b L ao : Nat} {xs : Nat → Int32} {ad am : Nat → Nat} {S : Sc} {M : Sm} {tj : Nat → Int64} (g : vG C code RL 8 room_1) (hNA : NoA C.s) (hT : noTr C.l) (hX : va_X b L xs C.s C.s.heap) (hbl : b < C.s.heap.size) (hbA : ¬ C.A b) (hL : L < 2 ^ 31) (hi : i + 5 ≤ L) (hk : k + 1 ≤ 601024) (hn : n + 6 ≤ 7293034) (hB : IB S) (hM : IM M) (hE : Eqv S.k (coM M))
    (KK : ∀ (S' : Sc) (M' : Sm) (tj' : Nat → Int64), IB S' → IM M' → Eqv S'.k (coM M') → VJ C (k + 1) (n + 6) 1147 [(0, .ref b), (1, .ref (ad 0)), (2, .ref (am 0)), (3, .ref ao), (4, .int (nI i))] [] ((ao, aJ C.D 1 tj') :: (BW C.D ad S' ++ MW C.D am M'))) : VJ C k n 1036 [(0, .ref b), (1, .ref (ad 0)), (2, .ref (am 0)), (3, .ref ao), (4, .int (nI i))] [] ((ao, aJ C.D 1 tj) :: (BW C.D ad S ++ MW C.D am M)) := by
  refine v_aload_n g dlaw_1036 1 rfl 1 rfl ?_
  refine v_aload_n g dlaw_1037 0 rfl 0 rfl ?_
  refine v_iload g dlaw_1038 4 rfl ?_
  refine v_iconst g dlaw_1040 (v := nI 1) (by decide +kernel) ?_
  refine v_iaddN g dlaw_1041 ?_
  refine v_sld g hX hbl hbA (by omega) hL dlaw_1042 ?_
  refine v_aload_n g dlaw_1043 3 rfl 3 rfl ?_
  refine v_callSW0 (As := [.ref (ad 0), .int (xs (i + 1)), .ref ao]) (rest := []) ws_136 hw_L_outs g hNA (vMW.frameR (w_outs C.l hT C.D ad S hB ao tj (xs (i + 1))) (MW C.D am M)) dlaw_1044 rfl (by decide) ⟨hk, hn⟩ (by decide) _ rfl (fun r wo h => ?_)
  obtain ⟨wo1, ⟨S1, c1, a1, tj1, rfl, rfl, hR1, ha1, hB1⟩, rfl⟩ := h
  show VJ C (k + 1) (n + 6) 1047 [(0, .ref b), (1, .ref (ad 0)), (2, .ref (am 0)), (3, .ref ao), (4, .int (nI i))] [.int (nI c1)] ((ao, aJ C.D 1 tj1) :: (BW C.D ad S1 ++ MW C.D am M))
  refine v_istore g [(5, .int (nI c1)), (0, .ref b), (1, .ref (ad 0)), (2, .ref (am 0)), (3, .ref ao), (4, .int (nI i))] dlaw_1047 (by decide) rfl ?_
  refine v_aload_n g dlaw_1049 2 rfl 3 rfl ?_
  refine v_aload_n g dlaw_1050 0 rfl 1 rfl ?_
  refine v_iload g dlaw_1051 5 rfl ?_
  refine v_iconst g dlaw_1053 (v := nI 1) (by decide +kernel) ?_
  refine v_iaddN g dlaw_1054 ?_
  refine v_sld g hX hbl hbA (by omega) hL dlaw_1055 ?_
  refine v_callV0 (As := [.int (xs (i + 1))]) (rest := []) cw_L_138 (hy_X8_outs) g (vM.frameL (mr_outs C.l C.D am M hM (xs (i + 1))) ((ao, aJ C.D 1 tj1) :: BW C.D ad S1)) dlaw_1056 87 rfl rfl rfl (by decide) ⟨hk, hn⟩ (by decide) _ rfl (fun r wo h => ?_)
  obtain ⟨wo3, ⟨M1, c2, a2, rfl, rfl, hR2, ht2, hM1⟩, rfl⟩ := h
  show VJ C (k + 1) (n + 6) 1059 [(5, .int (nI c1)), (0, .ref b), (1, .ref (ad 0)), (2, .ref (am 0)), (3, .ref ao), (4, .int (nI i))] [.long a2] ((ao, aJ C.D 1 tj1) :: (BW C.D ad S1 ++ MW C.D am M1))
  obtain ⟨rfl, hA, hE1⟩ := det_outs hE hB.1 _ hR1 hR2
  refine v_lstore g [(6, .long a2), (5, .int (nI c1)), (0, .ref b), (1, .ref (ad 0)), (2, .ref (am 0)), (3, .ref ao), (4, .int (nI i))] dlaw_1059 (by decide) rfl ?_
  refine v_aload_n g dlaw_1061 2 rfl 4 rfl ?_
  refine v_callV0 (As := []) (rest := []) cw_L_81 (hy_X8_thrown) g (vM.frameL (mr_thrown C.l C.D am M1) ((ao, aJ C.D 1 tj1) :: BW C.D ad S1)) dlaw_1062 87 rfl rfl rfl (by decide) ⟨hk, hn⟩ (by decide) _ rfl (fun r wo h => ?_)
  obtain ⟨wo4, ⟨rfl, rfl⟩, rfl⟩ := h
  show VJ C (k + 1) (n + 6) 1065 [(6, .long a2), (5, .int (nI c1)), (0, .ref b), (1, .ref (ad 0)), (2, .ref (am 0)), (3, .ref ao), (4, .int (nI i))] [.int (nI M1.f_thrown)] ((ao, aJ C.D 1 tj1) :: (BW C.D ad S1 ++ MW C.D am M1))
  rw [ht2]
  refine v_iload g dlaw_1065 1 rfl ?_
  refine v_icmp_eq g 1072 dlaw_1067 (by decide) (fun _ => ?_) (fun h => absurd rfl h)
  refine v_iload g dlaw_1072 1 rfl ?_
  refine v_if_neN g 1088 dlaw_1074 (by decide) (Nat.lt_trans (cb_outs hR1) (by decide)) (fun _ => ?_) (fun hc => ?_)
  · skip
    refine v_goto g 1147 dlaw_1088 (by decide) ?_
    exact v_lpick [2, 3, 4, 5, 6] [(0, .ref b), (1, .ref (ad 0)), (2, .ref (am 0)), (3, .ref ao), (4, .int (nI i))] rfl (KK S1 M1 tj1 hB1 hM1 hE1)
  · skip
    refine v_aload_n g dlaw_1077 3 rfl 5 rfl ?_
    refine v_iconst g dlaw_1078 (v := nI 0) (by decide +kernel) ?_
    refine v_laldJ g 0 rfl (by decide) (by decide) dlaw_1079 ?_
    refine v_lload g dlaw_1080 0 rfl ?_
    refine v_lcmp g dlaw_1082 ?_
    refine v_if_eq g 1088 dlaw_1083 (by decide) (fun _ => ?_) (fun h => absurd ((lg_cmp_eq _ _).mpr ((ha1 hc).trans (hA hc))) h)
    refine v_goto g 1147 dlaw_1088 (by decide) ?_
    exact v_lpick [2, 3, 4, 5, 6] [(0, .ref b), (1, .ref (ad 0)), (2, .ref (am 0)), (3, .ref ao), (4, .int (nI i))] rfl (KK S1 M1 tj1 hB1 hM1 hE1)
set_option maxRecDepth 100000 in
set_option maxHeartbeats 4000000 in
theorem k_look {C : Cx} {k n i b L ao : Nat} {xs : Nat → Int32} {ad am : Nat → Nat} {S : Sc} {M : Sm} {tj : Nat → Int64} (g : vG C code RL 8 room_1) (hNA : NoA C.s) (hT : noTr C.l) (hX : va_X b L xs C.s C.s.heap) (hbl : b < C.s.heap.size) (hbA : ¬ C.A b) (hL : L < 2 ^ 31) (hi : i + 5 ≤ L) (hk : k + 1 ≤ 601024) (hn : n + 6 ≤ 7293034) (hB : IB S) (hM : IM M) (hE : Eqv S.k (coM M))
    (KK : ∀ (S' : Sc) (M' : Sm) (tj' : Nat → Int64), IB S' → IM M' → Eqv S'.k (coM M') → VJ C (k + 1) (n + 6) 1147 [(0, .ref b), (1, .ref (ad 0)), (2, .ref (am 0)), (3, .ref ao), (4, .int (nI i))] [] ((ao, aJ C.D 1 tj') :: (BW C.D ad S' ++ MW C.D am M'))) : VJ C k n 1091 [(0, .ref b), (1, .ref (ad 0)), (2, .ref (am 0)), (3, .ref ao), (4, .int (nI i))] [] ((ao, aJ C.D 1 tj) :: (BW C.D ad S ++ MW C.D am M)) := by
  refine v_aload_n g dlaw_1091 1 rfl 1 rfl ?_
  refine v_aload_n g dlaw_1092 0 rfl 0 rfl ?_
  refine v_iload g dlaw_1093 4 rfl ?_
  refine v_iconst g dlaw_1095 (v := nI 1) (by decide +kernel) ?_
  refine v_iaddN g dlaw_1096 ?_
  refine v_sld g hX hbl hbA (by omega) hL dlaw_1097 ?_
  refine v_aload_n g dlaw_1098 3 rfl 3 rfl ?_
  refine v_callSW0 (As := [.ref (ad 0), .int (xs (i + 1)), .ref ao]) (rest := []) ws_139 hw_L_look g hNA (vMW.frameR (w_look C.l hT C.D ad S hB ao tj (xs (i + 1))) (MW C.D am M)) dlaw_1099 rfl (by decide) ⟨hk, hn⟩ (by decide) _ rfl (fun r wo h => ?_)
  obtain ⟨wo1, ⟨S1, c1, a1, tj1, rfl, rfl, hR1, ha1, hB1⟩, rfl⟩ := h
  show VJ C (k + 1) (n + 6) 1102 [(0, .ref b), (1, .ref (ad 0)), (2, .ref (am 0)), (3, .ref ao), (4, .int (nI i))] [.int (nI c1)] ((ao, aJ C.D 1 tj1) :: (BW C.D ad S1 ++ MW C.D am M))
  refine v_istore g [(5, .int (nI c1)), (0, .ref b), (1, .ref (ad 0)), (2, .ref (am 0)), (3, .ref ao), (4, .int (nI i))] dlaw_1102 (by decide) rfl ?_
  refine v_aload_n g dlaw_1104 2 rfl 3 rfl ?_
  refine v_aload_n g dlaw_1105 0 rfl 1 rfl ?_
  refine v_iload g dlaw_1106 5 rfl ?_
  refine v_iconst g dlaw_1108 (v := nI 1) (by decide +kernel) ?_
  refine v_iaddN g dlaw_1109 ?_
  refine v_sld g hX hbl hbA (by omega) hL dlaw_1110 ?_
  refine v_callV0 (As := [.int (xs (i + 1))]) (rest := []) cw_L_141 (hy_X8_look) g (vM.frameL (mr_look C.l C.D am M hM (xs (i + 1))) ((ao, aJ C.D 1 tj1) :: BW C.D ad S1)) dlaw_1111 87 rfl rfl rfl (by decide) ⟨hk, hn⟩ (by decide) _ rfl (fun r wo h => ?_)
  obtain ⟨wo3, ⟨M1, c2, a2, rfl, rfl, hR2, ht2, hM1⟩, rfl⟩ := h
  show VJ C (k + 1) (n + 6) 1114 [(5, .int (nI c1)), (0, .ref b), (1, .ref (ad 0)), (2, .ref (am 0)), (3, .ref ao), (4, .int (nI i))] [.int a2] ((ao, aJ C.D 1 tj1) :: (BW C.D ad S1 ++ MW C.D am M1))
  obtain ⟨rfl, hA, hE1⟩ := det_look hE hB.1 _ hR1 hR2
  refine v_istore g [(6, .int a2), (5, .int (nI c1)), (0, .ref b), (1, .ref (ad 0)), (2, .ref (am 0)), (3, .ref ao), (4, .int (nI i))] dlaw_1114 (by decide) rfl ?_
  refine v_aload_n g dlaw_1116 2 rfl 4 rfl ?_
  refine v_callV0 (As := []) (rest := []) cw_L_81 (hy_X8_thrown) g (vM.frameL (mr_thrown C.l C.D am M1) ((ao, aJ C.D 1 tj1) :: BW C.D ad S1)) dlaw_1117 87 rfl rfl rfl (by decide) ⟨hk, hn⟩ (by decide) _ rfl (fun r wo h => ?_)
  obtain ⟨wo4, ⟨rfl, rfl⟩, rfl⟩ := h
  show VJ C (k + 1) (n + 6) 1120 [(6, .int a2), (5, .int (nI c1)), (0, .ref b), (1, .ref (ad 0)), (2, .ref (am 0)), (3, .ref ao), (4, .int (nI i))] [.int (nI M1.f_thrown)] ((ao, aJ C.D 1 tj1) :: (BW C.D ad S1 ++ MW C.D am M1))
  rw [ht2]
  refine v_iload g dlaw_1120 1 rfl ?_
  refine v_icmp_eq g 1127 dlaw_1122 (by decide) (fun _ => ?_) (fun h => absurd rfl h)
  refine v_iload g dlaw_1127 1 rfl ?_
  refine v_if_neN g 1144 dlaw_1129 (by decide) (Nat.lt_trans (cb_look hR1) (by decide)) (fun _ => ?_) (fun hc => ?_)
  · skip
    refine v_goto g 1147 dlaw_1144 (by decide) ?_
    exact v_lpick [2, 3, 4, 5, 6] [(0, .ref b), (1, .ref (ad 0)), (2, .ref (am 0)), (3, .ref ao), (4, .int (nI i))] rfl (KK S1 M1 tj1 hB1 hM1 hE1)
  · skip
    refine v_aload_n g dlaw_1132 3 rfl 5 rfl ?_
    refine v_iconst g dlaw_1133 (v := nI 0) (by decide +kernel) ?_
    refine v_laldJ g 0 rfl (by decide) (by decide) dlaw_1134 ?_
    refine v_iload g dlaw_1135 0 rfl ?_
    refine v_i2l g dlaw_1137 ?_
    refine v_lcmp g dlaw_1138 ?_
    refine v_if_eq g 1144 dlaw_1139 (by decide) (fun _ => ?_) (fun h => absurd ((lg_cmp_eq _ _).mpr ((ha1 hc).trans (congrArg Int32.toInt64 (hA hc)))) h)
    refine v_goto g 1147 dlaw_1144 (by decide) ?_
    exact v_lpick [2, 3, 4, 5, 6] [(0, .ref b), (1, .ref (ad 0)), (2, .ref (am 0)), (3, .ref ao), (4, .int (nI i))] rfl (KK S1 M1 tj1 hB1 hM1 hE1)
