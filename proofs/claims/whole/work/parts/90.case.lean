/-! the law: what a call does to both -/
set_option maxRecDepth 100000 in
set_option maxHeartbeats 4000000 in
theorem k_mac {C : Cx} {k n i b L ao : Nat} {xs : Nat → Int32} {ad am : Nat → Nat} {S : Sc} {M : Sm} {tj : Nat → Int64} (g : vG C code RL 8 room_1) (hNA : NoA C.s) (hT : noTr C.l) (hX : va_X b L xs C.s C.s.heap) (hbl : b < C.s.heap.size) (hbA : ¬ C.A b) (hL : L < 2 ^ 31) (hi : i + 5 ≤ L) (hk : k + 1 ≤ 601024) (hn : n + 6 ≤ 7293034) (hB : IB S) (hM : IM M) (hE : Eqv S.k (coM M))
    (KK : ∀ (S' : Sc) (M' : Sm) (tj' : Nat → Int64), IB S' → IM M' → Eqv S'.k (coM M') → VJ C (k + 1) (n + 6) 1147 [(0, .ref b), (1, .ref (ad 0)), (2, .ref (am 0)), (3, .ref ao), (4, .int (nI i))] [] ((ao, aJ C.D 1 tj') :: (BW C.D ad S' ++ MW C.D am M'))) : VJ C k n 328 [(0, .ref b), (1, .ref (ad 0)), (2, .ref (am 0)), (3, .ref ao), (4, .int (nI i))] [] ((ao, aJ C.D 1 tj) :: (BW C.D ad S ++ MW C.D am M)) := by
  refine v_aload_n g dlaw_328 1 rfl 1 rfl ?_
  refine v_aload_n g dlaw_329 0 rfl 0 rfl ?_
  refine v_iload g dlaw_330 4 rfl ?_
  refine v_iconst g dlaw_332 (v := nI 1) (by decide +kernel) ?_
  refine v_iaddN g dlaw_333 ?_
  refine v_sld g hX hbl hbA (by omega) hL dlaw_334 ?_
  refine v_callSW0 (As := [.ref (ad 0), .int (xs (i + 1))]) (rest := []) ws_97 hw_L_mac g hNA (vMW.frameR (vMW.frameL (w_mac C.l hT C.D ad S hB (xs (i + 1))) [(ao, aJ C.D 1 tj)]) (MW C.D am M)) dlaw_335 rfl (by decide) ⟨hk, hn⟩ (by decide) _ rfl (fun r wo h => ?_)
  obtain ⟨wo1, ⟨wo2, ⟨S1, c1, rfl, rfl, hR1, hB1⟩, rfl⟩, rfl⟩ := h
  show VJ C (k + 1) (n + 6) 338 [(0, .ref b), (1, .ref (ad 0)), (2, .ref (am 0)), (3, .ref ao), (4, .int (nI i))] [.int (nI c1)] ((ao, aJ C.D 1 tj) :: (BW C.D ad S1 ++ MW C.D am M))
  refine v_istore g [(5, .int (nI c1)), (0, .ref b), (1, .ref (ad 0)), (2, .ref (am 0)), (3, .ref ao), (4, .int (nI i))] dlaw_338 (by decide) rfl ?_
  refine v_aload_n g dlaw_340 2 rfl 3 rfl ?_
  refine v_aload_n g dlaw_341 0 rfl 1 rfl ?_
  refine v_iload g dlaw_342 5 rfl ?_
  refine v_iconst g dlaw_344 (v := nI 1) (by decide +kernel) ?_
  refine v_iaddN g dlaw_345 ?_
  refine v_sld g hX hbl hbA (by omega) hL dlaw_346 ?_
  refine v_callV0 (As := [.int (xs (i + 1))]) (rest := []) cw_L_100 (hy_X8_mac) g (vM.frameL (mr_mac C.l C.D am M hM (xs (i + 1))) ((ao, aJ C.D 1 tj) :: BW C.D ad S1)) dlaw_347 87 rfl rfl rfl (by decide) ⟨hk, hn⟩ (by decide) _ rfl (fun r wo h => ?_)
  obtain ⟨wo3, ⟨M1, c2, rfl, rfl, hR2, ht2, hM1⟩, rfl⟩ := h
  show VJ C (k + 1) (n + 6) 350 [(5, .int (nI c1)), (0, .ref b), (1, .ref (ad 0)), (2, .ref (am 0)), (3, .ref ao), (4, .int (nI i))] [] ((ao, aJ C.D 1 tj) :: (BW C.D ad S1 ++ MW C.D am M1))
  obtain ⟨rfl, hA, hE1⟩ := det_mac hE hB.1 _ hR1 hR2
  refine v_aload_n g dlaw_350 2 rfl 3 rfl ?_
  refine v_callV0 (As := []) (rest := []) cw_L_81 (hy_X8_thrown) g (vM.frameL (mr_thrown C.l C.D am M1) ((ao, aJ C.D 1 tj) :: BW C.D ad S1)) dlaw_351 87 rfl rfl rfl (by decide) ⟨hk, hn⟩ (by decide) _ rfl (fun r wo h => ?_)
  obtain ⟨wo4, ⟨rfl, rfl⟩, rfl⟩ := h
  show VJ C (k + 1) (n + 6) 354 [(5, .int (nI c1)), (0, .ref b), (1, .ref (ad 0)), (2, .ref (am 0)), (3, .ref ao), (4, .int (nI i))] [.int (nI M1.f_thrown)] ((ao, aJ C.D 1 tj) :: (BW C.D ad S1 ++ MW C.D am M1))
  rw [ht2]
  refine v_iload g dlaw_354 0 rfl ?_
  refine v_icmp_eq g 361 dlaw_356 (by decide) (fun _ => ?_) (fun h => absurd rfl h)
  refine v_goto g 1147 dlaw_361 (by decide) ?_
  exact v_lpick [1, 2, 3, 4, 5] [(0, .ref b), (1, .ref (ad 0)), (2, .ref (am 0)), (3, .ref ao), (4, .int (nI i))] rfl (KK S1 M1 tj hB1 hM1 hE1)
set_option maxRecDepth 100000 in
set_option maxHeartbeats 4000000 in
theorem k_stretch {C : Cx} {k n i b L ao : Nat} {xs : Nat → Int32} {ad am : Nat → Nat} {S : Sc} {M : Sm} {tj : Nat → Int64} (g : vG C code RL 8 room_1) (hNA : NoA C.s) (hT : noTr C.l) (hX : va_X b L xs C.s C.s.heap) (hbl : b < C.s.heap.size) (hbA : ¬ C.A b) (hL : L < 2 ^ 31) (hi : i + 5 ≤ L) (hk : k + 1 ≤ 601024) (hn : n + 6 ≤ 7293034) (hB : IB S) (hM : IM M) (hE : Eqv S.k (coM M))
    (KK : ∀ (S' : Sc) (M' : Sm) (tj' : Nat → Int64), IB S' → IM M' → Eqv S'.k (coM M') → VJ C (k + 1) (n + 6) 1147 [(0, .ref b), (1, .ref (ad 0)), (2, .ref (am 0)), (3, .ref ao), (4, .int (nI i))] [] ((ao, aJ C.D 1 tj') :: (BW C.D ad S' ++ MW C.D am M'))) : VJ C k n 364 [(0, .ref b), (1, .ref (ad 0)), (2, .ref (am 0)), (3, .ref ao), (4, .int (nI i))] [] ((ao, aJ C.D 1 tj) :: (BW C.D ad S ++ MW C.D am M)) := by
  refine v_aload_n g dlaw_364 1 rfl 1 rfl ?_
  refine v_aload_n g dlaw_365 0 rfl 0 rfl ?_
  refine v_iload g dlaw_366 4 rfl ?_
  refine v_iconst g dlaw_368 (v := nI 1) (by decide +kernel) ?_
  refine v_iaddN g dlaw_369 ?_
  refine v_sld g hX hbl hbA (by omega) hL dlaw_370 ?_
  refine v_aload_n g dlaw_371 0 rfl 0 rfl ?_
  refine v_iload g dlaw_372 4 rfl ?_
  refine v_iconst g dlaw_374 (v := nI 2) (by decide +kernel) ?_
  refine v_iaddN g dlaw_375 ?_
  refine v_sld g hX hbl hbA (by omega) hL dlaw_376 ?_
  refine v_callSW0 (As := [.ref (ad 0), .int (xs (i + 1)), .int (xs (i + 2))]) (rest := []) ws_101 hw_L_stretch g hNA (vMW.frameR (vMW.frameL (w_stretch C.l hT C.D ad S hB (xs (i + 1)) (xs (i + 2))) [(ao, aJ C.D 1 tj)]) (MW C.D am M)) dlaw_377 rfl (by decide) ⟨hk, hn⟩ (by decide) _ rfl (fun r wo h => ?_)
  obtain ⟨wo1, ⟨wo2, ⟨S1, c1, rfl, rfl, hR1, hB1⟩, rfl⟩, rfl⟩ := h
  show VJ C (k + 1) (n + 6) 380 [(0, .ref b), (1, .ref (ad 0)), (2, .ref (am 0)), (3, .ref ao), (4, .int (nI i))] [.int (nI c1)] ((ao, aJ C.D 1 tj) :: (BW C.D ad S1 ++ MW C.D am M))
  refine v_istore g [(5, .int (nI c1)), (0, .ref b), (1, .ref (ad 0)), (2, .ref (am 0)), (3, .ref ao), (4, .int (nI i))] dlaw_380 (by decide) rfl ?_
  refine v_aload_n g dlaw_382 2 rfl 3 rfl ?_
  refine v_aload_n g dlaw_383 0 rfl 1 rfl ?_
  refine v_iload g dlaw_384 5 rfl ?_
  refine v_iconst g dlaw_386 (v := nI 1) (by decide +kernel) ?_
  refine v_iaddN g dlaw_387 ?_
  refine v_sld g hX hbl hbA (by omega) hL dlaw_388 ?_
  refine v_aload_n g dlaw_389 0 rfl 1 rfl ?_
  refine v_iload g dlaw_390 5 rfl ?_
  refine v_iconst g dlaw_392 (v := nI 2) (by decide +kernel) ?_
  refine v_iaddN g dlaw_393 ?_
  refine v_sld g hX hbl hbA (by omega) hL dlaw_394 ?_
  refine v_callV0 (As := [.int (xs (i + 1)), .int (xs (i + 2))]) (rest := []) cw_L_104 (hy_X8_stretch) g (vM.frameL (mr_str C.l C.D am M hM (xs (i + 1)) (xs (i + 2))) ((ao, aJ C.D 1 tj) :: BW C.D ad S1)) dlaw_395 87 rfl rfl rfl (by decide) ⟨hk, hn⟩ (by decide) _ rfl (fun r wo h => ?_)
  obtain ⟨wo3, ⟨M1, c2, rfl, rfl, hR2, ht2, hM1⟩, rfl⟩ := h
  show VJ C (k + 1) (n + 6) 398 [(5, .int (nI c1)), (0, .ref b), (1, .ref (ad 0)), (2, .ref (am 0)), (3, .ref ao), (4, .int (nI i))] [] ((ao, aJ C.D 1 tj) :: (BW C.D ad S1 ++ MW C.D am M1))
  obtain ⟨rfl, hA, hE1⟩ := det_str hE hB.1 _ _ hR1 hR2
  refine v_aload_n g dlaw_398 2 rfl 3 rfl ?_
  refine v_callV0 (As := []) (rest := []) cw_L_81 (hy_X8_thrown) g (vM.frameL (mr_thrown C.l C.D am M1) ((ao, aJ C.D 1 tj) :: BW C.D ad S1)) dlaw_399 87 rfl rfl rfl (by decide) ⟨hk, hn⟩ (by decide) _ rfl (fun r wo h => ?_)
  obtain ⟨wo4, ⟨rfl, rfl⟩, rfl⟩ := h
  show VJ C (k + 1) (n + 6) 402 [(5, .int (nI c1)), (0, .ref b), (1, .ref (ad 0)), (2, .ref (am 0)), (3, .ref ao), (4, .int (nI i))] [.int (nI M1.f_thrown)] ((ao, aJ C.D 1 tj) :: (BW C.D ad S1 ++ MW C.D am M1))
  rw [ht2]
  refine v_iload g dlaw_402 0 rfl ?_
  refine v_icmp_eq g 409 dlaw_404 (by decide) (fun _ => ?_) (fun h => absurd rfl h)
  refine v_goto g 1147 dlaw_409 (by decide) ?_
  exact v_lpick [1, 2, 3, 4, 5] [(0, .ref b), (1, .ref (ad 0)), (2, .ref (am 0)), (3, .ref ao), (4, .int (nI i))] rfl (KK S1 M1 tj hB1 hM1 hE1)
set_option maxRecDepth 100000 in
set_option maxHeartbeats 4000000 in
theorem k_label {C : Cx} {k n i b L ao : Nat} {xs : Nat → Int32} {ad am : Nat → Nat} {S : Sc} {M : Sm} {tj : Nat → Int64} (g : vG C code RL 8 room_1) (hNA : NoA C.s) (hT : noTr C.l) (hX : va_X b L xs C.s C.s.heap) (hbl : b < C.s.heap.size) (hbA : ¬ C.A b) (hL : L < 2 ^ 31) (hi : i + 5 ≤ L) (hk : k + 1 ≤ 601024) (hn : n + 6 ≤ 7293034) (hB : IB S) (hM : IM M) (hE : Eqv S.k (coM M))
    (KK : ∀ (S' : Sc) (M' : Sm) (tj' : Nat → Int64), IB S' → IM M' → Eqv S'.k (coM M') → VJ C (k + 1) (n + 6) 1147 [(0, .ref b), (1, .ref (ad 0)), (2, .ref (am 0)), (3, .ref ao), (4, .int (nI i))] [] ((ao, aJ C.D 1 tj') :: (BW C.D ad S' ++ MW C.D am M'))) : VJ C k n 412 [(0, .ref b), (1, .ref (ad 0)), (2, .ref (am 0)), (3, .ref ao), (4, .int (nI i))] [] ((ao, aJ C.D 1 tj) :: (BW C.D ad S ++ MW C.D am M)) := by
  refine v_aload_n g dlaw_412 1 rfl 1 rfl ?_
  refine v_aload_n g dlaw_413 0 rfl 0 rfl ?_
  refine v_iload g dlaw_414 4 rfl ?_
  refine v_iconst g dlaw_416 (v := nI 1) (by decide +kernel) ?_
  refine v_iaddN g dlaw_417 ?_
  refine v_sld g hX hbl hbA (by omega) hL dlaw_418 ?_
  refine v_aload_n g dlaw_419 0 rfl 0 rfl ?_
  refine v_iload g dlaw_420 4 rfl ?_
  refine v_iconst g dlaw_422 (v := nI 2) (by decide +kernel) ?_
  refine v_iaddN g dlaw_423 ?_
  refine v_sld g hX hbl hbA (by omega) hL dlaw_424 ?_
  refine v_aload_n g dlaw_425 0 rfl 0 rfl ?_
  refine v_iload g dlaw_426 4 rfl ?_
  refine v_iconst g dlaw_428 (v := nI 3) (by decide +kernel) ?_
  refine v_iaddN g dlaw_429 ?_
  refine v_sld g hX hbl hbA (by omega) hL dlaw_430 ?_
  refine v_callSW0 (As := [.ref (ad 0), .int (xs (i + 1)), .int (xs (i + 2)), .int (xs (i + 3))]) (rest := []) ws_105 hw_L_label g hNA (vMW.frameR (vMW.frameL (w_label C.l hT C.D ad S hB (xs (i + 1)) (xs (i + 2)) (xs (i + 3))) [(ao, aJ C.D 1 tj)]) (MW C.D am M)) dlaw_431 rfl (by decide) ⟨hk, hn⟩ (by decide) _ rfl (fun r wo h => ?_)
  obtain ⟨wo1, ⟨wo2, ⟨S1, c1, rfl, rfl, hR1, hB1⟩, rfl⟩, rfl⟩ := h
  show VJ C (k + 1) (n + 6) 434 [(0, .ref b), (1, .ref (ad 0)), (2, .ref (am 0)), (3, .ref ao), (4, .int (nI i))] [.int (nI c1)] ((ao, aJ C.D 1 tj) :: (BW C.D ad S1 ++ MW C.D am M))
  refine v_istore g [(5, .int (nI c1)), (0, .ref b), (1, .ref (ad 0)), (2, .ref (am 0)), (3, .ref ao), (4, .int (nI i))] dlaw_434 (by decide) rfl ?_
  refine v_aload_n g dlaw_436 2 rfl 3 rfl ?_
  refine v_aload_n g dlaw_437 0 rfl 1 rfl ?_
  refine v_iload g dlaw_438 5 rfl ?_
  refine v_iconst g dlaw_440 (v := nI 1) (by decide +kernel) ?_
  refine v_iaddN g dlaw_441 ?_
  refine v_sld g hX hbl hbA (by omega) hL dlaw_442 ?_
  refine v_aload_n g dlaw_443 0 rfl 1 rfl ?_
  refine v_iload g dlaw_444 5 rfl ?_
  refine v_iconst g dlaw_446 (v := nI 2) (by decide +kernel) ?_
  refine v_iaddN g dlaw_447 ?_
  refine v_sld g hX hbl hbA (by omega) hL dlaw_448 ?_
  refine v_aload_n g dlaw_449 0 rfl 1 rfl ?_
  refine v_iload g dlaw_450 5 rfl ?_
  refine v_iconst g dlaw_452 (v := nI 3) (by decide +kernel) ?_
  refine v_iaddN g dlaw_453 ?_
  refine v_sld g hX hbl hbA (by omega) hL dlaw_454 ?_
  refine v_callV0 (As := [.int (xs (i + 1)), .int (xs (i + 2)), .int (xs (i + 3))]) (rest := []) cw_L_108 (hy_X8_label) g (vM.frameL (mr_lab C.l C.D am M hM (xs (i + 1)) (xs (i + 2)) (xs (i + 3))) ((ao, aJ C.D 1 tj) :: BW C.D ad S1)) dlaw_455 87 rfl rfl rfl (by decide) ⟨hk, hn⟩ (by decide) _ rfl (fun r wo h => ?_)
  obtain ⟨wo3, ⟨M1, c2, rfl, rfl, hR2, ht2, hM1⟩, rfl⟩ := h
  show VJ C (k + 1) (n + 6) 458 [(5, .int (nI c1)), (0, .ref b), (1, .ref (ad 0)), (2, .ref (am 0)), (3, .ref ao), (4, .int (nI i))] [] ((ao, aJ C.D 1 tj) :: (BW C.D ad S1 ++ MW C.D am M1))
  obtain ⟨rfl, hA, hE1⟩ := det_lab hE hB.1 _ _ _ hR1 hR2
  refine v_aload_n g dlaw_458 2 rfl 3 rfl ?_
  refine v_callV0 (As := []) (rest := []) cw_L_81 (hy_X8_thrown) g (vM.frameL (mr_thrown C.l C.D am M1) ((ao, aJ C.D 1 tj) :: BW C.D ad S1)) dlaw_459 87 rfl rfl rfl (by decide) ⟨hk, hn⟩ (by decide) _ rfl (fun r wo h => ?_)
  obtain ⟨wo4, ⟨rfl, rfl⟩, rfl⟩ := h
  show VJ C (k + 1) (n + 6) 462 [(5, .int (nI c1)), (0, .ref b), (1, .ref (ad 0)), (2, .ref (am 0)), (3, .ref ao), (4, .int (nI i))] [.int (nI M1.f_thrown)] ((ao, aJ C.D 1 tj) :: (BW C.D ad S1 ++ MW C.D am M1))
  rw [ht2]
  refine v_iload g dlaw_462 0 rfl ?_
  refine v_icmp_eq g 469 dlaw_464 (by decide) (fun _ => ?_) (fun h => absurd rfl h)
  refine v_goto g 1147 dlaw_469 (by decide) ?_
  exact v_lpick [1, 2, 3, 4, 5] [(0, .ref b), (1, .ref (ad 0)), (2, .ref (am 0)), (3, .ref ao), (4, .int (nI i))] rfl (KK S1 M1 tj hB1 hM1 hE1)
set_option maxRecDepth 100000 in
set_option maxHeartbeats 4000000 in
theorem k_block {C : Cx} {k n i b L ao : Nat} {xs : Nat → Int32} {ad am : Nat → Nat} {S : Sc} {M : Sm} {tj : Nat → Int64} (g : vG C code RL 8 room_1) (hNA : NoA C.s) (hT : noTr C.l) (hX : va_X b L xs C.s C.s.heap) (hbl : b < C.s.heap.size) (hbA : ¬ C.A b) (hL : L < 2 ^ 31) (hi : i + 5 ≤ L) (hk : k + 1 ≤ 601024) (hn : n + 6 ≤ 7293034) (hB : IB S) (hM : IM M) (hE : Eqv S.k (coM M))
    (KK : ∀ (S' : Sc) (M' : Sm) (tj' : Nat → Int64), IB S' → IM M' → Eqv S'.k (coM M') → VJ C (k + 1) (n + 6) 1147 [(0, .ref b), (1, .ref (ad 0)), (2, .ref (am 0)), (3, .ref ao), (4, .int (nI i))] [] ((ao, aJ C.D 1 tj') :: (BW C.D ad S' ++ MW C.D am M'))) : VJ C k n 472 [(0, .ref b), (1, .ref (ad 0)), (2, .ref (am 0)), (3, .ref ao), (4, .int (nI i))] [] ((ao, aJ C.D 1 tj) :: (BW C.D ad S ++ MW C.D am M)) := by
  refine v_aload_n g dlaw_472 1 rfl 1 rfl ?_
  refine v_aload_n g dlaw_473 0 rfl 0 rfl ?_
  refine v_iload g dlaw_474 4 rfl ?_
  refine v_iconst g dlaw_476 (v := nI 1) (by decide +kernel) ?_
  refine v_iaddN g dlaw_477 ?_
  refine v_sld g hX hbl hbA (by omega) hL dlaw_478 ?_
  refine v_aload_n g dlaw_479 0 rfl 0 rfl ?_
  refine v_iload g dlaw_480 4 rfl ?_
  refine v_iconst g dlaw_482 (v := nI 2) (by decide +kernel) ?_
  refine v_iaddN g dlaw_483 ?_
  refine v_sld g hX hbl hbA (by omega) hL dlaw_484 ?_
  refine v_callSW0 (As := [.ref (ad 0), .int (xs (i + 1)), .int (xs (i + 2))]) (rest := []) ws_109 hw_L_block g hNA (vMW.frameR (vMW.frameL (w_block C.l hT C.D ad S hB (xs (i + 1)) (xs (i + 2)).toBitVec) [(ao, aJ C.D 1 tj)]) (MW C.D am M)) dlaw_485 rfl (by decide) ⟨hk, hn⟩ (by decide) _ rfl (fun r wo h => ?_)
  obtain ⟨wo1, ⟨wo2, ⟨S1, c1, rfl, rfl, hR1, hB1⟩, rfl⟩, rfl⟩ := h
  show VJ C (k + 1) (n + 6) 488 [(0, .ref b), (1, .ref (ad 0)), (2, .ref (am 0)), (3, .ref ao), (4, .int (nI i))] [.int (nI c1)] ((ao, aJ C.D 1 tj) :: (BW C.D ad S1 ++ MW C.D am M))
  refine v_istore g [(5, .int (nI c1)), (0, .ref b), (1, .ref (ad 0)), (2, .ref (am 0)), (3, .ref ao), (4, .int (nI i))] dlaw_488 (by decide) rfl ?_
  refine v_aload_n g dlaw_490 2 rfl 3 rfl ?_
  refine v_aload_n g dlaw_491 0 rfl 1 rfl ?_
  refine v_iload g dlaw_492 5 rfl ?_
  refine v_iconst g dlaw_494 (v := nI 1) (by decide +kernel) ?_
  refine v_iaddN g dlaw_495 ?_
  refine v_sld g hX hbl hbA (by omega) hL dlaw_496 ?_
  refine v_aload_n g dlaw_497 0 rfl 1 rfl ?_
  refine v_iload g dlaw_498 5 rfl ?_
  refine v_iconst g dlaw_500 (v := nI 2) (by decide +kernel) ?_
  refine v_iaddN g dlaw_501 ?_
  refine v_sld g hX hbl hbA (by omega) hL dlaw_502 ?_
  refine v_callV0 (As := [.int (xs (i + 1)), .int (xs (i + 2))]) (rest := []) cw_L_111 (hy_X8_block) g (vM.frameL (mr_blk C.l C.D am M hM (xs (i + 1)) (xs (i + 2)).toBitVec) ((ao, aJ C.D 1 tj) :: BW C.D ad S1)) dlaw_503 87 rfl rfl rfl (by decide) ⟨hk, hn⟩ (by decide) _ rfl (fun r wo h => ?_)
  obtain ⟨wo3, ⟨M1, c2, rfl, rfl, hR2, ht2, hM1⟩, rfl⟩ := h
  show VJ C (k + 1) (n + 6) 506 [(5, .int (nI c1)), (0, .ref b), (1, .ref (ad 0)), (2, .ref (am 0)), (3, .ref ao), (4, .int (nI i))] [] ((ao, aJ C.D 1 tj) :: (BW C.D ad S1 ++ MW C.D am M1))
  obtain ⟨rfl, hA, hE1⟩ := det_blk hE hB.1 _ _ hR1 hR2
  refine v_aload_n g dlaw_506 2 rfl 3 rfl ?_
  refine v_callV0 (As := []) (rest := []) cw_L_81 (hy_X8_thrown) g (vM.frameL (mr_thrown C.l C.D am M1) ((ao, aJ C.D 1 tj) :: BW C.D ad S1)) dlaw_507 87 rfl rfl rfl (by decide) ⟨hk, hn⟩ (by decide) _ rfl (fun r wo h => ?_)
  obtain ⟨wo4, ⟨rfl, rfl⟩, rfl⟩ := h
  show VJ C (k + 1) (n + 6) 510 [(5, .int (nI c1)), (0, .ref b), (1, .ref (ad 0)), (2, .ref (am 0)), (3, .ref ao), (4, .int (nI i))] [.int (nI M1.f_thrown)] ((ao, aJ C.D 1 tj) :: (BW C.D ad S1 ++ MW C.D am M1))
  rw [ht2]
  refine v_iload g dlaw_510 0 rfl ?_
  refine v_icmp_eq g 517 dlaw_512 (by decide) (fun _ => ?_) (fun h => absurd rfl h)
  refine v_goto g 1147 dlaw_517 (by decide) ?_
  exact v_lpick [1, 2, 3, 4, 5] [(0, .ref b), (1, .ref (ad 0)), (2, .ref (am 0)), (3, .ref ao), (4, .int (nI i))] rfl (KK S1 M1 tj hB1 hM1 hE1)
set_option maxRecDepth 100000 in
set_option maxHeartbeats 4000000 in
theorem k_tally {C : Cx} {k n i b L ao : Nat} {xs : Nat → Int32} {ad am : Nat → Nat} {S : Sc} {M : Sm} {tj : Nat → Int64} (g : vG C code RL 8 room_1) (hNA : NoA C.s) (hT : noTr C.l) (hX : va_X b L xs C.s C.s.heap) (hbl : b < C.s.heap.size) (hbA : ¬ C.A b) (hL : L < 2 ^ 31) (hi : i + 5 ≤ L) (hk : k + 1 ≤ 601024) (hn : n + 6 ≤ 7293034) (hB : IB S) (hM : IM M) (hE : Eqv S.k (coM M))
    (KK : ∀ (S' : Sc) (M' : Sm) (tj' : Nat → Int64), IB S' → IM M' → Eqv S'.k (coM M') → VJ C (k + 1) (n + 6) 1147 [(0, .ref b), (1, .ref (ad 0)), (2, .ref (am 0)), (3, .ref ao), (4, .int (nI i))] [] ((ao, aJ C.D 1 tj') :: (BW C.D ad S' ++ MW C.D am M'))) : VJ C k n 520 [(0, .ref b), (1, .ref (ad 0)), (2, .ref (am 0)), (3, .ref ao), (4, .int (nI i))] [] ((ao, aJ C.D 1 tj) :: (BW C.D ad S ++ MW C.D am M)) := by
  refine v_aload_n g dlaw_520 1 rfl 1 rfl ?_
  refine v_aload_n g dlaw_521 0 rfl 0 rfl ?_
  refine v_iload g dlaw_522 4 rfl ?_
  refine v_iconst g dlaw_524 (v := nI 1) (by decide +kernel) ?_
  refine v_iaddN g dlaw_525 ?_
  refine v_sld g hX hbl hbA (by omega) hL dlaw_526 ?_
  refine v_callSW0 (As := [.ref (ad 0), .int (xs (i + 1))]) (rest := []) ws_112 hw_L_tally g hNA (vMW.frameR (vMW.frameL (w_tally C.l hT C.D ad S hB (xs (i + 1))) [(ao, aJ C.D 1 tj)]) (MW C.D am M)) dlaw_527 rfl (by decide) ⟨hk, hn⟩ (by decide) _ rfl (fun r wo h => ?_)
  obtain ⟨wo1, ⟨wo2, ⟨S1, c1, rfl, rfl, hR1, hB1⟩, rfl⟩, rfl⟩ := h
  show VJ C (k + 1) (n + 6) 530 [(0, .ref b), (1, .ref (ad 0)), (2, .ref (am 0)), (3, .ref ao), (4, .int (nI i))] [.int (nI c1)] ((ao, aJ C.D 1 tj) :: (BW C.D ad S1 ++ MW C.D am M))
  refine v_istore g [(5, .int (nI c1)), (0, .ref b), (1, .ref (ad 0)), (2, .ref (am 0)), (3, .ref ao), (4, .int (nI i))] dlaw_530 (by decide) rfl ?_
  refine v_aload_n g dlaw_532 2 rfl 3 rfl ?_
  refine v_aload_n g dlaw_533 0 rfl 1 rfl ?_
  refine v_iload g dlaw_534 5 rfl ?_
  refine v_iconst g dlaw_536 (v := nI 1) (by decide +kernel) ?_
  refine v_iaddN g dlaw_537 ?_
  refine v_sld g hX hbl hbA (by omega) hL dlaw_538 ?_
  refine v_callV0 (As := [.int (xs (i + 1))]) (rest := []) cw_L_114 (hy_X8_tally) g (vM.frameL (mr_tal C.l C.D am M hM (xs (i + 1))) ((ao, aJ C.D 1 tj) :: BW C.D ad S1)) dlaw_539 87 rfl rfl rfl (by decide) ⟨hk, hn⟩ (by decide) _ rfl (fun r wo h => ?_)
  obtain ⟨wo3, ⟨M1, c2, rfl, rfl, hR2, ht2, hM1⟩, rfl⟩ := h
  show VJ C (k + 1) (n + 6) 542 [(5, .int (nI c1)), (0, .ref b), (1, .ref (ad 0)), (2, .ref (am 0)), (3, .ref ao), (4, .int (nI i))] [] ((ao, aJ C.D 1 tj) :: (BW C.D ad S1 ++ MW C.D am M1))
  obtain ⟨rfl, hA, hE1⟩ := det_tal hE hB.1 _ hR1 hR2
  refine v_aload_n g dlaw_542 2 rfl 3 rfl ?_
  refine v_callV0 (As := []) (rest := []) cw_L_81 (hy_X8_thrown) g (vM.frameL (mr_thrown C.l C.D am M1) ((ao, aJ C.D 1 tj) :: BW C.D ad S1)) dlaw_543 87 rfl rfl rfl (by decide) ⟨hk, hn⟩ (by decide) _ rfl (fun r wo h => ?_)
  obtain ⟨wo4, ⟨rfl, rfl⟩, rfl⟩ := h
  show VJ C (k + 1) (n + 6) 546 [(5, .int (nI c1)), (0, .ref b), (1, .ref (ad 0)), (2, .ref (am 0)), (3, .ref ao), (4, .int (nI i))] [.int (nI M1.f_thrown)] ((ao, aJ C.D 1 tj) :: (BW C.D ad S1 ++ MW C.D am M1))
  rw [ht2]
  refine v_iload g dlaw_546 0 rfl ?_
  refine v_icmp_eq g 553 dlaw_548 (by decide) (fun _ => ?_) (fun h => absurd rfl h)
  refine v_goto g 1147 dlaw_553 (by decide) ?_
  exact v_lpick [1, 2, 3, 4, 5] [(0, .ref b), (1, .ref (ad 0)), (2, .ref (am 0)), (3, .ref ao), (4, .int (nI i))] rfl (KK S1 M1 tj hB1 hM1 hE1)
set_option maxRecDepth 100000 in
set_option maxHeartbeats 4000000 in
theorem k_arm {C : Cx} {k n i b L ao : Nat} {xs : Nat → Int32} {ad am : Nat → Nat} {S : Sc} {M : Sm} {tj : Nat → Int64} (g : vG C code RL 8 room_1) (hNA : NoA C.s) (hT : noTr C.l) (hX : va_X b L xs C.s C.s.heap) (hbl : b < C.s.heap.size) (hbA : ¬ C.A b) (hL : L < 2 ^ 31) (hi : i + 5 ≤ L) (hk : k + 1 ≤ 601024) (hn : n + 6 ≤ 7293034) (hB : IB S) (hM : IM M) (hE : Eqv S.k (coM M))
    (KK : ∀ (S' : Sc) (M' : Sm) (tj' : Nat → Int64), IB S' → IM M' → Eqv S'.k (coM M') → VJ C (k + 1) (n + 6) 1147 [(0, .ref b), (1, .ref (ad 0)), (2, .ref (am 0)), (3, .ref ao), (4, .int (nI i))] [] ((ao, aJ C.D 1 tj') :: (BW C.D ad S' ++ MW C.D am M'))) : VJ C k n 556 [(0, .ref b), (1, .ref (ad 0)), (2, .ref (am 0)), (3, .ref ao), (4, .int (nI i))] [] ((ao, aJ C.D 1 tj) :: (BW C.D ad S ++ MW C.D am M)) := by
  refine v_aload_n g dlaw_556 1 rfl 1 rfl ?_
  refine v_aload_n g dlaw_557 0 rfl 0 rfl ?_
  refine v_iload g dlaw_558 4 rfl ?_
  refine v_iconst g dlaw_560 (v := nI 1) (by decide +kernel) ?_
  refine v_iaddN g dlaw_561 ?_
  refine v_sld g hX hbl hbA (by omega) hL dlaw_562 ?_
  refine v_aload_n g dlaw_563 0 rfl 0 rfl ?_
  refine v_iload g dlaw_564 4 rfl ?_
  refine v_iconst g dlaw_566 (v := nI 2) (by decide +kernel) ?_
  refine v_iaddN g dlaw_567 ?_
  refine v_sld g hX hbl hbA (by omega) hL dlaw_568 ?_
  refine v_callSW0 (As := [.ref (ad 0), .int (xs (i + 1)), .int (xs (i + 2))]) (rest := []) ws_115 hw_L_arm g hNA (vMW.frameR (vMW.frameL (w_arm C.l hT C.D ad S hB (xs (i + 1)) (xs (i + 2))) [(ao, aJ C.D 1 tj)]) (MW C.D am M)) dlaw_569 rfl (by decide) ⟨hk, hn⟩ (by decide) _ rfl (fun r wo h => ?_)
  obtain ⟨wo1, ⟨wo2, ⟨S1, c1, rfl, rfl, hR1, hB1⟩, rfl⟩, rfl⟩ := h
  show VJ C (k + 1) (n + 6) 572 [(0, .ref b), (1, .ref (ad 0)), (2, .ref (am 0)), (3, .ref ao), (4, .int (nI i))] [.int (nI c1)] ((ao, aJ C.D 1 tj) :: (BW C.D ad S1 ++ MW C.D am M))
  refine v_istore g [(5, .int (nI c1)), (0, .ref b), (1, .ref (ad 0)), (2, .ref (am 0)), (3, .ref ao), (4, .int (nI i))] dlaw_572 (by decide) rfl ?_
  refine v_aload_n g dlaw_574 2 rfl 3 rfl ?_
  refine v_aload_n g dlaw_575 0 rfl 1 rfl ?_
  refine v_iload g dlaw_576 5 rfl ?_
  refine v_iconst g dlaw_578 (v := nI 1) (by decide +kernel) ?_
  refine v_iaddN g dlaw_579 ?_
  refine v_sld g hX hbl hbA (by omega) hL dlaw_580 ?_
  refine v_aload_n g dlaw_581 0 rfl 1 rfl ?_
  refine v_iload g dlaw_582 5 rfl ?_
  refine v_iconst g dlaw_584 (v := nI 2) (by decide +kernel) ?_
  refine v_iaddN g dlaw_585 ?_
  refine v_sld g hX hbl hbA (by omega) hL dlaw_586 ?_
  refine v_callV0 (As := [.int (xs (i + 1)), .int (xs (i + 2))]) (rest := []) cw_L_117 (hy_X8_arm) g (vM.frameL (mr_arm C.l C.D am M hM (xs (i + 1)) (xs (i + 2))) ((ao, aJ C.D 1 tj) :: BW C.D ad S1)) dlaw_587 87 rfl rfl rfl (by decide) ⟨hk, hn⟩ (by decide) _ rfl (fun r wo h => ?_)
  obtain ⟨wo3, ⟨M1, c2, rfl, rfl, hR2, ht2, hM1⟩, rfl⟩ := h
  show VJ C (k + 1) (n + 6) 590 [(5, .int (nI c1)), (0, .ref b), (1, .ref (ad 0)), (2, .ref (am 0)), (3, .ref ao), (4, .int (nI i))] [] ((ao, aJ C.D 1 tj) :: (BW C.D ad S1 ++ MW C.D am M1))
  obtain ⟨rfl, hA, hE1⟩ := det_arm hE hB.1 _ _ hR1 hR2
  refine v_aload_n g dlaw_590 2 rfl 3 rfl ?_
  refine v_callV0 (As := []) (rest := []) cw_L_81 (hy_X8_thrown) g (vM.frameL (mr_thrown C.l C.D am M1) ((ao, aJ C.D 1 tj) :: BW C.D ad S1)) dlaw_591 87 rfl rfl rfl (by decide) ⟨hk, hn⟩ (by decide) _ rfl (fun r wo h => ?_)
  obtain ⟨wo4, ⟨rfl, rfl⟩, rfl⟩ := h
  show VJ C (k + 1) (n + 6) 594 [(5, .int (nI c1)), (0, .ref b), (1, .ref (ad 0)), (2, .ref (am 0)), (3, .ref ao), (4, .int (nI i))] [.int (nI M1.f_thrown)] ((ao, aJ C.D 1 tj) :: (BW C.D ad S1 ++ MW C.D am M1))
  rw [ht2]
  refine v_iload g dlaw_594 0 rfl ?_
  refine v_icmp_eq g 601 dlaw_596 (by decide) (fun _ => ?_) (fun h => absurd rfl h)
  refine v_goto g 1147 dlaw_601 (by decide) ?_
  exact v_lpick [1, 2, 3, 4, 5] [(0, .ref b), (1, .ref (ad 0)), (2, .ref (am 0)), (3, .ref ao), (4, .int (nI i))] rfl (KK S1 M1 tj hB1 hM1 hE1)
