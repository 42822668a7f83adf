/-! the law: its loop -/
set_option maxRecDepth 100000 in
set_option maxHeartbeats 4000000 in
theorem k_step {C : Cx} {b L ao q k0 n0 : Nat} {xs : Nat → Int32} {ad am : Nat → Nat} {S : Sc} {M : Sm} {tj : Nat → Int64} (g : vG C code RL 8 room_1) (hNA : NoA C.s) (hT : noTr C.l) (hX : va_X b L xs C.s C.s.heap) (hbl : b < C.s.heap.size) (hbA : ¬ C.A b) (hL : L ≤ 2560) (hk : k0 ≤ 1000) (hn : n0 ≤ 100000) (hq : q < L / 5) (hB : IB S) (hM : IM M) (hE : Eqv S.k (coM M))
    (ih : ∀ (S' : Sc) (M' : Sm) (tj' : Nat → Int64), IB S' → IM M' → Eqv S'.k (coM M') → VJ C (k0 + (q + 1)) (n0 + 6 * (q + 1)) 23 [(0, .ref b), (1, .ref (ad 0)), (2, .ref (am 0)), (3, .ref ao), (4, .int (nI (5 * (q + 1))))] [] ((ao, aJ C.D 1 tj') :: (BW C.D ad S' ++ MW C.D am M'))) : VJ C (k0 + q) (n0 + 6 * q) 23 [(0, .ref b), (1, .ref (ad 0)), (2, .ref (am 0)), (3, .ref ao), (4, .int (nI (5 * q)))] [] ((ao, aJ C.D 1 tj) :: (BW C.D ad S ++ MW C.D am M)) := by
  have hL31 : L < 2 ^ 31 := by omega
  have hi : 5 * q + 5 ≤ L := by omega
  have hk1 : k0 + q + 1 ≤ 601024 := by omega
  have hn1 : n0 + 6 * q + 6 ≤ 7293034 := by omega
  have KK : ∀ (S' : Sc) (M' : Sm) (tj' : Nat → Int64), IB S' → IM M' → Eqv S'.k (coM M') → VJ C (k0 + q + 1) (n0 + 6 * q + 6) 1147 [(0, .ref b), (1, .ref (ad 0)), (2, .ref (am 0)), (3, .ref ao), (4, .int (nI (5 * q)))] [] ((ao, aJ C.D 1 tj') :: (BW C.D ad S' ++ MW C.D am M')) := by
    intro S' M' tj' hB' hM' hE'
    refine v_iincN g 5 [(4, .int (nI (5 * q + 5))), (0, .ref b), (1, .ref (ad 0)), (2, .ref (am 0)), (3, .ref ao)] dlaw_1147 4 rfl (by decide +kernel) (by decide) rfl ?_
    refine v_goto g 23 dlaw_1150 (by decide) ?_
    refine v_lpick [1, 2, 3, 4, 0] [(0, .ref b), (1, .ref (ad 0)), (2, .ref (am 0)), (3, .ref ao), (4, .int (nI (5 * (q + 1))))] rfl ?_
    exact v_widen (by omega) (by omega) (ih S' M' tj' hB' hM' hE')
  refine v_iload g dlaw_23 4 rfl ?_
  refine v_aload_n g dlaw_25 0 rfl 0 rfl ?_
  refine v_slen g hX hbl hbA dlaw_26 ?_
  refine v_iconst g dlaw_27 (v := nI 5) (by decide +kernel) ?_
  refine v_isub g dlaw_28 ?_
  refine v_icmp_gt g 1153 dlaw_29 (by decide) (fun h => absurd h (lp_in hq hL)) (fun _ => ?_)
  refine v_aload_n g dlaw_32 0 rfl 0 rfl ?_
  refine v_iload g dlaw_33 4 rfl ?_
  refine v_sld g hX hbl hbA (by omega) hL31 dlaw_35 ?_
  refine v_bipush g dlaw_36 (v := nI 31) (by decide +kernel) ?_
  refine v_iandW g ((xs (5 * q)).toBitVec) (31#32) rfl rfl dlaw_38 ?_
  obtain ⟨t, ht, e⟩ := and31 (xs (5 * q))
  refine v_toi (nI t) e ?_
  have hc : t = 0 ∨ t = 1 ∨ t = 2 ∨ t = 3 ∨ t = 4 ∨ t = 5 ∨ t = 6 ∨ t = 7 ∨ t = 8 ∨ t = 9 ∨ t = 10 ∨ t = 11 ∨ t = 12 ∨ t = 13 ∨ t = 14 ∨ t = 15 ∨ t = 16 ∨ 17 ≤ t := by omega
  rcases hc with rfl | rfl | rfl | rfl | rfl | rfl | rfl | rfl | rfl | rfl | rfl | rfl | rfl | rfl | rfl | rfl | rfl | hc
  · refine v_tabIn g 120 dlaw_39 (by decide) (by decide) (off := 81) rfl (by decide) ?_
    exact k_feed g hNA hT hX hbl hbA hL31 hi hk1 hn1 hB hM hE KK
  · refine v_tabIn g 220 dlaw_39 (by decide) (by decide) (off := 181) rfl (by decide) ?_
    exact k_wipe g hNA hT hX hbl hbA hL31 hi hk1 hn1 hB hM hE KK
  · refine v_tabIn g 233 dlaw_39 (by decide) (by decide) (off := 194) rfl (by decide) ?_
    by_cases hz : xs (5 * q + 2) = 0
    · exact k_keep0 g hNA hT hX hbl hbA hL31 hi hk1 hn1 hB hM hE hz KK
    · exact k_keep1 g hNA hT hX hbl hbA hL31 hi hk1 hn1 hB hM hE hz KK
  · refine v_tabIn g 317 dlaw_39 (by decide) (by decide) (off := 278) rfl (by decide) ?_
    exact k_digest g hNA hT hX hbl hbA hL31 hi hk1 hn1 hB hM hE KK
  · refine v_tabIn g 328 dlaw_39 (by decide) (by decide) (off := 289) rfl (by decide) ?_
    exact k_mac g hNA hT hX hbl hbA hL31 hi hk1 hn1 hB hM hE KK
  · refine v_tabIn g 364 dlaw_39 (by decide) (by decide) (off := 325) rfl (by decide) ?_
    exact k_stretch g hNA hT hX hbl hbA hL31 hi hk1 hn1 hB hM hE KK
  · refine v_tabIn g 412 dlaw_39 (by decide) (by decide) (off := 373) rfl (by decide) ?_
    exact k_label g hNA hT hX hbl hbA hL31 hi hk1 hn1 hB hM hE KK
  · refine v_tabIn g 472 dlaw_39 (by decide) (by decide) (off := 433) rfl (by decide) ?_
    exact k_block g hNA hT hX hbl hbA hL31 hi hk1 hn1 hB hM hE KK
  · refine v_tabIn g 520 dlaw_39 (by decide) (by decide) (off := 481) rfl (by decide) ?_
    exact k_tally g hNA hT hX hbl hbA hL31 hi hk1 hn1 hB hM hE KK
  · refine v_tabIn g 556 dlaw_39 (by decide) (by decide) (off := 517) rfl (by decide) ?_
    exact k_arm g hNA hT hX hbl hbA hL31 hi hk1 hn1 hB hM hE KK
  · refine v_tabIn g 604 dlaw_39 (by decide) (by decide) (off := 565) rfl (by decide) ?_
    exact k_turn g hNA hT hX hbl hbA hL31 hi hk1 hn1 hB hM hE KK
  · refine v_tabIn g 660 dlaw_39 (by decide) (by decide) (off := 621) rfl (by decide) ?_
    exact k_seal g hNA hT hX hbl hbA hL31 hi hk1 hn1 hB hM hE KK
  · refine v_tabIn g 772 dlaw_39 (by decide) (by decide) (off := 733) rfl (by decide) ?_
    exact k_unseal g hNA hT hX hbl hbA hL31 hi hk1 hn1 hB hM hE KK
  · refine v_tabIn g 884 dlaw_39 (by decide) (by decide) (off := 845) rfl (by decide) ?_
    by_cases hz : xs (5 * q + 3) = 0
    · exact k_shield0 g hNA hT hX hbl hbA hL31 hi hk1 hn1 hB hM hE hz KK
    · exact k_shield1 g hNA hT hX hbl hbA hL31 hi hk1 hn1 hB hM hE hz KK
  · refine v_tabIn g 980 dlaw_39 (by decide) (by decide) (off := 941) rfl (by decide) ?_
    exact k_out g hNA hT hX hbl hbA hL31 hi hk1 hn1 hB hM hE KK
  · refine v_tabIn g 1036 dlaw_39 (by decide) (by decide) (off := 997) rfl (by decide) ?_
    exact k_outs g hNA hT hX hbl hbA hL31 hi hk1 hn1 hB hM hE KK
  · refine v_tabIn g 1091 dlaw_39 (by decide) (by decide) (off := 1052) rfl (by decide) ?_
    exact k_look g hNA hT hX hbl hbA hL31 hi hk1 hn1 hB hM hE KK
  · refine v_tabOut g 1147 dlaw_39 (Or.inr ?_) (by decide) ?_
    · rw [nI_toInt (by omega)]; omega
    · exact v_widen (by omega) (by omega) (KK S M tj hB hM hE)
set_option maxRecDepth 100000 in
set_option maxHeartbeats 4000000 in
theorem k_loop {C : Cx} {b L ao : Nat} {xs : Nat → Int32} {ad am : Nat → Nat} (g : vG C code RL 8 room_1) (hNA : NoA C.s) (hT : noTr C.l) (hX : va_X b L xs C.s C.s.heap) (hbl : b < C.s.heap.size) (hbA : ¬ C.A b) (hL : L ≤ 2560) (k0 n0 : Nat) (hk : k0 ≤ 1000) (hn : n0 ≤ 100000)
    (E : ∀ (k n : Nat) (lv : List (Nat × Value)) (ws : va_W), k ≤ 601024 → n ≤ 7293034 → VJ C k n 1153 lv [] ws) : ∀ q, q ≤ L / 5 → ∀ (S : Sc) (M : Sm) (tj : Nat → Int64), IB S → IM M → Eqv S.k (coM M) → VJ C (k0 + q) (n0 + 6 * q) 23 [(0, .ref b), (1, .ref (ad 0)), (2, .ref (am 0)), (3, .ref ao), (4, .int (nI (5 * q)))] [] ((ao, aJ C.D 1 tj) :: (BW C.D ad S ++ MW C.D am M)) := by
  refine v_for (P := fun q => ∀ (S : Sc) (M : Sm) (tj : Nat → Int64), IB S → IM M → Eqv S.k (coM M) → VJ C (k0 + q) (n0 + 6 * q) 23 [(0, .ref b), (1, .ref (ad 0)), (2, .ref (am 0)), (3, .ref ao), (4, .int (nI (5 * q)))] [] ((ao, aJ C.D 1 tj) :: (BW C.D ad S ++ MW C.D am M))) (L / 5) ?_ ?_
  · intro q hq ih S M tj hB hM hE
    exact k_step g hNA hT hX hbl hbA hL hk hn hq hB hM hE ih
  · intro S M tj hB hM hE
    obtain ⟨q, hq⟩ : ∃ q, q = L / 5 := ⟨_, rfl⟩
    rw [← hq]
    show VJ C (k0 + q) (n0 + 6 * q) 23 [(0, .ref b), (1, .ref (ad 0)), (2, .ref (am 0)), (3, .ref ao), (4, .int (nI (5 * q)))] [] ((ao, aJ C.D 1 tj) :: (BW C.D ad S ++ MW C.D am M))
    refine v_iload g dlaw_23 4 rfl ?_
    refine v_aload_n g dlaw_25 0 rfl 0 rfl ?_
    refine v_slen g hX hbl hbA dlaw_26 ?_
    refine v_iconst g dlaw_27 (v := nI 5) (by decide +kernel) ?_
    refine v_isub g dlaw_28 ?_
    exact v_icmp_gt g 1153 dlaw_29 (by decide) (fun _ => E _ _ _ _ (by omega) (by omega)) (fun h => absurd (lp_out hq hL) h)
set_option maxRecDepth 100000 in
set_option maxHeartbeats 4000000 in
theorem k_law {C : Cx} {b L : Nat} {xs : Nat → Int32} (g : vG C code RL 8 room_1) (hNA : NoA C.s) (hT : noTr C.l) (hX : va_X b L xs C.s C.s.heap) (hbl : b < C.s.heap.size) (hbA : ¬ C.A b) (hL : L ≤ 2560)
    (E : ∀ (k n : Nat) (lv : List (Nat × Value)) (ws : va_W), k ≤ 601024 → n ≤ 7293034 → VJ C k n 1153 lv [] ws) : VJ C 0 0 0 [(0, .ref b)] [] [] := by
  refine v_new (ci := 7) [.null, .null, .null, .null, .null, .null, .null, .null, .null, .null] layX7 tyX7 tyX7_ok rfl (List.mem_of_getElem? (i := 65) (by decide +kernel)) (List.mem_of_getElem? (i := 66) (by decide +kernel)) (List.mem_of_getElem? (i := 43) (by decide +kernel)) df_X7 g (by decide) (by decide) dlaw_0 (fun q1 => ?_)
  show VJ C 1 10 3 [(0, .ref b)] [.ref q1] [(q1, .inr (7, [.null, .null, .null, .null, .null, .null, .null, .null, .null, .null]))]
  refine v_dup g dlaw_3 rfl ?_
  refine v_callI0 (As := []) (rest := [.ref q1]) cw_L_69 rfl (hy_X7_init) g (b_new C.l C.D q1) dlaw_4 rfl (by decide) (by decide) (Nat.le_of_ble_eq_true rfl) _ rfl (fun r wo h => ?_)
  obtain ⟨rfl, ad, had, rfl⟩ := h
  subst had
  show VJ C 86 6400 7 [(0, .ref b)] [.ref (ad 0)] (BW C.D ad S00)
  refine v_astore_n g [(1, .ref (ad 0)), (0, .ref b)] dlaw_7 1 rfl (by decide) rfl ?_
  refine v_new (ci := 8) [.int (nI 0), .null, .int (nI 0), .null, .int (nI 0), .null, .null, .null, .null, .null, .null, .null, .null, .null, .null, .null, .null, .null, .null, .null, .null, .null, .null, .int (nI 0), .null, .int (nI 0), .null, .null, .null, .null, .null, .null, .null, .null, .null, .null, .null] layX8 tyX8 tyX8_ok rfl (List.mem_of_getElem? (i := 765) (by decide +kernel)) (List.mem_of_getElem? (i := 766) (by decide +kernel)) (List.mem_of_getElem? (i := 51) (by decide +kernel)) df_X8 g (by decide) (by decide) dlaw_8 (fun q2 => ?_)
  show VJ C 87 6437 11 [(1, .ref (ad 0)), (0, .ref b)] [.ref q2] (BW C.D ad S00 ++ [(q2, .inr (8, [.int (nI 0), .null, .int (nI 0), .null, .int (nI 0), .null, .null, .null, .null, .null, .null, .null, .null, .null, .null, .null, .null, .null, .null, .null, .null, .null, .null, .int (nI 0), .null, .int (nI 0), .null, .null, .null, .null, .null, .null, .null, .null, .null, .null, .null]))])
  refine v_dup g dlaw_11 rfl ?_
  refine v_callI0 (As := []) (rest := [.ref q2]) cw_L_72 rfl (hy_X8_init) g (vM.frameL (m_new C.l C.D q2) (BW C.D ad S00)) dlaw_12 rfl (by decide) (by decide) (Nat.le_of_ble_eq_true rfl) _ rfl (fun r wo h => ?_)
  obtain ⟨wo1, ⟨rfl, am, M, ham, rfl, hM, hE⟩, rfl⟩ := h
  subst ham
  show VJ C 119 23233 15 [(1, .ref (ad 0)), (0, .ref b)] [.ref (am 0)] (BW C.D ad S00 ++ MW C.D am M)
  refine v_astore_n g [(2, .ref (am 0)), (1, .ref (ad 0)), (0, .ref b)] dlaw_15 2 rfl (by decide) rfl ?_
  refine v_iconst g dlaw_16 (v := nI 1) (by decide +kernel) ?_
  refine v_newL g (N := 1) (by decide) (by decide) (by decide) dlaw_17 (fun ao => ?_)
  refine v_last1 ?_
  show VJ C 120 23234 19 [(2, .ref (am 0)), (1, .ref (ad 0)), (0, .ref b)] [.ref ao] ((ao, aJ C.D 1 (fun _ => lN 0)) :: (BW C.D ad S00 ++ MW C.D am M))
  refine v_astore_n g [(3, .ref ao), (2, .ref (am 0)), (1, .ref (ad 0)), (0, .ref b)] dlaw_19 3 rfl (by decide) rfl ?_
  refine v_iconst g dlaw_20 (v := nI 0) (by decide +kernel) ?_
  refine v_istore g [(4, .int (nI 0)), (3, .ref ao), (2, .ref (am 0)), (1, .ref (ad 0)), (0, .ref b)] dlaw_21 (by decide) rfl ?_
  refine v_lpick [4, 3, 2, 1, 0] [(0, .ref b), (1, .ref (ad 0)), (2, .ref (am 0)), (3, .ref ao), (4, .int (nI 0))] rfl ?_
  exact k_loop g hNA hT hX hbl hbA hL 120 23234 (by decide) (by decide) E 0 (Nat.zero_le _) S00 M (fun _ => lN 0) IB00 hM hE
